theorem dX0_init_0 : decode cX0_init 0 = .ok (.aload_n 0, 1) := by decide +kernel
theorem dX0_init_1 : decode cX0_init 1 = .ok (.invokespecial 3, 3) := by decide +kernel
theorem dX0_init_4 : decode cX0_init 4 = .ok (.aload_n 0, 1) := by decide +kernel
theorem dX0_init_5 : decode cX0_init 5 = .ok (.sipush 160, 3) := by decide +kernel
theorem dX0_init_8 : decode cX0_init 8 = .ok (.newarray .int, 2) := by decide +kernel
theorem dX0_init_10 : decode cX0_init 10 = .ok (.putfield 9, 3) := by decide +kernel
theorem dX0_init_13 : decode cX0_init 13 = .ok (.aload_n 0, 1) := by decide +kernel
theorem dX0_init_14 : decode cX0_init 14 = .ok (.iconst 0, 1) := by decide +kernel
theorem dX0_init_15 : decode cX0_init 15 = .ok (.putfield 15, 3) := by decide +kernel
theorem dX0_init_18 : decode cX0_init 18 = .ok (.return_, 1) := by decide +kernel
theorem dX0_append_0 : decode cX0_append 0 = .ok (.aload_n 0, 1) := by decide +kernel
theorem dX0_append_1 : decode cX0_append 1 = .ok (.getfield 15, 3) := by decide +kernel
theorem dX0_append_4 : decode cX0_append 4 = .ok (.sipush 160, 3) := by decide +kernel
theorem dX0_append_7 : decode cX0_append 7 = .ok (.if_icmp .lt 5, 3) := by decide +kernel
theorem dX0_append_10 : decode cX0_append 10 = .ok (.iconst 0, 1) := by decide +kernel
theorem dX0_append_11 : decode cX0_append 11 = .ok (.ireturn, 1) := by decide +kernel
theorem dX0_append_12 : decode cX0_append 12 = .ok (.aload_n 0, 1) := by decide +kernel
theorem dX0_append_13 : decode cX0_append 13 = .ok (.getfield 9, 3) := by decide +kernel
theorem dX0_append_16 : decode cX0_append 16 = .ok (.aload_n 0, 1) := by decide +kernel
theorem dX0_append_17 : decode cX0_append 17 = .ok (.getfield 15, 3) := by decide +kernel
theorem dX0_append_20 : decode cX0_append 20 = .ok (.iload_n 1, 1) := by decide +kernel
theorem dX0_append_21 : decode cX0_append 21 = .ok (.iastore, 1) := by decide +kernel
theorem dX0_append_22 : decode cX0_append 22 = .ok (.aload_n 0, 1) := by decide +kernel
theorem dX0_append_23 : decode cX0_append 23 = .ok (.dup, 1) := by decide +kernel
theorem dX0_append_24 : decode cX0_append 24 = .ok (.getfield 15, 3) := by decide +kernel
theorem dX0_append_27 : decode cX0_append 27 = .ok (.iconst 1, 1) := by decide +kernel
theorem dX0_append_28 : decode cX0_append 28 = .ok (.iadd, 1) := by decide +kernel
theorem dX0_append_29 : decode cX0_append 29 = .ok (.putfield 15, 3) := by decide +kernel
theorem dX0_append_32 : decode cX0_append 32 = .ok (.iconst 1, 1) := by decide +kernel
theorem dX0_append_33 : decode cX0_append 33 = .ok (.ireturn, 1) := by decide +kernel
theorem dX0_empty_0 : decode cX0_empty 0 = .ok (.aload_n 0, 1) := by decide +kernel
theorem dX0_empty_1 : decode cX0_empty 1 = .ok (.iconst 0, 1) := by decide +kernel
theorem dX0_empty_2 : decode cX0_empty 2 = .ok (.putfield 15, 3) := by decide +kernel
theorem dX0_empty_5 : decode cX0_empty 5 = .ok (.return_, 1) := by decide +kernel
theorem dX0_read_0 : decode cX0_read 0 = .ok (.aload_n 0, 1) := by decide +kernel
theorem dX0_read_1 : decode cX0_read 1 = .ok (.aload_n 1, 1) := by decide +kernel
theorem dX0_read_2 : decode cX0_read 2 = .ok (.putfield 19, 3) := by decide +kernel
theorem dX0_read_5 : decode cX0_read 5 = .ok (.aload_n 0, 1) := by decide +kernel
theorem dX0_read_6 : decode cX0_read 6 = .ok (.getfield 19, 3) := by decide +kernel
theorem dX0_read_9 : decode cX0_read 9 = .ok (.iconst 0, 1) := by decide +kernel
theorem dX0_read_10 : decode cX0_read 10 = .ok (.putfield 23, 3) := by decide +kernel
theorem dX0_read_13 : decode cX0_read 13 = .ok (.aload_n 0, 1) := by decide +kernel
theorem dX0_read_14 : decode cX0_read 14 = .ok (.iconst 0, 1) := by decide +kernel
theorem dX0_read_15 : decode cX0_read 15 = .ok (.putfield 26, 3) := by decide +kernel
theorem dX0_read_18 : decode cX0_read 18 = .ok (.aload_n 0, 1) := by decide +kernel
theorem dX0_read_19 : decode cX0_read 19 = .ok (.iconst (-1), 1) := by decide +kernel
theorem dX0_read_20 : decode cX0_read 20 = .ok (.putfield 29, 3) := by decide +kernel
theorem dX0_read_23 : decode cX0_read 23 = .ok (.aload_n 0, 1) := by decide +kernel
theorem dX0_read_24 : decode cX0_read 24 = .ok (.invokevirtual 32, 3) := by decide +kernel
theorem dX0_read_27 : decode cX0_read 27 = .ok (.iconst 0, 1) := by decide +kernel
theorem dX0_read_28 : decode cX0_read 28 = .ok (.istore_n 2, 1) := by decide +kernel
theorem dX0_read_29 : decode cX0_read 29 = .ok (.iload_n 2, 1) := by decide +kernel
theorem dX0_read_30 : decode cX0_read 30 = .ok (.iconst 3, 1) := by decide +kernel
theorem dX0_read_31 : decode cX0_read 31 = .ok (.if_icmp .ge 46, 3) := by decide +kernel
theorem dX0_read_34 : decode cX0_read 34 = .ok (.aload_n 0, 1) := by decide +kernel
theorem dX0_read_35 : decode cX0_read 35 = .ok (.sipush 10006, 3) := by decide +kernel
theorem dX0_read_38 : decode cX0_read 38 = .ok (.iload_n 2, 1) := by decide +kernel
theorem dX0_read_39 : decode cX0_read 39 = .ok (.iadd, 1) := by decide +kernel
theorem dX0_read_40 : decode cX0_read 40 = .ok (.invokevirtual 35, 3) := by decide +kernel
theorem dX0_read_43 : decode cX0_read 43 = .ok (.aload_n 0, 1) := by decide +kernel
theorem dX0_read_44 : decode cX0_read 44 = .ok (.iconst 0, 1) := by decide +kernel
theorem dX0_read_45 : decode cX0_read 45 = .ok (.invokevirtual 39, 3) := by decide +kernel
theorem dX0_read_48 : decode cX0_read 48 = .ok (.aload_n 0, 1) := by decide +kernel
theorem dX0_read_49 : decode cX0_read 49 = .ok (.sipush 10014, 3) := by decide +kernel
theorem dX0_read_52 : decode cX0_read 52 = .ok (.invokevirtual 35, 3) := by decide +kernel
theorem dX0_read_55 : decode cX0_read 55 = .ok (.aload_n 0, 1) := by decide +kernel
theorem dX0_read_56 : decode cX0_read 56 = .ok (.getfield 19, 3) := by decide +kernel
theorem dX0_read_59 : decode cX0_read 59 = .ok (.getfield 42, 3) := by decide +kernel
theorem dX0_read_62 : decode cX0_read 62 = .ok (.iload_n 2, 1) := by decide +kernel
theorem dX0_read_63 : decode cX0_read 63 = .ok (.aload_n 0, 1) := by decide +kernel
theorem dX0_read_64 : decode cX0_read 64 = .ok (.getfield 19, 3) := by decide +kernel
theorem dX0_read_67 : decode cX0_read 67 = .ok (.getfield 23, 3) := by decide +kernel
theorem dX0_read_70 : decode cX0_read 70 = .ok (.iastore, 1) := by decide +kernel
theorem dX0_read_71 : decode cX0_read 71 = .ok (.iinc 2 1, 3) := by decide +kernel
theorem dX0_read_74 : decode cX0_read 74 = .ok (.goto (-45), 3) := by decide +kernel
theorem dX0_read_77 : decode cX0_read 77 = .ok (.aload_n 0, 1) := by decide +kernel
theorem dX0_read_78 : decode cX0_read 78 = .ok (.sipush 10021, 3) := by decide +kernel
theorem dX0_read_81 : decode cX0_read 81 = .ok (.invokevirtual 35, 3) := by decide +kernel
theorem dX0_read_84 : decode cX0_read 84 = .ok (.aload_n 0, 1) := by decide +kernel
theorem dX0_read_85 : decode cX0_read 85 = .ok (.getfield 29, 3) := by decide +kernel
theorem dX0_read_88 : decode cX0_read 88 = .ok (.ireturn, 1) := by decide +kernel
theorem dX0_refuse_0 : decode cX0_refuse 0 = .ok (.aload_n 0, 1) := by decide +kernel
theorem dX0_refuse_1 : decode cX0_refuse 1 = .ok (.getfield 29, 3) := by decide +kernel
theorem dX0_refuse_4 : decode cX0_refuse 4 = .ok (.iconst (-1), 1) := by decide +kernel
theorem dX0_refuse_5 : decode cX0_refuse 5 = .ok (.if_icmp .ne 11, 3) := by decide +kernel
theorem dX0_refuse_8 : decode cX0_refuse 8 = .ok (.aload_n 0, 1) := by decide +kernel
theorem dX0_refuse_9 : decode cX0_refuse 9 = .ok (.aload_n 0, 1) := by decide +kernel
theorem dX0_refuse_10 : decode cX0_refuse 10 = .ok (.getfield 45, 3) := by decide +kernel
theorem dX0_refuse_13 : decode cX0_refuse 13 = .ok (.putfield 29, 3) := by decide +kernel
theorem dX0_refuse_16 : decode cX0_refuse 16 = .ok (.aload_n 0, 1) := by decide +kernel
theorem dX0_refuse_17 : decode cX0_refuse 17 = .ok (.sipush 10022, 3) := by decide +kernel
theorem dX0_refuse_20 : decode cX0_refuse 20 = .ok (.putfield 48, 3) := by decide +kernel
theorem dX0_refuse_23 : decode cX0_refuse 23 = .ok (.return_, 1) := by decide +kernel
theorem dX0_demand_0 : decode cX0_demand 0 = .ok (.aload_n 0, 1) := by decide +kernel
theorem dX0_demand_1 : decode cX0_demand 1 = .ok (.getfield 48, 3) := by decide +kernel
theorem dX0_demand_4 : decode cX0_demand 4 = .ok (.iload_n 1, 1) := by decide +kernel
theorem dX0_demand_5 : decode cX0_demand 5 = .ok (.if_icmp .ne 10, 3) := by decide +kernel
theorem dX0_demand_8 : decode cX0_demand 8 = .ok (.aload_n 0, 1) := by decide +kernel
theorem dX0_demand_9 : decode cX0_demand 9 = .ok (.invokevirtual 32, 3) := by decide +kernel
theorem dX0_demand_12 : decode cX0_demand 12 = .ok (.goto 7, 3) := by decide +kernel
theorem dX0_demand_15 : decode cX0_demand 15 = .ok (.aload_n 0, 1) := by decide +kernel
theorem dX0_demand_16 : decode cX0_demand 16 = .ok (.invokevirtual 51, 3) := by decide +kernel
theorem dX0_demand_19 : decode cX0_demand 19 = .ok (.return_, 1) := by decide +kernel
theorem dX0_readOr_0 : decode cX0_readOr 0 = .ok (.aload_n 0, 1) := by decide +kernel
theorem dX0_readOr_1 : decode cX0_readOr 1 = .ok (.iload_n 1, 1) := by decide +kernel
theorem dX0_readOr_2 : decode cX0_readOr 2 = .ok (.invokevirtual 54, 3) := by decide +kernel
theorem dX0_readOr_5 : decode cX0_readOr 5 = .ok (.iconst 0, 1) := by decide +kernel
theorem dX0_readOr_6 : decode cX0_readOr 6 = .ok (.istore_n 2, 1) := by decide +kernel
theorem dX0_readOr_7 : decode cX0_readOr 7 = .ok (.iload_n 2, 1) := by decide +kernel
theorem dX0_readOr_8 : decode cX0_readOr 8 = .ok (.sipush 160, 3) := by decide +kernel
theorem dX0_readOr_11 : decode cX0_readOr 11 = .ok (.if_icmp .ge 38, 3) := by decide +kernel
theorem dX0_readOr_14 : decode cX0_readOr 14 = .ok (.aload_n 0, 1) := by decide +kernel
theorem dX0_readOr_15 : decode cX0_readOr 15 = .ok (.getfield 48, 3) := by decide +kernel
theorem dX0_readOr_18 : decode cX0_readOr 18 = .ok (.sipush 10009, 3) := by decide +kernel
theorem dX0_readOr_21 : decode cX0_readOr 21 = .ok (.if_icmp .ne 28, 3) := by decide +kernel
theorem dX0_readOr_24 : decode cX0_readOr 24 = .ok (.aload_n 0, 1) := by decide +kernel
theorem dX0_readOr_25 : decode cX0_readOr 25 = .ok (.invokevirtual 32, 3) := by decide +kernel
theorem dX0_readOr_28 : decode cX0_readOr 28 = .ok (.aload_n 0, 1) := by decide +kernel
theorem dX0_readOr_29 : decode cX0_readOr 29 = .ok (.iload_n 1, 1) := by decide +kernel
theorem dX0_readOr_30 : decode cX0_readOr 30 = .ok (.invokevirtual 54, 3) := by decide +kernel
theorem dX0_readOr_33 : decode cX0_readOr 33 = .ok (.aload_n 0, 1) := by decide +kernel
theorem dX0_readOr_34 : decode cX0_readOr 34 = .ok (.getfield 19, 3) := by decide +kernel
theorem dX0_readOr_37 : decode cX0_readOr 37 = .ok (.sipush 10009, 3) := by decide +kernel
theorem dX0_readOr_40 : decode cX0_readOr 40 = .ok (.invokevirtual 57, 3) := by decide +kernel
theorem dX0_readOr_43 : decode cX0_readOr 43 = .ok (.iinc 2 1, 3) := by decide +kernel
theorem dX0_readOr_46 : decode cX0_readOr 46 = .ok (.goto (-39), 3) := by decide +kernel
theorem dX0_readOr_49 : decode cX0_readOr 49 = .ok (.return_, 1) := by decide +kernel
theorem dX0_readAnd_0 : decode cX0_readAnd 0 = .ok (.aload_n 0, 1) := by decide +kernel
theorem dX0_readAnd_1 : decode cX0_readAnd 1 = .ok (.iload_n 1, 1) := by decide +kernel
theorem dX0_readAnd_2 : decode cX0_readAnd 2 = .ok (.invokevirtual 60, 3) := by decide +kernel
theorem dX0_readAnd_5 : decode cX0_readAnd 5 = .ok (.iconst 0, 1) := by decide +kernel
theorem dX0_readAnd_6 : decode cX0_readAnd 6 = .ok (.istore_n 2, 1) := by decide +kernel
theorem dX0_readAnd_7 : decode cX0_readAnd 7 = .ok (.iload_n 2, 1) := by decide +kernel
theorem dX0_readAnd_8 : decode cX0_readAnd 8 = .ok (.sipush 160, 3) := by decide +kernel
theorem dX0_readAnd_11 : decode cX0_readAnd 11 = .ok (.if_icmp .ge 38, 3) := by decide +kernel
theorem dX0_readAnd_14 : decode cX0_readAnd 14 = .ok (.aload_n 0, 1) := by decide +kernel
theorem dX0_readAnd_15 : decode cX0_readAnd 15 = .ok (.getfield 48, 3) := by decide +kernel
theorem dX0_readAnd_18 : decode cX0_readAnd 18 = .ok (.sipush 10010, 3) := by decide +kernel
theorem dX0_readAnd_21 : decode cX0_readAnd 21 = .ok (.if_icmp .ne 28, 3) := by decide +kernel
theorem dX0_readAnd_24 : decode cX0_readAnd 24 = .ok (.aload_n 0, 1) := by decide +kernel
theorem dX0_readAnd_25 : decode cX0_readAnd 25 = .ok (.invokevirtual 32, 3) := by decide +kernel
theorem dX0_readAnd_28 : decode cX0_readAnd 28 = .ok (.aload_n 0, 1) := by decide +kernel
theorem dX0_readAnd_29 : decode cX0_readAnd 29 = .ok (.iload_n 1, 1) := by decide +kernel
theorem dX0_readAnd_30 : decode cX0_readAnd 30 = .ok (.invokevirtual 60, 3) := by decide +kernel
theorem dX0_readAnd_33 : decode cX0_readAnd 33 = .ok (.aload_n 0, 1) := by decide +kernel
theorem dX0_readAnd_34 : decode cX0_readAnd 34 = .ok (.getfield 19, 3) := by decide +kernel
theorem dX0_readAnd_37 : decode cX0_readAnd 37 = .ok (.sipush 10010, 3) := by decide +kernel
theorem dX0_readAnd_40 : decode cX0_readAnd 40 = .ok (.invokevirtual 57, 3) := by decide +kernel
theorem dX0_readAnd_43 : decode cX0_readAnd 43 = .ok (.iinc 2 1, 3) := by decide +kernel
theorem dX0_readAnd_46 : decode cX0_readAnd 46 = .ok (.goto (-39), 3) := by decide +kernel
theorem dX0_readAnd_49 : decode cX0_readAnd 49 = .ok (.return_, 1) := by decide +kernel
theorem dX0_readNot_0 : decode cX0_readNot 0 = .ok (.aload_n 0, 1) := by decide +kernel
theorem dX0_readNot_1 : decode cX0_readNot 1 = .ok (.getfield 48, 3) := by decide +kernel
theorem dX0_readNot_4 : decode cX0_readNot 4 = .ok (.sipush 10011, 3) := by decide +kernel
theorem dX0_readNot_7 : decode cX0_readNot 7 = .ok (.if_icmp .ne 30, 3) := by decide +kernel
theorem dX0_readNot_10 : decode cX0_readNot 10 = .ok (.iload_n 1, 1) := by decide +kernel
theorem dX0_readNot_11 : decode cX0_readNot 11 = .ok (.iconst 5, 1) := by decide +kernel
theorem dX0_readNot_12 : decode cX0_readNot 12 = .ok (.if_icmp .ge 25, 3) := by decide +kernel
theorem dX0_readNot_15 : decode cX0_readNot 15 = .ok (.aload_n 0, 1) := by decide +kernel
theorem dX0_readNot_16 : decode cX0_readNot 16 = .ok (.invokevirtual 32, 3) := by decide +kernel
theorem dX0_readNot_19 : decode cX0_readNot 19 = .ok (.aload_n 0, 1) := by decide +kernel
theorem dX0_readNot_20 : decode cX0_readNot 20 = .ok (.iload_n 1, 1) := by decide +kernel
theorem dX0_readNot_21 : decode cX0_readNot 21 = .ok (.iconst 1, 1) := by decide +kernel
theorem dX0_readNot_22 : decode cX0_readNot 22 = .ok (.iadd, 1) := by decide +kernel
theorem dX0_readNot_23 : decode cX0_readNot 23 = .ok (.invokevirtual 60, 3) := by decide +kernel
theorem dX0_readNot_26 : decode cX0_readNot 26 = .ok (.aload_n 0, 1) := by decide +kernel
theorem dX0_readNot_27 : decode cX0_readNot 27 = .ok (.getfield 19, 3) := by decide +kernel
theorem dX0_readNot_30 : decode cX0_readNot 30 = .ok (.sipush 10011, 3) := by decide +kernel
theorem dX0_readNot_33 : decode cX0_readNot 33 = .ok (.invokevirtual 57, 3) := by decide +kernel
theorem dX0_readNot_36 : decode cX0_readNot 36 = .ok (.return_, 1) := by decide +kernel
theorem dX0_readNot_37 : decode cX0_readNot 37 = .ok (.aload_n 0, 1) := by decide +kernel
theorem dX0_readNot_38 : decode cX0_readNot 38 = .ok (.iload_n 1, 1) := by decide +kernel
theorem dX0_readNot_39 : decode cX0_readNot 39 = .ok (.invokevirtual 63, 3) := by decide +kernel
theorem dX0_readNot_42 : decode cX0_readNot 42 = .ok (.aload_n 0, 1) := by decide +kernel
theorem dX0_readNot_43 : decode cX0_readNot 43 = .ok (.getfield 48, 3) := by decide +kernel
theorem dX0_readNot_46 : decode cX0_readNot 46 = .ok (.sipush 10018, 3) := by decide +kernel
theorem dX0_readNot_49 : decode cX0_readNot 49 = .ok (.if_icmp .eq 13, 3) := by decide +kernel
theorem dX0_readNot_52 : decode cX0_readNot 52 = .ok (.aload_n 0, 1) := by decide +kernel
theorem dX0_readNot_53 : decode cX0_readNot 53 = .ok (.getfield 48, 3) := by decide +kernel
theorem dX0_readNot_56 : decode cX0_readNot 56 = .ok (.sipush 10019, 3) := by decide +kernel
theorem dX0_readNot_59 : decode cX0_readNot 59 = .ok (.if_icmp .ne 25, 3) := by decide +kernel
theorem dX0_readNot_62 : decode cX0_readNot 62 = .ok (.aload_n 0, 1) := by decide +kernel
theorem dX0_readNot_63 : decode cX0_readNot 63 = .ok (.getfield 48, 3) := by decide +kernel
theorem dX0_readNot_66 : decode cX0_readNot 66 = .ok (.istore_n 2, 1) := by decide +kernel
theorem dX0_readNot_67 : decode cX0_readNot 67 = .ok (.aload_n 0, 1) := by decide +kernel
theorem dX0_readNot_68 : decode cX0_readNot 68 = .ok (.invokevirtual 32, 3) := by decide +kernel
theorem dX0_readNot_71 : decode cX0_readNot 71 = .ok (.aload_n 0, 1) := by decide +kernel
theorem dX0_readNot_72 : decode cX0_readNot 72 = .ok (.iload_n 1, 1) := by decide +kernel
theorem dX0_readNot_73 : decode cX0_readNot 73 = .ok (.invokevirtual 63, 3) := by decide +kernel
theorem dX0_readNot_76 : decode cX0_readNot 76 = .ok (.aload_n 0, 1) := by decide +kernel
theorem dX0_readNot_77 : decode cX0_readNot 77 = .ok (.getfield 19, 3) := by decide +kernel
theorem dX0_readNot_80 : decode cX0_readNot 80 = .ok (.iload_n 2, 1) := by decide +kernel
theorem dX0_readNot_81 : decode cX0_readNot 81 = .ok (.invokevirtual 57, 3) := by decide +kernel
theorem dX0_readNot_84 : decode cX0_readNot 84 = .ok (.return_, 1) := by decide +kernel
theorem dX0_readSum_0 : decode cX0_readSum 0 = .ok (.aload_n 0, 1) := by decide +kernel
theorem dX0_readSum_1 : decode cX0_readSum 1 = .ok (.iload_n 1, 1) := by decide +kernel
theorem dX0_readSum_2 : decode cX0_readSum 2 = .ok (.invokevirtual 66, 3) := by decide +kernel
theorem dX0_readSum_5 : decode cX0_readSum 5 = .ok (.iconst 0, 1) := by decide +kernel
theorem dX0_readSum_6 : decode cX0_readSum 6 = .ok (.istore_n 2, 1) := by decide +kernel
theorem dX0_readSum_7 : decode cX0_readSum 7 = .ok (.iload_n 2, 1) := by decide +kernel
theorem dX0_readSum_8 : decode cX0_readSum 8 = .ok (.sipush 160, 3) := by decide +kernel
theorem dX0_readSum_11 : decode cX0_readSum 11 = .ok (.if_icmp .ge 51, 3) := by decide +kernel
theorem dX0_readSum_14 : decode cX0_readSum 14 = .ok (.aload_n 0, 1) := by decide +kernel
theorem dX0_readSum_15 : decode cX0_readSum 15 = .ok (.getfield 48, 3) := by decide +kernel
theorem dX0_readSum_18 : decode cX0_readSum 18 = .ok (.sipush 10015, 3) := by decide +kernel
theorem dX0_readSum_21 : decode cX0_readSum 21 = .ok (.if_icmp .eq 13, 3) := by decide +kernel
theorem dX0_readSum_24 : decode cX0_readSum 24 = .ok (.aload_n 0, 1) := by decide +kernel
theorem dX0_readSum_25 : decode cX0_readSum 25 = .ok (.getfield 48, 3) := by decide +kernel
theorem dX0_readSum_28 : decode cX0_readSum 28 = .ok (.sipush 10016, 3) := by decide +kernel
theorem dX0_readSum_31 : decode cX0_readSum 31 = .ok (.if_icmp .ne 31, 3) := by decide +kernel
theorem dX0_readSum_34 : decode cX0_readSum 34 = .ok (.aload_n 0, 1) := by decide +kernel
theorem dX0_readSum_35 : decode cX0_readSum 35 = .ok (.getfield 48, 3) := by decide +kernel
theorem dX0_readSum_38 : decode cX0_readSum 38 = .ok (.istore_n 3, 1) := by decide +kernel
theorem dX0_readSum_39 : decode cX0_readSum 39 = .ok (.aload_n 0, 1) := by decide +kernel
theorem dX0_readSum_40 : decode cX0_readSum 40 = .ok (.invokevirtual 32, 3) := by decide +kernel
theorem dX0_readSum_43 : decode cX0_readSum 43 = .ok (.aload_n 0, 1) := by decide +kernel
theorem dX0_readSum_44 : decode cX0_readSum 44 = .ok (.iload_n 1, 1) := by decide +kernel
theorem dX0_readSum_45 : decode cX0_readSum 45 = .ok (.invokevirtual 66, 3) := by decide +kernel
theorem dX0_readSum_48 : decode cX0_readSum 48 = .ok (.aload_n 0, 1) := by decide +kernel
theorem dX0_readSum_49 : decode cX0_readSum 49 = .ok (.getfield 19, 3) := by decide +kernel
theorem dX0_readSum_52 : decode cX0_readSum 52 = .ok (.iload_n 3, 1) := by decide +kernel
theorem dX0_readSum_53 : decode cX0_readSum 53 = .ok (.invokevirtual 57, 3) := by decide +kernel
theorem dX0_readSum_56 : decode cX0_readSum 56 = .ok (.iinc 2 1, 3) := by decide +kernel
theorem dX0_readSum_59 : decode cX0_readSum 59 = .ok (.goto (-52), 3) := by decide +kernel
theorem dX0_readSum_62 : decode cX0_readSum 62 = .ok (.return_, 1) := by decide +kernel
theorem dX0_readTerm_0 : decode cX0_readTerm 0 = .ok (.aload_n 0, 1) := by decide +kernel
theorem dX0_readTerm_1 : decode cX0_readTerm 1 = .ok (.iload_n 1, 1) := by decide +kernel
theorem dX0_readTerm_2 : decode cX0_readTerm 2 = .ok (.invokevirtual 69, 3) := by decide +kernel
theorem dX0_readTerm_5 : decode cX0_readTerm 5 = .ok (.iconst 0, 1) := by decide +kernel
theorem dX0_readTerm_6 : decode cX0_readTerm 6 = .ok (.istore_n 2, 1) := by decide +kernel
theorem dX0_readTerm_7 : decode cX0_readTerm 7 = .ok (.iload_n 2, 1) := by decide +kernel
theorem dX0_readTerm_8 : decode cX0_readTerm 8 = .ok (.sipush 160, 3) := by decide +kernel
theorem dX0_readTerm_11 : decode cX0_readTerm 11 = .ok (.if_icmp .ge 38, 3) := by decide +kernel
theorem dX0_readTerm_14 : decode cX0_readTerm 14 = .ok (.aload_n 0, 1) := by decide +kernel
theorem dX0_readTerm_15 : decode cX0_readTerm 15 = .ok (.getfield 48, 3) := by decide +kernel
theorem dX0_readTerm_18 : decode cX0_readTerm 18 = .ok (.sipush 10017, 3) := by decide +kernel
theorem dX0_readTerm_21 : decode cX0_readTerm 21 = .ok (.if_icmp .ne 28, 3) := by decide +kernel
theorem dX0_readTerm_24 : decode cX0_readTerm 24 = .ok (.aload_n 0, 1) := by decide +kernel
theorem dX0_readTerm_25 : decode cX0_readTerm 25 = .ok (.invokevirtual 32, 3) := by decide +kernel
theorem dX0_readTerm_28 : decode cX0_readTerm 28 = .ok (.aload_n 0, 1) := by decide +kernel
theorem dX0_readTerm_29 : decode cX0_readTerm 29 = .ok (.iload_n 1, 1) := by decide +kernel
theorem dX0_readTerm_30 : decode cX0_readTerm 30 = .ok (.invokevirtual 69, 3) := by decide +kernel
theorem dX0_readTerm_33 : decode cX0_readTerm 33 = .ok (.aload_n 0, 1) := by decide +kernel
theorem dX0_readTerm_34 : decode cX0_readTerm 34 = .ok (.getfield 19, 3) := by decide +kernel
theorem dX0_readTerm_37 : decode cX0_readTerm 37 = .ok (.sipush 10017, 3) := by decide +kernel
theorem dX0_readTerm_40 : decode cX0_readTerm 40 = .ok (.invokevirtual 57, 3) := by decide +kernel
theorem dX0_readTerm_43 : decode cX0_readTerm 43 = .ok (.iinc 2 1, 3) := by decide +kernel
theorem dX0_readTerm_46 : decode cX0_readTerm 46 = .ok (.goto (-39), 3) := by decide +kernel
theorem dX0_readTerm_49 : decode cX0_readTerm 49 = .ok (.return_, 1) := by decide +kernel
theorem dX0_readOne_0 : decode cX0_readOne 0 = .ok (.aload_n 0, 1) := by decide +kernel
theorem dX0_readOne_1 : decode cX0_readOne 1 = .ok (.getfield 48, 3) := by decide +kernel
theorem dX0_readOne_4 : decode cX0_readOne 4 = .ok (.sipush 10005, 3) := by decide +kernel
theorem dX0_readOne_7 : decode cX0_readOne 7 = .ok (.if_icmp .gt 21, 3) := by decide +kernel
theorem dX0_readOne_10 : decode cX0_readOne 10 = .ok (.aload_n 0, 1) := by decide +kernel
theorem dX0_readOne_11 : decode cX0_readOne 11 = .ok (.getfield 19, 3) := by decide +kernel
theorem dX0_readOne_14 : decode cX0_readOne 14 = .ok (.aload_n 0, 1) := by decide +kernel
theorem dX0_readOne_15 : decode cX0_readOne 15 = .ok (.getfield 48, 3) := by decide +kernel
theorem dX0_readOne_18 : decode cX0_readOne 18 = .ok (.invokevirtual 57, 3) := by decide +kernel
theorem dX0_readOne_21 : decode cX0_readOne 21 = .ok (.aload_n 0, 1) := by decide +kernel
theorem dX0_readOne_22 : decode cX0_readOne 22 = .ok (.invokevirtual 32, 3) := by decide +kernel
theorem dX0_readOne_25 : decode cX0_readOne 25 = .ok (.goto 82, 3) := by decide +kernel
theorem dX0_readOne_28 : decode cX0_readOne 28 = .ok (.aload_n 0, 1) := by decide +kernel
theorem dX0_readOne_29 : decode cX0_readOne 29 = .ok (.getfield 48, 3) := by decide +kernel
theorem dX0_readOne_32 : decode cX0_readOne 32 = .ok (.sipush 10016, 3) := by decide +kernel
theorem dX0_readOne_35 : decode cX0_readOne 35 = .ok (.if_icmp .ne 32, 3) := by decide +kernel
theorem dX0_readOne_38 : decode cX0_readOne 38 = .ok (.iload_n 1, 1) := by decide +kernel
theorem dX0_readOne_39 : decode cX0_readOne 39 = .ok (.iconst 5, 1) := by decide +kernel
theorem dX0_readOne_40 : decode cX0_readOne 40 = .ok (.if_icmp .ge 27, 3) := by decide +kernel
theorem dX0_readOne_43 : decode cX0_readOne 43 = .ok (.aload_n 0, 1) := by decide +kernel
theorem dX0_readOne_44 : decode cX0_readOne 44 = .ok (.invokevirtual 32, 3) := by decide +kernel
theorem dX0_readOne_47 : decode cX0_readOne 47 = .ok (.aload_n 0, 1) := by decide +kernel
theorem dX0_readOne_48 : decode cX0_readOne 48 = .ok (.iload_n 1, 1) := by decide +kernel
theorem dX0_readOne_49 : decode cX0_readOne 49 = .ok (.iconst 1, 1) := by decide +kernel
theorem dX0_readOne_50 : decode cX0_readOne 50 = .ok (.iadd, 1) := by decide +kernel
theorem dX0_readOne_51 : decode cX0_readOne 51 = .ok (.invokevirtual 69, 3) := by decide +kernel
theorem dX0_readOne_54 : decode cX0_readOne 54 = .ok (.aload_n 0, 1) := by decide +kernel
theorem dX0_readOne_55 : decode cX0_readOne 55 = .ok (.getfield 19, 3) := by decide +kernel
theorem dX0_readOne_58 : decode cX0_readOne 58 = .ok (.sipush 10020, 3) := by decide +kernel
theorem dX0_readOne_61 : decode cX0_readOne 61 = .ok (.invokevirtual 57, 3) := by decide +kernel
theorem dX0_readOne_64 : decode cX0_readOne 64 = .ok (.goto 43, 3) := by decide +kernel
theorem dX0_readOne_67 : decode cX0_readOne 67 = .ok (.aload_n 0, 1) := by decide +kernel
theorem dX0_readOne_68 : decode cX0_readOne 68 = .ok (.getfield 48, 3) := by decide +kernel
theorem dX0_readOne_71 : decode cX0_readOne 71 = .ok (.sipush 10012, 3) := by decide +kernel
theorem dX0_readOne_74 : decode cX0_readOne 74 = .ok (.if_icmp .ne 29, 3) := by decide +kernel
theorem dX0_readOne_77 : decode cX0_readOne 77 = .ok (.iload_n 1, 1) := by decide +kernel
theorem dX0_readOne_78 : decode cX0_readOne 78 = .ok (.iconst 5, 1) := by decide +kernel
theorem dX0_readOne_79 : decode cX0_readOne 79 = .ok (.if_icmp .ge 24, 3) := by decide +kernel
theorem dX0_readOne_82 : decode cX0_readOne 82 = .ok (.aload_n 0, 1) := by decide +kernel
theorem dX0_readOne_83 : decode cX0_readOne 83 = .ok (.invokevirtual 32, 3) := by decide +kernel
theorem dX0_readOne_86 : decode cX0_readOne 86 = .ok (.aload_n 0, 1) := by decide +kernel
theorem dX0_readOne_87 : decode cX0_readOne 87 = .ok (.iload_n 1, 1) := by decide +kernel
theorem dX0_readOne_88 : decode cX0_readOne 88 = .ok (.iconst 1, 1) := by decide +kernel
theorem dX0_readOne_89 : decode cX0_readOne 89 = .ok (.iadd, 1) := by decide +kernel
theorem dX0_readOne_90 : decode cX0_readOne 90 = .ok (.invokevirtual 39, 3) := by decide +kernel
theorem dX0_readOne_93 : decode cX0_readOne 93 = .ok (.aload_n 0, 1) := by decide +kernel
theorem dX0_readOne_94 : decode cX0_readOne 94 = .ok (.sipush 10013, 3) := by decide +kernel
theorem dX0_readOne_97 : decode cX0_readOne 97 = .ok (.invokevirtual 35, 3) := by decide +kernel
theorem dX0_readOne_100 : decode cX0_readOne 100 = .ok (.goto 7, 3) := by decide +kernel
theorem dX0_readOne_103 : decode cX0_readOne 103 = .ok (.aload_n 0, 1) := by decide +kernel
theorem dX0_readOne_104 : decode cX0_readOne 104 = .ok (.invokevirtual 51, 3) := by decide +kernel
theorem dX0_readOne_107 : decode cX0_readOne 107 = .ok (.return_, 1) := by decide +kernel
theorem dX0_advance_0 : decode cX0_advance 0 = .ok (.aload_n 0, 1) := by decide +kernel
theorem dX0_advance_1 : decode cX0_advance 1 = .ok (.getfield 26, 3) := by decide +kernel
theorem dX0_advance_4 : decode cX0_advance 4 = .ok (.aload_n 0, 1) := by decide +kernel
theorem dX0_advance_5 : decode cX0_advance 5 = .ok (.getfield 15, 3) := by decide +kernel
theorem dX0_advance_8 : decode cX0_advance 8 = .ok (.if_icmp .ge 44, 3) := by decide +kernel
theorem dX0_advance_11 : decode cX0_advance 11 = .ok (.aload_n 0, 1) := by decide +kernel
theorem dX0_advance_12 : decode cX0_advance 12 = .ok (.getfield 9, 3) := by decide +kernel
theorem dX0_advance_15 : decode cX0_advance 15 = .ok (.aload_n 0, 1) := by decide +kernel
theorem dX0_advance_16 : decode cX0_advance 16 = .ok (.getfield 26, 3) := by decide +kernel
theorem dX0_advance_19 : decode cX0_advance 19 = .ok (.iaload, 1) := by decide +kernel
theorem dX0_advance_20 : decode cX0_advance 20 = .ok (.bipush 32, 2) := by decide +kernel
theorem dX0_advance_22 : decode cX0_advance 22 = .ok (.if_icmp .eq 17, 3) := by decide +kernel
theorem dX0_advance_25 : decode cX0_advance 25 = .ok (.aload_n 0, 1) := by decide +kernel
theorem dX0_advance_26 : decode cX0_advance 26 = .ok (.getfield 9, 3) := by decide +kernel
theorem dX0_advance_29 : decode cX0_advance 29 = .ok (.aload_n 0, 1) := by decide +kernel
theorem dX0_advance_30 : decode cX0_advance 30 = .ok (.getfield 26, 3) := by decide +kernel
theorem dX0_advance_33 : decode cX0_advance 33 = .ok (.iaload, 1) := by decide +kernel
theorem dX0_advance_34 : decode cX0_advance 34 = .ok (.bipush 10, 2) := by decide +kernel
theorem dX0_advance_36 : decode cX0_advance 36 = .ok (.if_icmp .ne 16, 3) := by decide +kernel
theorem dX0_advance_39 : decode cX0_advance 39 = .ok (.aload_n 0, 1) := by decide +kernel
theorem dX0_advance_40 : decode cX0_advance 40 = .ok (.dup, 1) := by decide +kernel
theorem dX0_advance_41 : decode cX0_advance 41 = .ok (.getfield 26, 3) := by decide +kernel
theorem dX0_advance_44 : decode cX0_advance 44 = .ok (.iconst 1, 1) := by decide +kernel
theorem dX0_advance_45 : decode cX0_advance 45 = .ok (.iadd, 1) := by decide +kernel
theorem dX0_advance_46 : decode cX0_advance 46 = .ok (.putfield 26, 3) := by decide +kernel
theorem dX0_advance_49 : decode cX0_advance 49 = .ok (.goto (-49), 3) := by decide +kernel
theorem dX0_advance_52 : decode cX0_advance 52 = .ok (.aload_n 0, 1) := by decide +kernel
theorem dX0_advance_53 : decode cX0_advance 53 = .ok (.aload_n 0, 1) := by decide +kernel
theorem dX0_advance_54 : decode cX0_advance 54 = .ok (.getfield 26, 3) := by decide +kernel
theorem dX0_advance_57 : decode cX0_advance 57 = .ok (.putfield 45, 3) := by decide +kernel
theorem dX0_advance_60 : decode cX0_advance 60 = .ok (.aload_n 0, 1) := by decide +kernel
theorem dX0_advance_61 : decode cX0_advance 61 = .ok (.getfield 26, 3) := by decide +kernel
theorem dX0_advance_64 : decode cX0_advance 64 = .ok (.aload_n 0, 1) := by decide +kernel
theorem dX0_advance_65 : decode cX0_advance 65 = .ok (.getfield 15, 3) := by decide +kernel
theorem dX0_advance_68 : decode cX0_advance 68 = .ok (.if_icmp .lt 13, 3) := by decide +kernel
theorem dX0_advance_71 : decode cX0_advance 71 = .ok (.aload_n 0, 1) := by decide +kernel
theorem dX0_advance_72 : decode cX0_advance 72 = .ok (.sipush 10021, 3) := by decide +kernel
theorem dX0_advance_75 : decode cX0_advance 75 = .ok (.putfield 48, 3) := by decide +kernel
theorem dX0_advance_78 : decode cX0_advance 78 = .ok (.goto 81, 3) := by decide +kernel
theorem dX0_advance_81 : decode cX0_advance 81 = .ok (.aload_n 0, 1) := by decide +kernel
theorem dX0_advance_82 : decode cX0_advance 82 = .ok (.getfield 9, 3) := by decide +kernel
theorem dX0_advance_85 : decode cX0_advance 85 = .ok (.aload_n 0, 1) := by decide +kernel
theorem dX0_advance_86 : decode cX0_advance 86 = .ok (.getfield 26, 3) := by decide +kernel
theorem dX0_advance_89 : decode cX0_advance 89 = .ok (.iaload, 1) := by decide +kernel
theorem dX0_advance_90 : decode cX0_advance 90 = .ok (.invokestatic 72, 3) := by decide +kernel
theorem dX0_advance_93 : decode cX0_advance 93 = .ok (.ifCond .eq 14, 3) := by decide +kernel
theorem dX0_advance_96 : decode cX0_advance 96 = .ok (.aload_n 0, 1) := by decide +kernel
theorem dX0_advance_97 : decode cX0_advance 97 = .ok (.aload_n 0, 1) := by decide +kernel
theorem dX0_advance_98 : decode cX0_advance 98 = .ok (.invokevirtual 76, 3) := by decide +kernel
theorem dX0_advance_101 : decode cX0_advance 101 = .ok (.putfield 48, 3) := by decide +kernel
theorem dX0_advance_104 : decode cX0_advance 104 = .ok (.goto 55, 3) := by decide +kernel
theorem dX0_advance_107 : decode cX0_advance 107 = .ok (.aload_n 0, 1) := by decide +kernel
theorem dX0_advance_108 : decode cX0_advance 108 = .ok (.getfield 9, 3) := by decide +kernel
theorem dX0_advance_111 : decode cX0_advance 111 = .ok (.aload_n 0, 1) := by decide +kernel
theorem dX0_advance_112 : decode cX0_advance 112 = .ok (.getfield 26, 3) := by decide +kernel
theorem dX0_advance_115 : decode cX0_advance 115 = .ok (.iaload, 1) := by decide +kernel
theorem dX0_advance_116 : decode cX0_advance 116 = .ok (.invokestatic 80, 3) := by decide +kernel
theorem dX0_advance_119 : decode cX0_advance 119 = .ok (.ifCond .eq 14, 3) := by decide +kernel
theorem dX0_advance_122 : decode cX0_advance 122 = .ok (.aload_n 0, 1) := by decide +kernel
theorem dX0_advance_123 : decode cX0_advance 123 = .ok (.aload_n 0, 1) := by decide +kernel
theorem dX0_advance_124 : decode cX0_advance 124 = .ok (.invokevirtual 83, 3) := by decide +kernel
theorem dX0_advance_127 : decode cX0_advance 127 = .ok (.putfield 48, 3) := by decide +kernel
theorem dX0_advance_130 : decode cX0_advance 130 = .ok (.goto 29, 3) := by decide +kernel
theorem dX0_advance_133 : decode cX0_advance 133 = .ok (.aload_n 0, 1) := by decide +kernel
theorem dX0_advance_134 : decode cX0_advance 134 = .ok (.aload_n 0, 1) := by decide +kernel
theorem dX0_advance_135 : decode cX0_advance 135 = .ok (.getfield 9, 3) := by decide +kernel
theorem dX0_advance_138 : decode cX0_advance 138 = .ok (.aload_n 0, 1) := by decide +kernel
theorem dX0_advance_139 : decode cX0_advance 139 = .ok (.getfield 26, 3) := by decide +kernel
theorem dX0_advance_142 : decode cX0_advance 142 = .ok (.iaload, 1) := by decide +kernel
theorem dX0_advance_143 : decode cX0_advance 143 = .ok (.invokestatic 86, 3) := by decide +kernel
theorem dX0_advance_146 : decode cX0_advance 146 = .ok (.putfield 48, 3) := by decide +kernel
theorem dX0_advance_149 : decode cX0_advance 149 = .ok (.aload_n 0, 1) := by decide +kernel
theorem dX0_advance_150 : decode cX0_advance 150 = .ok (.dup, 1) := by decide +kernel
theorem dX0_advance_151 : decode cX0_advance 151 = .ok (.getfield 26, 3) := by decide +kernel
theorem dX0_advance_154 : decode cX0_advance 154 = .ok (.iconst 1, 1) := by decide +kernel
theorem dX0_advance_155 : decode cX0_advance 155 = .ok (.iadd, 1) := by decide +kernel
theorem dX0_advance_156 : decode cX0_advance 156 = .ok (.putfield 26, 3) := by decide +kernel
theorem dX0_advance_159 : decode cX0_advance 159 = .ok (.return_, 1) := by decide +kernel
theorem dX0_nextWord_0 : decode cX0_nextWord 0 = .ok (.aload_n 0, 1) := by decide +kernel
theorem dX0_nextWord_1 : decode cX0_nextWord 1 = .ok (.getfield 26, 3) := by decide +kernel
theorem dX0_nextWord_4 : decode cX0_nextWord 4 = .ok (.aload_n 0, 1) := by decide +kernel
theorem dX0_nextWord_5 : decode cX0_nextWord 5 = .ok (.getfield 15, 3) := by decide +kernel
theorem dX0_nextWord_8 : decode cX0_nextWord 8 = .ok (.if_icmp .ge 31, 3) := by decide +kernel
theorem dX0_nextWord_11 : decode cX0_nextWord 11 = .ok (.aload_n 0, 1) := by decide +kernel
theorem dX0_nextWord_12 : decode cX0_nextWord 12 = .ok (.getfield 9, 3) := by decide +kernel
theorem dX0_nextWord_15 : decode cX0_nextWord 15 = .ok (.aload_n 0, 1) := by decide +kernel
theorem dX0_nextWord_16 : decode cX0_nextWord 16 = .ok (.getfield 26, 3) := by decide +kernel
theorem dX0_nextWord_19 : decode cX0_nextWord 19 = .ok (.iaload, 1) := by decide +kernel
theorem dX0_nextWord_20 : decode cX0_nextWord 20 = .ok (.invokestatic 72, 3) := by decide +kernel
theorem dX0_nextWord_23 : decode cX0_nextWord 23 = .ok (.ifCond .eq 16, 3) := by decide +kernel
theorem dX0_nextWord_26 : decode cX0_nextWord 26 = .ok (.aload_n 0, 1) := by decide +kernel
theorem dX0_nextWord_27 : decode cX0_nextWord 27 = .ok (.dup, 1) := by decide +kernel
theorem dX0_nextWord_28 : decode cX0_nextWord 28 = .ok (.getfield 26, 3) := by decide +kernel
theorem dX0_nextWord_31 : decode cX0_nextWord 31 = .ok (.iconst 1, 1) := by decide +kernel
theorem dX0_nextWord_32 : decode cX0_nextWord 32 = .ok (.iadd, 1) := by decide +kernel
theorem dX0_nextWord_33 : decode cX0_nextWord 33 = .ok (.putfield 26, 3) := by decide +kernel
theorem dX0_nextWord_36 : decode cX0_nextWord 36 = .ok (.goto (-36), 3) := by decide +kernel
theorem dX0_nextWord_39 : decode cX0_nextWord 39 = .ok (.sipush 10000, 3) := by decide +kernel
theorem dX0_nextWord_42 : decode cX0_nextWord 42 = .ok (.istore_n 1, 1) := by decide +kernel
theorem dX0_nextWord_43 : decode cX0_nextWord 43 = .ok (.iload_n 1, 1) := by decide +kernel
theorem dX0_nextWord_44 : decode cX0_nextWord 44 = .ok (.sipush 10011, 3) := by decide +kernel
theorem dX0_nextWord_47 : decode cX0_nextWord 47 = .ok (.if_icmp .gt 22, 3) := by decide +kernel
theorem dX0_nextWord_50 : decode cX0_nextWord 50 = .ok (.aload_n 0, 1) := by decide +kernel
theorem dX0_nextWord_51 : decode cX0_nextWord 51 = .ok (.iload_n 1, 1) := by decide +kernel
theorem dX0_nextWord_52 : decode cX0_nextWord 52 = .ok (.invokestatic 90, 3) := by decide +kernel
theorem dX0_nextWord_55 : decode cX0_nextWord 55 = .ok (.invokevirtual 94, 3) := by decide +kernel
theorem dX0_nextWord_58 : decode cX0_nextWord 58 = .ok (.ifCond .eq 5, 3) := by decide +kernel
theorem dX0_nextWord_61 : decode cX0_nextWord 61 = .ok (.iload_n 1, 1) := by decide +kernel
theorem dX0_nextWord_62 : decode cX0_nextWord 62 = .ok (.ireturn, 1) := by decide +kernel
theorem dX0_nextWord_63 : decode cX0_nextWord 63 = .ok (.iinc 1 1, 3) := by decide +kernel
theorem dX0_nextWord_66 : decode cX0_nextWord 66 = .ok (.goto (-23), 3) := by decide +kernel
theorem dX0_nextWord_69 : decode cX0_nextWord 69 = .ok (.sipush 10022, 3) := by decide +kernel
theorem dX0_nextWord_72 : decode cX0_nextWord 72 = .ok (.ireturn, 1) := by decide +kernel
theorem dX0_stands_0 : decode cX0_stands 0 = .ok (.aload_n 1, 1) := by decide +kernel
theorem dX0_stands_1 : decode cX0_stands 1 = .ok (.invokevirtual 98, 3) := by decide +kernel
theorem dX0_stands_4 : decode cX0_stands 4 = .ok (.aload_n 0, 1) := by decide +kernel
theorem dX0_stands_5 : decode cX0_stands 5 = .ok (.getfield 26, 3) := by decide +kernel
theorem dX0_stands_8 : decode cX0_stands 8 = .ok (.aload_n 0, 1) := by decide +kernel
theorem dX0_stands_9 : decode cX0_stands 9 = .ok (.getfield 45, 3) := by decide +kernel
theorem dX0_stands_12 : decode cX0_stands 12 = .ok (.isub, 1) := by decide +kernel
theorem dX0_stands_13 : decode cX0_stands 13 = .ok (.if_icmp .eq 5, 3) := by decide +kernel
theorem dX0_stands_16 : decode cX0_stands 16 = .ok (.iconst 0, 1) := by decide +kernel
theorem dX0_stands_17 : decode cX0_stands 17 = .ok (.ireturn, 1) := by decide +kernel
theorem dX0_stands_18 : decode cX0_stands 18 = .ok (.iconst 0, 1) := by decide +kernel
theorem dX0_stands_19 : decode cX0_stands 19 = .ok (.istore_n 2, 1) := by decide +kernel
theorem dX0_stands_20 : decode cX0_stands 20 = .ok (.iload_n 2, 1) := by decide +kernel
theorem dX0_stands_21 : decode cX0_stands 21 = .ok (.aload_n 1, 1) := by decide +kernel
theorem dX0_stands_22 : decode cX0_stands 22 = .ok (.invokevirtual 98, 3) := by decide +kernel
theorem dX0_stands_25 : decode cX0_stands 25 = .ok (.if_icmp .ge 30, 3) := by decide +kernel
theorem dX0_stands_28 : decode cX0_stands 28 = .ok (.aload_n 0, 1) := by decide +kernel
theorem dX0_stands_29 : decode cX0_stands 29 = .ok (.getfield 9, 3) := by decide +kernel
theorem dX0_stands_32 : decode cX0_stands 32 = .ok (.aload_n 0, 1) := by decide +kernel
theorem dX0_stands_33 : decode cX0_stands 33 = .ok (.getfield 45, 3) := by decide +kernel
theorem dX0_stands_36 : decode cX0_stands 36 = .ok (.iload_n 2, 1) := by decide +kernel
theorem dX0_stands_37 : decode cX0_stands 37 = .ok (.iadd, 1) := by decide +kernel
theorem dX0_stands_38 : decode cX0_stands 38 = .ok (.iaload, 1) := by decide +kernel
theorem dX0_stands_39 : decode cX0_stands 39 = .ok (.aload_n 1, 1) := by decide +kernel
theorem dX0_stands_40 : decode cX0_stands 40 = .ok (.iload_n 2, 1) := by decide +kernel
theorem dX0_stands_41 : decode cX0_stands 41 = .ok (.invokevirtual 103, 3) := by decide +kernel
theorem dX0_stands_44 : decode cX0_stands 44 = .ok (.if_icmp .eq 5, 3) := by decide +kernel
theorem dX0_stands_47 : decode cX0_stands 47 = .ok (.iconst 0, 1) := by decide +kernel
theorem dX0_stands_48 : decode cX0_stands 48 = .ok (.ireturn, 1) := by decide +kernel
theorem dX0_stands_49 : decode cX0_stands 49 = .ok (.iinc 2 1, 3) := by decide +kernel
theorem dX0_stands_52 : decode cX0_stands 52 = .ok (.goto (-32), 3) := by decide +kernel
theorem dX0_stands_55 : decode cX0_stands 55 = .ok (.iconst 1, 1) := by decide +kernel
theorem dX0_stands_56 : decode cX0_stands 56 = .ok (.ireturn, 1) := by decide +kernel
theorem dX0_nextNumber_0 : decode cX0_nextNumber 0 = .ok (.iconst 0, 1) := by decide +kernel
theorem dX0_nextNumber_1 : decode cX0_nextNumber 1 = .ok (.istore_n 1, 1) := by decide +kernel
theorem dX0_nextNumber_2 : decode cX0_nextNumber 2 = .ok (.aload_n 0, 1) := by decide +kernel
theorem dX0_nextNumber_3 : decode cX0_nextNumber 3 = .ok (.getfield 26, 3) := by decide +kernel
theorem dX0_nextNumber_6 : decode cX0_nextNumber 6 = .ok (.aload_n 0, 1) := by decide +kernel
theorem dX0_nextNumber_7 : decode cX0_nextNumber 7 = .ok (.getfield 15, 3) := by decide +kernel
theorem dX0_nextNumber_10 : decode cX0_nextNumber 10 = .ok (.if_icmp .ge 49, 3) := by decide +kernel
theorem dX0_nextNumber_13 : decode cX0_nextNumber 13 = .ok (.aload_n 0, 1) := by decide +kernel
theorem dX0_nextNumber_14 : decode cX0_nextNumber 14 = .ok (.getfield 9, 3) := by decide +kernel
theorem dX0_nextNumber_17 : decode cX0_nextNumber 17 = .ok (.aload_n 0, 1) := by decide +kernel
theorem dX0_nextNumber_18 : decode cX0_nextNumber 18 = .ok (.getfield 26, 3) := by decide +kernel
theorem dX0_nextNumber_21 : decode cX0_nextNumber 21 = .ok (.iaload, 1) := by decide +kernel
theorem dX0_nextNumber_22 : decode cX0_nextNumber 22 = .ok (.invokestatic 80, 3) := by decide +kernel
theorem dX0_nextNumber_25 : decode cX0_nextNumber 25 = .ok (.ifCond .eq 34, 3) := by decide +kernel
theorem dX0_nextNumber_28 : decode cX0_nextNumber 28 = .ok (.bipush 10, 2) := by decide +kernel
theorem dX0_nextNumber_30 : decode cX0_nextNumber 30 = .ok (.iload_n 1, 1) := by decide +kernel
theorem dX0_nextNumber_31 : decode cX0_nextNumber 31 = .ok (.imul, 1) := by decide +kernel
theorem dX0_nextNumber_32 : decode cX0_nextNumber 32 = .ok (.aload_n 0, 1) := by decide +kernel
theorem dX0_nextNumber_33 : decode cX0_nextNumber 33 = .ok (.getfield 9, 3) := by decide +kernel
theorem dX0_nextNumber_36 : decode cX0_nextNumber 36 = .ok (.aload_n 0, 1) := by decide +kernel
theorem dX0_nextNumber_37 : decode cX0_nextNumber 37 = .ok (.getfield 26, 3) := by decide +kernel
theorem dX0_nextNumber_40 : decode cX0_nextNumber 40 = .ok (.iaload, 1) := by decide +kernel
theorem dX0_nextNumber_41 : decode cX0_nextNumber 41 = .ok (.iadd, 1) := by decide +kernel
theorem dX0_nextNumber_42 : decode cX0_nextNumber 42 = .ok (.bipush 48, 2) := by decide +kernel
theorem dX0_nextNumber_44 : decode cX0_nextNumber 44 = .ok (.isub, 1) := by decide +kernel
theorem dX0_nextNumber_45 : decode cX0_nextNumber 45 = .ok (.istore_n 1, 1) := by decide +kernel
theorem dX0_nextNumber_46 : decode cX0_nextNumber 46 = .ok (.aload_n 0, 1) := by decide +kernel
theorem dX0_nextNumber_47 : decode cX0_nextNumber 47 = .ok (.dup, 1) := by decide +kernel
theorem dX0_nextNumber_48 : decode cX0_nextNumber 48 = .ok (.getfield 26, 3) := by decide +kernel
theorem dX0_nextNumber_51 : decode cX0_nextNumber 51 = .ok (.iconst 1, 1) := by decide +kernel
theorem dX0_nextNumber_52 : decode cX0_nextNumber 52 = .ok (.iadd, 1) := by decide +kernel
theorem dX0_nextNumber_53 : decode cX0_nextNumber 53 = .ok (.putfield 26, 3) := by decide +kernel
theorem dX0_nextNumber_56 : decode cX0_nextNumber 56 = .ok (.goto (-54), 3) := by decide +kernel
theorem dX0_nextNumber_59 : decode cX0_nextNumber 59 = .ok (.aload_n 0, 1) := by decide +kernel
theorem dX0_nextNumber_60 : decode cX0_nextNumber 60 = .ok (.getfield 26, 3) := by decide +kernel
theorem dX0_nextNumber_63 : decode cX0_nextNumber 63 = .ok (.aload_n 0, 1) := by decide +kernel
theorem dX0_nextNumber_64 : decode cX0_nextNumber 64 = .ok (.getfield 45, 3) := by decide +kernel
theorem dX0_nextNumber_67 : decode cX0_nextNumber 67 = .ok (.isub, 1) := by decide +kernel
theorem dX0_nextNumber_68 : decode cX0_nextNumber 68 = .ok (.iconst 4, 1) := by decide +kernel
theorem dX0_nextNumber_69 : decode cX0_nextNumber 69 = .ok (.if_icmp .le 9, 3) := by decide +kernel
theorem dX0_nextNumber_72 : decode cX0_nextNumber 72 = .ok (.sipush 10022, 3) := by decide +kernel
theorem dX0_nextNumber_75 : decode cX0_nextNumber 75 = .ok (.goto 4, 3) := by decide +kernel
theorem dX0_nextNumber_78 : decode cX0_nextNumber 78 = .ok (.iload_n 1, 1) := by decide +kernel
theorem dX0_nextNumber_79 : decode cX0_nextNumber 79 = .ok (.ireturn, 1) := by decide +kernel
theorem dX0_isLetter_0 : decode cX0_isLetter 0 = .ok (.iload_n 0, 1) := by decide +kernel
theorem dX0_isLetter_1 : decode cX0_isLetter 1 = .ok (.bipush 97, 2) := by decide +kernel
theorem dX0_isLetter_3 : decode cX0_isLetter 3 = .ok (.if_icmp .lt 13, 3) := by decide +kernel
theorem dX0_isLetter_6 : decode cX0_isLetter 6 = .ok (.iload_n 0, 1) := by decide +kernel
theorem dX0_isLetter_7 : decode cX0_isLetter 7 = .ok (.bipush 122, 2) := by decide +kernel
theorem dX0_isLetter_9 : decode cX0_isLetter 9 = .ok (.if_icmp .gt 7, 3) := by decide +kernel
theorem dX0_isLetter_12 : decode cX0_isLetter 12 = .ok (.iconst 1, 1) := by decide +kernel
theorem dX0_isLetter_13 : decode cX0_isLetter 13 = .ok (.goto 4, 3) := by decide +kernel
theorem dX0_isLetter_16 : decode cX0_isLetter 16 = .ok (.iconst 0, 1) := by decide +kernel
theorem dX0_isLetter_17 : decode cX0_isLetter 17 = .ok (.ireturn, 1) := by decide +kernel
theorem dX0_isDigit_0 : decode cX0_isDigit 0 = .ok (.iload_n 0, 1) := by decide +kernel
theorem dX0_isDigit_1 : decode cX0_isDigit 1 = .ok (.bipush 48, 2) := by decide +kernel
theorem dX0_isDigit_3 : decode cX0_isDigit 3 = .ok (.if_icmp .lt 13, 3) := by decide +kernel
theorem dX0_isDigit_6 : decode cX0_isDigit 6 = .ok (.iload_n 0, 1) := by decide +kernel
theorem dX0_isDigit_7 : decode cX0_isDigit 7 = .ok (.bipush 57, 2) := by decide +kernel
theorem dX0_isDigit_9 : decode cX0_isDigit 9 = .ok (.if_icmp .gt 7, 3) := by decide +kernel
theorem dX0_isDigit_12 : decode cX0_isDigit 12 = .ok (.iconst 1, 1) := by decide +kernel
theorem dX0_isDigit_13 : decode cX0_isDigit 13 = .ok (.goto 4, 3) := by decide +kernel
theorem dX0_isDigit_16 : decode cX0_isDigit 16 = .ok (.iconst 0, 1) := by decide +kernel
theorem dX0_isDigit_17 : decode cX0_isDigit 17 = .ok (.ireturn, 1) := by decide +kernel
theorem dX0_signOf_0 : decode cX0_signOf 0 = .ok (.iload_n 0, 1) := by decide +kernel
theorem dX0_signOf_1 : decode cX0_signOf 1 = .ok (.tableswitch 135 40 61 #[103, 107, 123, 115, 135, 119, 135, 135, 135, 135, 135, 135, 135, 135, 135, 135, 135, 135, 135, 111, 127, 131], 103) := by decide +kernel
theorem dX0_signOf_104 : decode cX0_signOf 104 = .ok (.sipush 10012, 3) := by decide +kernel
theorem dX0_signOf_107 : decode cX0_signOf 107 = .ok (.ireturn, 1) := by decide +kernel
theorem dX0_signOf_108 : decode cX0_signOf 108 = .ok (.sipush 10013, 3) := by decide +kernel
theorem dX0_signOf_111 : decode cX0_signOf 111 = .ok (.ireturn, 1) := by decide +kernel
theorem dX0_signOf_112 : decode cX0_signOf 112 = .ok (.sipush 10014, 3) := by decide +kernel
theorem dX0_signOf_115 : decode cX0_signOf 115 = .ok (.ireturn, 1) := by decide +kernel
theorem dX0_signOf_116 : decode cX0_signOf 116 = .ok (.sipush 10015, 3) := by decide +kernel
theorem dX0_signOf_119 : decode cX0_signOf 119 = .ok (.ireturn, 1) := by decide +kernel
theorem dX0_signOf_120 : decode cX0_signOf 120 = .ok (.sipush 10016, 3) := by decide +kernel
theorem dX0_signOf_123 : decode cX0_signOf 123 = .ok (.ireturn, 1) := by decide +kernel
theorem dX0_signOf_124 : decode cX0_signOf 124 = .ok (.sipush 10017, 3) := by decide +kernel
theorem dX0_signOf_127 : decode cX0_signOf 127 = .ok (.ireturn, 1) := by decide +kernel
theorem dX0_signOf_128 : decode cX0_signOf 128 = .ok (.sipush 10018, 3) := by decide +kernel
theorem dX0_signOf_131 : decode cX0_signOf 131 = .ok (.ireturn, 1) := by decide +kernel
theorem dX0_signOf_132 : decode cX0_signOf 132 = .ok (.sipush 10019, 3) := by decide +kernel
theorem dX0_signOf_135 : decode cX0_signOf 135 = .ok (.ireturn, 1) := by decide +kernel
theorem dX0_signOf_136 : decode cX0_signOf 136 = .ok (.sipush 10022, 3) := by decide +kernel
theorem dX0_signOf_139 : decode cX0_signOf 139 = .ok (.ireturn, 1) := by decide +kernel
theorem dX0_spelling_0 : decode cX0_spelling 0 = .ok (.iload_n 0, 1) := by decide +kernel
theorem dX0_spelling_1 : decode cX0_spelling 1 = .ok (.tableswitch 92 10000 10010 #[59, 62, 65, 68, 71, 74, 77, 80, 83, 86, 89], 59) := by decide +kernel
theorem dX0_spelling_60 : decode cX0_spelling 60 = .ok (.ldc 107, 2) := by decide +kernel
theorem dX0_spelling_62 : decode cX0_spelling 62 = .ok (.areturn, 1) := by decide +kernel
theorem dX0_spelling_63 : decode cX0_spelling 63 = .ok (.ldc 108, 2) := by decide +kernel
theorem dX0_spelling_65 : decode cX0_spelling 65 = .ok (.areturn, 1) := by decide +kernel
theorem dX0_spelling_66 : decode cX0_spelling 66 = .ok (.ldc 110, 2) := by decide +kernel
theorem dX0_spelling_68 : decode cX0_spelling 68 = .ok (.areturn, 1) := by decide +kernel
theorem dX0_spelling_69 : decode cX0_spelling 69 = .ok (.ldc 112, 2) := by decide +kernel
theorem dX0_spelling_71 : decode cX0_spelling 71 = .ok (.areturn, 1) := by decide +kernel
theorem dX0_spelling_72 : decode cX0_spelling 72 = .ok (.ldc 114, 2) := by decide +kernel
theorem dX0_spelling_74 : decode cX0_spelling 74 = .ok (.areturn, 1) := by decide +kernel
theorem dX0_spelling_75 : decode cX0_spelling 75 = .ok (.ldc 116, 2) := by decide +kernel
theorem dX0_spelling_77 : decode cX0_spelling 77 = .ok (.areturn, 1) := by decide +kernel
theorem dX0_spelling_78 : decode cX0_spelling 78 = .ok (.ldc 118, 2) := by decide +kernel
theorem dX0_spelling_80 : decode cX0_spelling 80 = .ok (.areturn, 1) := by decide +kernel
theorem dX0_spelling_81 : decode cX0_spelling 81 = .ok (.ldc 120, 2) := by decide +kernel
theorem dX0_spelling_83 : decode cX0_spelling 83 = .ok (.areturn, 1) := by decide +kernel
theorem dX0_spelling_84 : decode cX0_spelling 84 = .ok (.ldc 122, 2) := by decide +kernel
theorem dX0_spelling_86 : decode cX0_spelling 86 = .ok (.areturn, 1) := by decide +kernel
theorem dX0_spelling_87 : decode cX0_spelling 87 = .ok (.ldc 124, 2) := by decide +kernel
theorem dX0_spelling_89 : decode cX0_spelling 89 = .ok (.areturn, 1) := by decide +kernel
theorem dX0_spelling_90 : decode cX0_spelling 90 = .ok (.ldc 126, 2) := by decide +kernel
theorem dX0_spelling_92 : decode cX0_spelling 92 = .ok (.areturn, 1) := by decide +kernel
theorem dX0_spelling_93 : decode cX0_spelling 93 = .ok (.ldc 128, 2) := by decide +kernel
theorem dX0_spelling_95 : decode cX0_spelling 95 = .ok (.areturn, 1) := by decide +kernel
theorem dX1_init_0 : decode cX1_init 0 = .ok (.aload_n 0, 1) := by decide +kernel
theorem dX1_init_1 : decode cX1_init 1 = .ok (.invokespecial 3, 3) := by decide +kernel
theorem dX1_init_4 : decode cX1_init 4 = .ok (.aload_n 0, 1) := by decide +kernel
theorem dX1_init_5 : decode cX1_init 5 = .ok (.bipush 11, 2) := by decide +kernel
theorem dX1_init_7 : decode cX1_init 7 = .ok (.bipush 8, 2) := by decide +kernel
theorem dX1_init_9 : decode cX1_init 9 = .ok (.multianewarray 9 2, 4) := by decide +kernel
theorem dX1_init_13 : decode cX1_init 13 = .ok (.putfield 11, 3) := by decide +kernel
theorem dX1_init_16 : decode cX1_init 16 = .ok (.aload_n 0, 1) := by decide +kernel
theorem dX1_init_17 : decode cX1_init 17 = .ok (.iconst 0, 1) := by decide +kernel
theorem dX1_init_18 : decode cX1_init 18 = .ok (.putfield 16, 3) := by decide +kernel
theorem dX1_init_21 : decode cX1_init 21 = .ok (.aload_n 0, 1) := by decide +kernel
theorem dX1_init_22 : decode cX1_init 22 = .ok (.iconst 0, 1) := by decide +kernel
theorem dX1_init_23 : decode cX1_init 23 = .ok (.putfield 20, 3) := by decide +kernel
theorem dX1_init_26 : decode cX1_init 26 = .ok (.aload_n 0, 1) := by decide +kernel
theorem dX1_init_27 : decode cX1_init 27 = .ok (.iconst 0, 1) := by decide +kernel
theorem dX1_init_28 : decode cX1_init 28 = .ok (.putfield 23, 3) := by decide +kernel
theorem dX1_init_31 : decode cX1_init 31 = .ok (.aload_n 0, 1) := by decide +kernel
theorem dX1_init_32 : decode cX1_init 32 = .ok (.aload_n 1, 1) := by decide +kernel
theorem dX1_init_33 : decode cX1_init 33 = .ok (.putfield 26, 3) := by decide +kernel
theorem dX1_init_36 : decode cX1_init 36 = .ok (.iconst 0, 1) := by decide +kernel
theorem dX1_init_37 : decode cX1_init 37 = .ok (.istore_n 2, 1) := by decide +kernel
theorem dX1_init_38 : decode cX1_init 38 = .ok (.iload_n 2, 1) := by decide +kernel
theorem dX1_init_39 : decode cX1_init 39 = .ok (.iconst 4, 1) := by decide +kernel
theorem dX1_init_40 : decode cX1_init 40 = .ok (.if_icmp .ge 39, 3) := by decide +kernel
theorem dX1_init_43 : decode cX1_init 43 = .ok (.aload_n 0, 1) := by decide +kernel
theorem dX1_init_44 : decode cX1_init 44 = .ok (.getfield 11, 3) := by decide +kernel
theorem dX1_init_47 : decode cX1_init 47 = .ok (.iconst 0, 1) := by decide +kernel
theorem dX1_init_48 : decode cX1_init 48 = .ok (.aaload, 1) := by decide +kernel
theorem dX1_init_49 : decode cX1_init 49 = .ok (.iload_n 2, 1) := by decide +kernel
theorem dX1_init_50 : decode cX1_init 50 = .ok (.bipush 40, 2) := by decide +kernel
theorem dX1_init_52 : decode cX1_init 52 = .ok (.iastore, 1) := by decide +kernel
theorem dX1_init_53 : decode cX1_init 53 = .ok (.aload_n 0, 1) := by decide +kernel
theorem dX1_init_54 : decode cX1_init 54 = .ok (.getfield 11, 3) := by decide +kernel
theorem dX1_init_57 : decode cX1_init 57 = .ok (.iconst 1, 1) := by decide +kernel
theorem dX1_init_58 : decode cX1_init 58 = .ok (.aaload, 1) := by decide +kernel
theorem dX1_init_59 : decode cX1_init 59 = .ok (.iload_n 2, 1) := by decide +kernel
theorem dX1_init_60 : decode cX1_init 60 = .ok (.bipush 40, 2) := by decide +kernel
theorem dX1_init_62 : decode cX1_init 62 = .ok (.iastore, 1) := by decide +kernel
theorem dX1_init_63 : decode cX1_init 63 = .ok (.aload_n 0, 1) := by decide +kernel
theorem dX1_init_64 : decode cX1_init 64 = .ok (.getfield 11, 3) := by decide +kernel
theorem dX1_init_67 : decode cX1_init 67 = .ok (.iconst 2, 1) := by decide +kernel
theorem dX1_init_68 : decode cX1_init 68 = .ok (.aaload, 1) := by decide +kernel
theorem dX1_init_69 : decode cX1_init 69 = .ok (.iload_n 2, 1) := by decide +kernel
theorem dX1_init_70 : decode cX1_init 70 = .ok (.bipush 40, 2) := by decide +kernel
theorem dX1_init_72 : decode cX1_init 72 = .ok (.iastore, 1) := by decide +kernel
theorem dX1_init_73 : decode cX1_init 73 = .ok (.iinc 2 1, 3) := by decide +kernel
theorem dX1_init_76 : decode cX1_init 76 = .ok (.goto (-38), 3) := by decide +kernel
theorem dX1_init_79 : decode cX1_init 79 = .ok (.aload_n 0, 1) := by decide +kernel
theorem dX1_init_80 : decode cX1_init 80 = .ok (.getfield 11, 3) := by decide +kernel
theorem dX1_init_83 : decode cX1_init 83 = .ok (.iconst 3, 1) := by decide +kernel
theorem dX1_init_84 : decode cX1_init 84 = .ok (.aaload, 1) := by decide +kernel
theorem dX1_init_85 : decode cX1_init 85 = .ok (.iconst 0, 1) := by decide +kernel
theorem dX1_init_86 : decode cX1_init 86 = .ok (.iconst (-1), 1) := by decide +kernel
theorem dX1_init_87 : decode cX1_init 87 = .ok (.iastore, 1) := by decide +kernel
theorem dX1_init_88 : decode cX1_init 88 = .ok (.return_, 1) := by decide +kernel
theorem dX1_become_0 : decode cX1_become 0 = .ok (.iconst 0, 1) := by decide +kernel
theorem dX1_become_1 : decode cX1_become 1 = .ok (.istore_n 2, 1) := by decide +kernel
theorem dX1_become_2 : decode cX1_become 2 = .ok (.iload_n 2, 1) := by decide +kernel
theorem dX1_become_3 : decode cX1_become 3 = .ok (.bipush 11, 2) := by decide +kernel
theorem dX1_become_5 : decode cX1_become 5 = .ok (.if_icmp .ge 28, 3) := by decide +kernel
theorem dX1_become_8 : decode cX1_become 8 = .ok (.aload_n 1, 1) := by decide +kernel
theorem dX1_become_9 : decode cX1_become 9 = .ok (.getfield 11, 3) := by decide +kernel
theorem dX1_become_12 : decode cX1_become 12 = .ok (.iload_n 2, 1) := by decide +kernel
theorem dX1_become_13 : decode cX1_become 13 = .ok (.aaload, 1) := by decide +kernel
theorem dX1_become_14 : decode cX1_become 14 = .ok (.iconst 0, 1) := by decide +kernel
theorem dX1_become_15 : decode cX1_become 15 = .ok (.aload_n 0, 1) := by decide +kernel
theorem dX1_become_16 : decode cX1_become 16 = .ok (.getfield 11, 3) := by decide +kernel
theorem dX1_become_19 : decode cX1_become 19 = .ok (.iload_n 2, 1) := by decide +kernel
theorem dX1_become_20 : decode cX1_become 20 = .ok (.aaload, 1) := by decide +kernel
theorem dX1_become_21 : decode cX1_become 21 = .ok (.iconst 0, 1) := by decide +kernel
theorem dX1_become_22 : decode cX1_become 22 = .ok (.bipush 8, 2) := by decide +kernel
theorem dX1_become_24 : decode cX1_become 24 = .ok (.invokestatic 30, 3) := by decide +kernel
theorem dX1_become_27 : decode cX1_become 27 = .ok (.iinc 2 1, 3) := by decide +kernel
theorem dX1_become_30 : decode cX1_become 30 = .ok (.goto (-28), 3) := by decide +kernel
theorem dX1_become_33 : decode cX1_become 33 = .ok (.aload_n 0, 1) := by decide +kernel
theorem dX1_become_34 : decode cX1_become 34 = .ok (.aload_n 1, 1) := by decide +kernel
theorem dX1_become_35 : decode cX1_become 35 = .ok (.getfield 16, 3) := by decide +kernel
theorem dX1_become_38 : decode cX1_become 38 = .ok (.putfield 16, 3) := by decide +kernel
theorem dX1_become_41 : decode cX1_become 41 = .ok (.aload_n 0, 1) := by decide +kernel
theorem dX1_become_42 : decode cX1_become 42 = .ok (.aload_n 1, 1) := by decide +kernel
theorem dX1_become_43 : decode cX1_become 43 = .ok (.getfield 20, 3) := by decide +kernel
theorem dX1_become_46 : decode cX1_become 46 = .ok (.putfield 20, 3) := by decide +kernel
theorem dX1_become_49 : decode cX1_become 49 = .ok (.aload_n 0, 1) := by decide +kernel
theorem dX1_become_50 : decode cX1_become 50 = .ok (.aload_n 1, 1) := by decide +kernel
theorem dX1_become_51 : decode cX1_become 51 = .ok (.getfield 23, 3) := by decide +kernel
theorem dX1_become_54 : decode cX1_become 54 = .ok (.putfield 23, 3) := by decide +kernel
theorem dX1_become_57 : decode cX1_become 57 = .ok (.return_, 1) := by decide +kernel
theorem dX1_howMany_0 : decode cX1_howMany 0 = .ok (.iload_n 1, 1) := by decide +kernel
theorem dX1_howMany_1 : decode cX1_howMany 1 = .ok (.tableswitch 62 0 9 #[55, 55, 55, 62, 62, 62, 62, 57, 57, 57], 55) := by decide +kernel
theorem dX1_howMany_56 : decode cX1_howMany 56 = .ok (.iconst 4, 1) := by decide +kernel
theorem dX1_howMany_57 : decode cX1_howMany 57 = .ok (.ireturn, 1) := by decide +kernel
theorem dX1_howMany_58 : decode cX1_howMany 58 = .ok (.aload_n 0, 1) := by decide +kernel
theorem dX1_howMany_59 : decode cX1_howMany 59 = .ok (.getfield 20, 3) := by decide +kernel
theorem dX1_howMany_62 : decode cX1_howMany 62 = .ok (.ireturn, 1) := by decide +kernel
theorem dX1_howMany_63 : decode cX1_howMany 63 = .ok (.aload_n 0, 1) := by decide +kernel
theorem dX1_howMany_64 : decode cX1_howMany 64 = .ok (.getfield 16, 3) := by decide +kernel
theorem dX1_howMany_67 : decode cX1_howMany 67 = .ok (.ireturn, 1) := by decide +kernel
theorem dX1_names_0 : decode cX1_names 0 = .ok (.iload_n 1, 1) := by decide +kernel
theorem dX1_names_1 : decode cX1_names 1 = .ok (.ifCond .lt 9, 3) := by decide +kernel
theorem dX1_names_4 : decode cX1_names 4 = .ok (.iload_n 1, 1) := by decide +kernel
theorem dX1_names_5 : decode cX1_names 5 = .ok (.bipush 11, 2) := by decide +kernel
theorem dX1_names_7 : decode cX1_names 7 = .ok (.if_icmp .lt 5, 3) := by decide +kernel
theorem dX1_names_10 : decode cX1_names 10 = .ok (.iconst 0, 1) := by decide +kernel
theorem dX1_names_11 : decode cX1_names 11 = .ok (.ireturn, 1) := by decide +kernel
theorem dX1_names_12 : decode cX1_names 12 = .ok (.iload_n 1, 1) := by decide +kernel
theorem dX1_names_13 : decode cX1_names 13 = .ok (.iconst 3, 1) := by decide +kernel
theorem dX1_names_14 : decode cX1_names 14 = .ok (.if_icmp .eq 16, 3) := by decide +kernel
theorem dX1_names_17 : decode cX1_names 17 = .ok (.iload_n 2, 1) := by decide +kernel
theorem dX1_names_18 : decode cX1_names 18 = .ok (.ifCond .lt 16, 3) := by decide +kernel
theorem dX1_names_21 : decode cX1_names 21 = .ok (.iload_n 2, 1) := by decide +kernel
theorem dX1_names_22 : decode cX1_names 22 = .ok (.aload_n 0, 1) := by decide +kernel
theorem dX1_names_23 : decode cX1_names 23 = .ok (.iload_n 1, 1) := by decide +kernel
theorem dX1_names_24 : decode cX1_names 24 = .ok (.invokevirtual 36, 3) := by decide +kernel
theorem dX1_names_27 : decode cX1_names 27 = .ok (.if_icmp .ge 7, 3) := by decide +kernel
theorem dX1_names_30 : decode cX1_names 30 = .ok (.iconst 1, 1) := by decide +kernel
theorem dX1_names_31 : decode cX1_names 31 = .ok (.goto 4, 3) := by decide +kernel
theorem dX1_names_34 : decode cX1_names 34 = .ok (.iconst 0, 1) := by decide +kernel
theorem dX1_names_35 : decode cX1_names 35 = .ok (.ireturn, 1) := by decide +kernel
theorem dX1_most_0 : decode cX1_most 0 = .ok (.iload_n 1, 1) := by decide +kernel
theorem dX1_most_1 : decode cX1_most 1 = .ok (.tableswitch 63 4 10 #[43, 46, 63, 49, 56, 59, 61], 43) := by decide +kernel
theorem dX1_most_44 : decode cX1_most 44 = .ok (.bipush 9, 2) := by decide +kernel
theorem dX1_most_46 : decode cX1_most 46 = .ok (.ireturn, 1) := by decide +kernel
theorem dX1_most_47 : decode cX1_most 47 = .ok (.bipush 10, 2) := by decide +kernel
theorem dX1_most_49 : decode cX1_most 49 = .ok (.ireturn, 1) := by decide +kernel
theorem dX1_most_50 : decode cX1_most 50 = .ok (.aload_n 0, 1) := by decide +kernel
theorem dX1_most_51 : decode cX1_most 51 = .ok (.getfield 16, 3) := by decide +kernel
theorem dX1_most_54 : decode cX1_most 54 = .ok (.iconst 1, 1) := by decide +kernel
theorem dX1_most_55 : decode cX1_most 55 = .ok (.isub, 1) := by decide +kernel
theorem dX1_most_56 : decode cX1_most 56 = .ok (.ireturn, 1) := by decide +kernel
theorem dX1_most_57 : decode cX1_most 57 = .ok (.bipush 20, 2) := by decide +kernel
theorem dX1_most_59 : decode cX1_most 59 = .ok (.ireturn, 1) := by decide +kernel
theorem dX1_most_60 : decode cX1_most 60 = .ok (.iconst 3, 1) := by decide +kernel
theorem dX1_most_61 : decode cX1_most 61 = .ok (.ireturn, 1) := by decide +kernel
theorem dX1_most_62 : decode cX1_most 62 = .ok (.iconst 5, 1) := by decide +kernel
theorem dX1_most_63 : decode cX1_most 63 = .ok (.ireturn, 1) := by decide +kernel
theorem dX1_most_64 : decode cX1_most 64 = .ok (.sipush 199, 3) := by decide +kernel
theorem dX1_most_67 : decode cX1_most 67 = .ok (.ireturn, 1) := by decide +kernel
theorem dX1_fits_0 : decode cX1_fits 0 = .ok (.iload_n 2, 1) := by decide +kernel
theorem dX1_fits_1 : decode cX1_fits 1 = .ok (.iload_n 1, 1) := by decide +kernel
theorem dX1_fits_2 : decode cX1_fits 2 = .ok (.iconst 3, 1) := by decide +kernel
theorem dX1_fits_3 : decode cX1_fits 3 = .ok (.if_icmp .ne 7, 3) := by decide +kernel
theorem dX1_fits_6 : decode cX1_fits 6 = .ok (.iconst (-1), 1) := by decide +kernel
theorem dX1_fits_7 : decode cX1_fits 7 = .ok (.goto 4, 3) := by decide +kernel
theorem dX1_fits_10 : decode cX1_fits 10 = .ok (.iconst 0, 1) := by decide +kernel
theorem dX1_fits_11 : decode cX1_fits 11 = .ok (.if_icmp .lt 16, 3) := by decide +kernel
theorem dX1_fits_14 : decode cX1_fits 14 = .ok (.iload_n 2, 1) := by decide +kernel
theorem dX1_fits_15 : decode cX1_fits 15 = .ok (.aload_n 0, 1) := by decide +kernel
theorem dX1_fits_16 : decode cX1_fits 16 = .ok (.iload_n 1, 1) := by decide +kernel
theorem dX1_fits_17 : decode cX1_fits 17 = .ok (.invokevirtual 40, 3) := by decide +kernel
theorem dX1_fits_20 : decode cX1_fits 20 = .ok (.if_icmp .gt 7, 3) := by decide +kernel
theorem dX1_fits_23 : decode cX1_fits 23 = .ok (.iconst 1, 1) := by decide +kernel
theorem dX1_fits_24 : decode cX1_fits 24 = .ok (.goto 4, 3) := by decide +kernel
theorem dX1_fits_27 : decode cX1_fits 27 = .ok (.iconst 0, 1) := by decide +kernel
theorem dX1_fits_28 : decode cX1_fits 28 = .ok (.ireturn, 1) := by decide +kernel
theorem dX1_read_0 : decode cX1_read 0 = .ok (.aload_n 0, 1) := by decide +kernel
theorem dX1_read_1 : decode cX1_read 1 = .ok (.getfield 11, 3) := by decide +kernel
theorem dX1_read_4 : decode cX1_read 4 = .ok (.iload_n 1, 1) := by decide +kernel
theorem dX1_read_5 : decode cX1_read 5 = .ok (.aaload, 1) := by decide +kernel
theorem dX1_read_6 : decode cX1_read 6 = .ok (.iload_n 1, 1) := by decide +kernel
theorem dX1_read_7 : decode cX1_read 7 = .ok (.iconst 3, 1) := by decide +kernel
theorem dX1_read_8 : decode cX1_read 8 = .ok (.if_icmp .ne 7, 3) := by decide +kernel
theorem dX1_read_11 : decode cX1_read 11 = .ok (.iconst 0, 1) := by decide +kernel
theorem dX1_read_12 : decode cX1_read 12 = .ok (.goto 4, 3) := by decide +kernel
theorem dX1_read_15 : decode cX1_read 15 = .ok (.iload_n 2, 1) := by decide +kernel
theorem dX1_read_16 : decode cX1_read 16 = .ok (.iaload, 1) := by decide +kernel
theorem dX1_read_17 : decode cX1_read 17 = .ok (.ireturn, 1) := by decide +kernel
theorem dX1_write_0 : decode cX1_write 0 = .ok (.aload_n 0, 1) := by decide +kernel
theorem dX1_write_1 : decode cX1_write 1 = .ok (.getfield 11, 3) := by decide +kernel
theorem dX1_write_4 : decode cX1_write 4 = .ok (.iload_n 1, 1) := by decide +kernel
theorem dX1_write_5 : decode cX1_write 5 = .ok (.aaload, 1) := by decide +kernel
theorem dX1_write_6 : decode cX1_write 6 = .ok (.iload_n 1, 1) := by decide +kernel
theorem dX1_write_7 : decode cX1_write 7 = .ok (.iconst 3, 1) := by decide +kernel
theorem dX1_write_8 : decode cX1_write 8 = .ok (.if_icmp .ne 7, 3) := by decide +kernel
theorem dX1_write_11 : decode cX1_write 11 = .ok (.iconst 0, 1) := by decide +kernel
theorem dX1_write_12 : decode cX1_write 12 = .ok (.goto 4, 3) := by decide +kernel
theorem dX1_write_15 : decode cX1_write 15 = .ok (.iload_n 2, 1) := by decide +kernel
theorem dX1_write_16 : decode cX1_write 16 = .ok (.iload_n 3, 1) := by decide +kernel
theorem dX1_write_17 : decode cX1_write 17 = .ok (.iastore, 1) := by decide +kernel
theorem dX1_write_18 : decode cX1_write 18 = .ok (.return_, 1) := by decide +kernel
theorem dX1_undergo_0 : decode cX1_undergo 0 = .ok (.iconst 0, 1) := by decide +kernel
theorem dX1_undergo_1 : decode cX1_undergo 1 = .ok (.istore_n 2, 1) := by decide +kernel
theorem dX1_undergo_2 : decode cX1_undergo 2 = .ok (.iload_n 2, 1) := by decide +kernel
theorem dX1_undergo_3 : decode cX1_undergo 3 = .ok (.iconst 4, 1) := by decide +kernel
theorem dX1_undergo_4 : decode cX1_undergo 4 = .ok (.if_icmp .ge 60, 3) := by decide +kernel
theorem dX1_undergo_7 : decode cX1_undergo 7 = .ok (.aload_n 0, 1) := by decide +kernel
theorem dX1_undergo_8 : decode cX1_undergo 8 = .ok (.getfield 26, 3) := by decide +kernel
theorem dX1_undergo_11 : decode cX1_undergo 11 = .ok (.aload_n 0, 1) := by decide +kernel
theorem dX1_undergo_12 : decode cX1_undergo 12 = .ok (.getfield 23, 3) := by decide +kernel
theorem dX1_undergo_15 : decode cX1_undergo 15 = .ok (.aaload, 1) := by decide +kernel
theorem dX1_undergo_16 : decode cX1_undergo 16 = .ok (.iconst 0, 1) := by decide +kernel
theorem dX1_undergo_17 : decode cX1_undergo 17 = .ok (.iload_n 2, 1) := by decide +kernel
theorem dX1_undergo_18 : decode cX1_undergo 18 = .ok (.aload_n 0, 1) := by decide +kernel
theorem dX1_undergo_19 : decode cX1_undergo 19 = .ok (.iload_n 1, 1) := by decide +kernel
theorem dX1_undergo_20 : decode cX1_undergo 20 = .ok (.invokevirtual 43, 3) := by decide +kernel
theorem dX1_undergo_23 : decode cX1_undergo 23 = .ok (.istore_n 3, 1) := by decide +kernel
theorem dX1_undergo_24 : decode cX1_undergo 24 = .ok (.sipush 199, 3) := by decide +kernel
theorem dX1_undergo_27 : decode cX1_undergo 27 = .ok (.aload_n 0, 1) := by decide +kernel
theorem dX1_undergo_28 : decode cX1_undergo 28 = .ok (.getfield 11, 3) := by decide +kernel
theorem dX1_undergo_31 : decode cX1_undergo 31 = .ok (.iconst 0, 1) := by decide +kernel
theorem dX1_undergo_32 : decode cX1_undergo 32 = .ok (.aaload, 1) := by decide +kernel
theorem dX1_undergo_33 : decode cX1_undergo 33 = .ok (.iload_n 2, 1) := by decide +kernel
theorem dX1_undergo_34 : decode cX1_undergo 34 = .ok (.iaload, 1) := by decide +kernel
theorem dX1_undergo_35 : decode cX1_undergo 35 = .ok (.iload_n 3, 1) := by decide +kernel
theorem dX1_undergo_36 : decode cX1_undergo 36 = .ok (.iadd, 1) := by decide +kernel
theorem dX1_undergo_37 : decode cX1_undergo 37 = .ok (.invokestatic 49, 3) := by decide +kernel
theorem dX1_undergo_40 : decode cX1_undergo 40 = .ok (.istore 4, 2) := by decide +kernel
theorem dX1_undergo_42 : decode cX1_undergo 42 = .ok (.aload_n 0, 1) := by decide +kernel
theorem dX1_undergo_43 : decode cX1_undergo 43 = .ok (.getfield 11, 3) := by decide +kernel
theorem dX1_undergo_46 : decode cX1_undergo 46 = .ok (.iconst 0, 1) := by decide +kernel
theorem dX1_undergo_47 : decode cX1_undergo 47 = .ok (.aaload, 1) := by decide +kernel
theorem dX1_undergo_48 : decode cX1_undergo 48 = .ok (.iload_n 2, 1) := by decide +kernel
theorem dX1_undergo_49 : decode cX1_undergo 49 = .ok (.aload_n 0, 1) := by decide +kernel
theorem dX1_undergo_50 : decode cX1_undergo 50 = .ok (.iload_n 2, 1) := by decide +kernel
theorem dX1_undergo_51 : decode cX1_undergo 51 = .ok (.iload 4, 2) := by decide +kernel
theorem dX1_undergo_53 : decode cX1_undergo 53 = .ok (.iload_n 1, 1) := by decide +kernel
theorem dX1_undergo_54 : decode cX1_undergo 54 = .ok (.invokevirtual 55, 3) := by decide +kernel
theorem dX1_undergo_57 : decode cX1_undergo 57 = .ok (.iastore, 1) := by decide +kernel
theorem dX1_undergo_58 : decode cX1_undergo 58 = .ok (.iinc 2 1, 3) := by decide +kernel
theorem dX1_undergo_61 : decode cX1_undergo 61 = .ok (.goto (-59), 3) := by decide +kernel
theorem dX1_undergo_64 : decode cX1_undergo 64 = .ok (.iconst 0, 1) := by decide +kernel
theorem dX1_undergo_65 : decode cX1_undergo 65 = .ok (.istore_n 2, 1) := by decide +kernel
theorem dX1_undergo_66 : decode cX1_undergo 66 = .ok (.iconst 0, 1) := by decide +kernel
theorem dX1_undergo_67 : decode cX1_undergo 67 = .ok (.istore_n 3, 1) := by decide +kernel
theorem dX1_undergo_68 : decode cX1_undergo 68 = .ok (.iload_n 3, 1) := by decide +kernel
theorem dX1_undergo_69 : decode cX1_undergo 69 = .ok (.iconst 4, 1) := by decide +kernel
theorem dX1_undergo_70 : decode cX1_undergo 70 = .ok (.if_icmp .ge 18, 3) := by decide +kernel
theorem dX1_undergo_73 : decode cX1_undergo 73 = .ok (.iload_n 2, 1) := by decide +kernel
theorem dX1_undergo_74 : decode cX1_undergo 74 = .ok (.aload_n 0, 1) := by decide +kernel
theorem dX1_undergo_75 : decode cX1_undergo 75 = .ok (.iload_n 3, 1) := by decide +kernel
theorem dX1_undergo_76 : decode cX1_undergo 76 = .ok (.iload_n 1, 1) := by decide +kernel
theorem dX1_undergo_77 : decode cX1_undergo 77 = .ok (.invokevirtual 59, 3) := by decide +kernel
theorem dX1_undergo_80 : decode cX1_undergo 80 = .ok (.iadd, 1) := by decide +kernel
theorem dX1_undergo_81 : decode cX1_undergo 81 = .ok (.istore_n 2, 1) := by decide +kernel
theorem dX1_undergo_82 : decode cX1_undergo 82 = .ok (.iinc 3 2, 3) := by decide +kernel
theorem dX1_undergo_85 : decode cX1_undergo 85 = .ok (.goto (-17), 3) := by decide +kernel
theorem dX1_undergo_88 : decode cX1_undergo 88 = .ok (.aload_n 0, 1) := by decide +kernel
theorem dX1_undergo_89 : decode cX1_undergo 89 = .ok (.getfield 11, 3) := by decide +kernel
theorem dX1_undergo_92 : decode cX1_undergo 92 = .ok (.iconst 0, 1) := by decide +kernel
theorem dX1_undergo_93 : decode cX1_undergo 93 = .ok (.aaload, 1) := by decide +kernel
theorem dX1_undergo_94 : decode cX1_undergo 94 = .ok (.iconst 0, 1) := by decide +kernel
theorem dX1_undergo_95 : decode cX1_undergo 95 = .ok (.aload_n 0, 1) := by decide +kernel
theorem dX1_undergo_96 : decode cX1_undergo 96 = .ok (.getfield 11, 3) := by decide +kernel
theorem dX1_undergo_99 : decode cX1_undergo 99 = .ok (.iconst 1, 1) := by decide +kernel
theorem dX1_undergo_100 : decode cX1_undergo 100 = .ok (.aaload, 1) := by decide +kernel
theorem dX1_undergo_101 : decode cX1_undergo 101 = .ok (.iconst 0, 1) := by decide +kernel
theorem dX1_undergo_102 : decode cX1_undergo 102 = .ok (.iconst 4, 1) := by decide +kernel
theorem dX1_undergo_103 : decode cX1_undergo 103 = .ok (.invokestatic 30, 3) := by decide +kernel
theorem dX1_undergo_106 : decode cX1_undergo 106 = .ok (.iload_n 2, 1) := by decide +kernel
theorem dX1_undergo_107 : decode cX1_undergo 107 = .ok (.ireturn, 1) := by decide +kernel
theorem dX1_left_0 : decode cX1_left 0 = .ok (.aload_n 0, 1) := by decide +kernel
theorem dX1_left_1 : decode cX1_left 1 = .ok (.getfield 11, 3) := by decide +kernel
theorem dX1_left_4 : decode cX1_left 4 = .ok (.bipush 7, 2) := by decide +kernel
theorem dX1_left_6 : decode cX1_left 6 = .ok (.aaload, 1) := by decide +kernel
theorem dX1_left_7 : decode cX1_left 7 = .ok (.iload_n 3, 1) := by decide +kernel
theorem dX1_left_8 : decode cX1_left 8 = .ok (.iaload, 1) := by decide +kernel
theorem dX1_left_9 : decode cX1_left 9 = .ok (.istore 4, 2) := by decide +kernel
theorem dX1_left_11 : decode cX1_left 11 = .ok (.aload_n 0, 1) := by decide +kernel
theorem dX1_left_12 : decode cX1_left 12 = .ok (.iload 4, 2) := by decide +kernel
theorem dX1_left_14 : decode cX1_left 14 = .ok (.iload_n 1, 1) := by decide +kernel
theorem dX1_left_15 : decode cX1_left 15 = .ok (.aload_n 0, 1) := by decide +kernel
theorem dX1_left_16 : decode cX1_left 16 = .ok (.getfield 11, 3) := by decide +kernel
theorem dX1_left_19 : decode cX1_left 19 = .ok (.iconst 1, 1) := by decide +kernel
theorem dX1_left_20 : decode cX1_left 20 = .ok (.aaload, 1) := by decide +kernel
theorem dX1_left_21 : decode cX1_left 21 = .ok (.iload_n 1, 1) := by decide +kernel
theorem dX1_left_22 : decode cX1_left 22 = .ok (.iaload, 1) := by decide +kernel
theorem dX1_left_23 : decode cX1_left 23 = .ok (.invokevirtual 62, 3) := by decide +kernel
theorem dX1_left_26 : decode cX1_left 26 = .ok (.istore 5, 2) := by decide +kernel
theorem dX1_left_28 : decode cX1_left 28 = .ok (.aload_n 0, 1) := by decide +kernel
theorem dX1_left_29 : decode cX1_left 29 = .ok (.getfield 11, 3) := by decide +kernel
theorem dX1_left_32 : decode cX1_left 32 = .ok (.bipush 9, 2) := by decide +kernel
theorem dX1_left_34 : decode cX1_left 34 = .ok (.aaload, 1) := by decide +kernel
theorem dX1_left_35 : decode cX1_left 35 = .ok (.iload_n 3, 1) := by decide +kernel
theorem dX1_left_36 : decode cX1_left 36 = .ok (.iaload, 1) := by decide +kernel
theorem dX1_left_37 : decode cX1_left 37 = .ok (.tableswitch 78 1 3 #[27, 38, 48], 27) := by decide +kernel
theorem dX1_left_64 : decode cX1_left 64 = .ok (.iload_n 2, 1) := by decide +kernel
theorem dX1_left_65 : decode cX1_left 65 = .ok (.iload 5, 2) := by decide +kernel
theorem dX1_left_67 : decode cX1_left 67 = .ok (.iadd, 1) := by decide +kernel
theorem dX1_left_68 : decode cX1_left 68 = .ok (.iconst 2, 1) := by decide +kernel
theorem dX1_left_69 : decode cX1_left 69 = .ok (.idiv, 1) := by decide +kernel
theorem dX1_left_70 : decode cX1_left 70 = .ok (.istore 5, 2) := by decide +kernel
theorem dX1_left_72 : decode cX1_left 72 = .ok (.goto 43, 3) := by decide +kernel
theorem dX1_left_75 : decode cX1_left 75 = .ok (.iload 5, 2) := by decide +kernel
theorem dX1_left_77 : decode cX1_left 77 = .ok (.bipush 10, 2) := by decide +kernel
theorem dX1_left_79 : decode cX1_left 79 = .ok (.isub, 1) := by decide +kernel
theorem dX1_left_80 : decode cX1_left 80 = .ok (.istore 5, 2) := by decide +kernel
theorem dX1_left_82 : decode cX1_left 82 = .ok (.goto 33, 3) := by decide +kernel
theorem dX1_left_85 : decode cX1_left 85 = .ok (.aload_n 0, 1) := by decide +kernel
theorem dX1_left_86 : decode cX1_left 86 = .ok (.getfield 11, 3) := by decide +kernel
theorem dX1_left_89 : decode cX1_left 89 = .ok (.iconst 3, 1) := by decide +kernel
theorem dX1_left_90 : decode cX1_left 90 = .ok (.aaload, 1) := by decide +kernel
theorem dX1_left_91 : decode cX1_left 91 = .ok (.iconst 0, 1) := by decide +kernel
theorem dX1_left_92 : decode cX1_left 92 = .ok (.iaload, 1) := by decide +kernel
theorem dX1_left_93 : decode cX1_left 93 = .ok (.iconst (-1), 1) := by decide +kernel
theorem dX1_left_94 : decode cX1_left 94 = .ok (.if_icmp .ne 8, 3) := by decide +kernel
theorem dX1_left_97 : decode cX1_left 97 = .ok (.iload 5, 2) := by decide +kernel
theorem dX1_left_99 : decode cX1_left 99 = .ok (.goto 11, 3) := by decide +kernel
theorem dX1_left_102 : decode cX1_left 102 = .ok (.aload_n 0, 1) := by decide +kernel
theorem dX1_left_103 : decode cX1_left 103 = .ok (.getfield 11, 3) := by decide +kernel
theorem dX1_left_106 : decode cX1_left 106 = .ok (.iconst 3, 1) := by decide +kernel
theorem dX1_left_107 : decode cX1_left 107 = .ok (.aaload, 1) := by decide +kernel
theorem dX1_left_108 : decode cX1_left 108 = .ok (.iconst 0, 1) := by decide +kernel
theorem dX1_left_109 : decode cX1_left 109 = .ok (.iaload, 1) := by decide +kernel
theorem dX1_left_110 : decode cX1_left 110 = .ok (.istore 5, 2) := by decide +kernel
theorem dX1_left_112 : decode cX1_left 112 = .ok (.goto 3, 3) := by decide +kernel
theorem dX1_left_115 : decode cX1_left 115 = .ok (.iconst 0, 1) := by decide +kernel
theorem dX1_left_116 : decode cX1_left 116 = .ok (.iload_n 2, 1) := by decide +kernel
theorem dX1_left_117 : decode cX1_left 117 = .ok (.aload_n 0, 1) := by decide +kernel
theorem dX1_left_118 : decode cX1_left 118 = .ok (.getfield 11, 3) := by decide +kernel
theorem dX1_left_121 : decode cX1_left 121 = .ok (.bipush 10, 2) := by decide +kernel
theorem dX1_left_123 : decode cX1_left 123 = .ok (.aaload, 1) := by decide +kernel
theorem dX1_left_124 : decode cX1_left 124 = .ok (.iload 4, 2) := by decide +kernel
theorem dX1_left_126 : decode cX1_left 126 = .ok (.iaload, 1) := by decide +kernel
theorem dX1_left_127 : decode cX1_left 127 = .ok (.iload_n 2, 1) := by decide +kernel
theorem dX1_left_128 : decode cX1_left 128 = .ok (.iload 5, 2) := by decide +kernel
theorem dX1_left_130 : decode cX1_left 130 = .ok (.invokestatic 65, 3) := by decide +kernel
theorem dX1_left_133 : decode cX1_left 133 = .ok (.invokestatic 49, 3) := by decide +kernel
theorem dX1_left_136 : decode cX1_left 136 = .ok (.invokestatic 68, 3) := by decide +kernel
theorem dX1_left_139 : decode cX1_left 139 = .ok (.ireturn, 1) := by decide +kernel
theorem dX1_means_0 : decode cX1_means 0 = .ok (.aload_n 0, 1) := by decide +kernel
theorem dX1_means_1 : decode cX1_means 1 = .ok (.getfield 11, 3) := by decide +kernel
theorem dX1_means_4 : decode cX1_means 4 = .ok (.iconst 5, 1) := by decide +kernel
theorem dX1_means_5 : decode cX1_means 5 = .ok (.aaload, 1) := by decide +kernel
theorem dX1_means_6 : decode cX1_means 6 = .ok (.iload_n 1, 1) := by decide +kernel
theorem dX1_means_7 : decode cX1_means 7 = .ok (.iaload, 1) := by decide +kernel
theorem dX1_means_8 : decode cX1_means 8 = .ok (.istore 4, 2) := by decide +kernel
theorem dX1_means_10 : decode cX1_means 10 = .ok (.iload 4, 2) := by decide +kernel
theorem dX1_means_12 : decode cX1_means 12 = .ok (.iload_n 3, 1) := by decide +kernel
theorem dX1_means_13 : decode cX1_means 13 = .ok (.imul, 1) := by decide +kernel
theorem dX1_means_14 : decode cX1_means 14 = .ok (.bipush 10, 2) := by decide +kernel
theorem dX1_means_16 : decode cX1_means 16 = .ok (.iload 4, 2) := by decide +kernel
theorem dX1_means_18 : decode cX1_means 18 = .ok (.isub, 1) := by decide +kernel
theorem dX1_means_19 : decode cX1_means 19 = .ok (.aload_n 0, 1) := by decide +kernel
theorem dX1_means_20 : decode cX1_means 20 = .ok (.getfield 11, 3) := by decide +kernel
theorem dX1_means_23 : decode cX1_means 23 = .ok (.bipush 6, 2) := by decide +kernel
theorem dX1_means_25 : decode cX1_means 25 = .ok (.aaload, 1) := by decide +kernel
theorem dX1_means_26 : decode cX1_means 26 = .ok (.iload_n 1, 1) := by decide +kernel
theorem dX1_means_27 : decode cX1_means 27 = .ok (.iaload, 1) := by decide +kernel
theorem dX1_means_28 : decode cX1_means 28 = .ok (.imul, 1) := by decide +kernel
theorem dX1_means_29 : decode cX1_means 29 = .ok (.iadd, 1) := by decide +kernel
theorem dX1_means_30 : decode cX1_means 30 = .ok (.bipush 10, 2) := by decide +kernel
theorem dX1_means_32 : decode cX1_means 32 = .ok (.idiv, 1) := by decide +kernel
theorem dX1_means_33 : decode cX1_means 33 = .ok (.istore 5, 2) := by decide +kernel
theorem dX1_means_35 : decode cX1_means 35 = .ok (.aload_n 0, 1) := by decide +kernel
theorem dX1_means_36 : decode cX1_means 36 = .ok (.getfield 11, 3) := by decide +kernel
theorem dX1_means_39 : decode cX1_means 39 = .ok (.bipush 10, 2) := by decide +kernel
theorem dX1_means_41 : decode cX1_means 41 = .ok (.aaload, 1) := by decide +kernel
theorem dX1_means_42 : decode cX1_means 42 = .ok (.iload_n 1, 1) := by decide +kernel
theorem dX1_means_43 : decode cX1_means 43 = .ok (.iaload, 1) := by decide +kernel
theorem dX1_means_44 : decode cX1_means 44 = .ok (.lookupswitch 65 #[(1, 28), (3, 40)], 28) := by decide +kernel
theorem dX1_means_72 : decode cX1_means 72 = .ok (.iload 5, 2) := by decide +kernel
theorem dX1_means_74 : decode cX1_means 74 = .ok (.aload_n 0, 1) := by decide +kernel
theorem dX1_means_75 : decode cX1_means 75 = .ok (.getfield 11, 3) := by decide +kernel
theorem dX1_means_78 : decode cX1_means 78 = .ok (.iconst 4, 1) := by decide +kernel
theorem dX1_means_79 : decode cX1_means 79 = .ok (.aaload, 1) := by decide +kernel
theorem dX1_means_80 : decode cX1_means 80 = .ok (.iload_n 1, 1) := by decide +kernel
theorem dX1_means_81 : decode cX1_means 81 = .ok (.iaload, 1) := by decide +kernel
theorem dX1_means_82 : decode cX1_means 82 = .ok (.isub, 1) := by decide +kernel
theorem dX1_means_83 : decode cX1_means 83 = .ok (.ireturn, 1) := by decide +kernel
theorem dX1_means_84 : decode cX1_means 84 = .ok (.iload 5, 2) := by decide +kernel
theorem dX1_means_86 : decode cX1_means 86 = .ok (.aload_n 0, 1) := by decide +kernel
theorem dX1_means_87 : decode cX1_means 87 = .ok (.getfield 11, 3) := by decide +kernel
theorem dX1_means_90 : decode cX1_means 90 = .ok (.iconst 4, 1) := by decide +kernel
theorem dX1_means_91 : decode cX1_means 91 = .ok (.aaload, 1) := by decide +kernel
theorem dX1_means_92 : decode cX1_means 92 = .ok (.iload_n 1, 1) := by decide +kernel
theorem dX1_means_93 : decode cX1_means 93 = .ok (.iaload, 1) := by decide +kernel
theorem dX1_means_94 : decode cX1_means 94 = .ok (.isub, 1) := by decide +kernel
theorem dX1_means_95 : decode cX1_means 95 = .ok (.iload_n 2, 1) := by decide +kernel
theorem dX1_means_96 : decode cX1_means 96 = .ok (.iconst 2, 1) := by decide +kernel
theorem dX1_means_97 : decode cX1_means 97 = .ok (.irem, 1) := by decide +kernel
theorem dX1_means_98 : decode cX1_means 98 = .ok (.iconst 1, 1) := by decide +kernel
theorem dX1_means_99 : decode cX1_means 99 = .ok (.if_icmp .ne 7, 3) := by decide +kernel
theorem dX1_means_102 : decode cX1_means 102 = .ok (.iconst 3, 1) := by decide +kernel
theorem dX1_means_103 : decode cX1_means 103 = .ok (.goto 4, 3) := by decide +kernel
theorem dX1_means_106 : decode cX1_means 106 = .ok (.iconst 0, 1) := by decide +kernel
theorem dX1_means_107 : decode cX1_means 107 = .ok (.isub, 1) := by decide +kernel
theorem dX1_means_108 : decode cX1_means 108 = .ok (.ireturn, 1) := by decide +kernel
theorem dX1_means_109 : decode cX1_means 109 = .ok (.iload 5, 2) := by decide +kernel
theorem dX1_means_111 : decode cX1_means 111 = .ok (.ireturn, 1) := by decide +kernel
theorem dX1_leaves_0 : decode cX1_leaves 0 = .ok (.iload_n 0, 1) := by decide +kernel
theorem dX1_leaves_1 : decode cX1_leaves 1 = .ok (.tableswitch 53 2 5 #[31, 53, 37, 47], 31) := by decide +kernel
theorem dX1_leaves_32 : decode cX1_leaves 32 = .ok (.iload_n 1, 1) := by decide +kernel
theorem dX1_leaves_33 : decode cX1_leaves 33 = .ok (.iload_n 2, 1) := by decide +kernel
theorem dX1_leaves_34 : decode cX1_leaves 34 = .ok (.iadd, 1) := by decide +kernel
theorem dX1_leaves_35 : decode cX1_leaves 35 = .ok (.iconst 2, 1) := by decide +kernel
theorem dX1_leaves_36 : decode cX1_leaves 36 = .ok (.idiv, 1) := by decide +kernel
theorem dX1_leaves_37 : decode cX1_leaves 37 = .ok (.ireturn, 1) := by decide +kernel
theorem dX1_leaves_38 : decode cX1_leaves 38 = .ok (.iload_n 1, 1) := by decide +kernel
theorem dX1_leaves_39 : decode cX1_leaves 39 = .ok (.iload_n 1, 1) := by decide +kernel
theorem dX1_leaves_40 : decode cX1_leaves 40 = .ok (.iload_n 2, 1) := by decide +kernel
theorem dX1_leaves_41 : decode cX1_leaves 41 = .ok (.iadd, 1) := by decide +kernel
theorem dX1_leaves_42 : decode cX1_leaves 42 = .ok (.iconst 2, 1) := by decide +kernel
theorem dX1_leaves_43 : decode cX1_leaves 43 = .ok (.idiv, 1) := by decide +kernel
theorem dX1_leaves_44 : decode cX1_leaves 44 = .ok (.iadd, 1) := by decide +kernel
theorem dX1_leaves_45 : decode cX1_leaves 45 = .ok (.iconst 2, 1) := by decide +kernel
theorem dX1_leaves_46 : decode cX1_leaves 46 = .ok (.idiv, 1) := by decide +kernel
theorem dX1_leaves_47 : decode cX1_leaves 47 = .ok (.ireturn, 1) := by decide +kernel
theorem dX1_leaves_48 : decode cX1_leaves 48 = .ok (.iload_n 2, 1) := by decide +kernel
theorem dX1_leaves_49 : decode cX1_leaves 49 = .ok (.iload_n 2, 1) := by decide +kernel
theorem dX1_leaves_50 : decode cX1_leaves 50 = .ok (.iconst 5, 1) := by decide +kernel
theorem dX1_leaves_51 : decode cX1_leaves 51 = .ok (.irem, 1) := by decide +kernel
theorem dX1_leaves_52 : decode cX1_leaves 52 = .ok (.isub, 1) := by decide +kernel
theorem dX1_leaves_53 : decode cX1_leaves 53 = .ok (.ireturn, 1) := by decide +kernel
theorem dX1_leaves_54 : decode cX1_leaves 54 = .ok (.iload_n 2, 1) := by decide +kernel
theorem dX1_leaves_55 : decode cX1_leaves 55 = .ok (.ireturn, 1) := by decide +kernel
theorem dX1_even_0 : decode cX1_even 0 = .ok (.aload_n 0, 1) := by decide +kernel
theorem dX1_even_1 : decode cX1_even 1 = .ok (.getfield 11, 3) := by decide +kernel
theorem dX1_even_4 : decode cX1_even 4 = .ok (.iconst 0, 1) := by decide +kernel
theorem dX1_even_5 : decode cX1_even 5 = .ok (.aaload, 1) := by decide +kernel
theorem dX1_even_6 : decode cX1_even 6 = .ok (.astore_n 3, 1) := by decide +kernel
theorem dX1_even_7 : decode cX1_even 7 = .ok (.iconst 0, 1) := by decide +kernel
theorem dX1_even_8 : decode cX1_even 8 = .ok (.istore 4, 2) := by decide +kernel
theorem dX1_even_10 : decode cX1_even 10 = .ok (.iload 4, 2) := by decide +kernel
theorem dX1_even_12 : decode cX1_even 12 = .ok (.bipush 30, 2) := by decide +kernel
theorem dX1_even_14 : decode cX1_even 14 = .ok (.if_icmp .ge 96, 3) := by decide +kernel
theorem dX1_even_17 : decode cX1_even 17 = .ok (.aload_n 0, 1) := by decide +kernel
theorem dX1_even_18 : decode cX1_even 18 = .ok (.getfield 26, 3) := by decide +kernel
theorem dX1_even_21 : decode cX1_even 21 = .ok (.aload_n 0, 1) := by decide +kernel
theorem dX1_even_22 : decode cX1_even 22 = .ok (.getfield 23, 3) := by decide +kernel
theorem dX1_even_25 : decode cX1_even 25 = .ok (.aaload, 1) := by decide +kernel
theorem dX1_even_26 : decode cX1_even 26 = .ok (.iconst 1, 1) := by decide +kernel
theorem dX1_even_27 : decode cX1_even 27 = .ok (.iload_n 1, 1) := by decide +kernel
theorem dX1_even_28 : decode cX1_even 28 = .ok (.aload_n 0, 1) := by decide +kernel
theorem dX1_even_29 : decode cX1_even 29 = .ok (.iload_n 2, 1) := by decide +kernel
theorem dX1_even_30 : decode cX1_even 30 = .ok (.invokevirtual 43, 3) := by decide +kernel
theorem dX1_even_33 : decode cX1_even 33 = .ok (.istore 5, 2) := by decide +kernel
theorem dX1_even_35 : decode cX1_even 35 = .ok (.aload_n 3, 1) := by decide +kernel
theorem dX1_even_36 : decode cX1_even 36 = .ok (.iload_n 1, 1) := by decide +kernel
theorem dX1_even_37 : decode cX1_even 37 = .ok (.iaload, 1) := by decide +kernel
theorem dX1_even_38 : decode cX1_even 38 = .ok (.aload_n 3, 1) := by decide +kernel
theorem dX1_even_39 : decode cX1_even 39 = .ok (.iload_n 1, 1) := by decide +kernel
theorem dX1_even_40 : decode cX1_even 40 = .ok (.iconst 1, 1) := by decide +kernel
theorem dX1_even_41 : decode cX1_even 41 = .ok (.iadd, 1) := by decide +kernel
theorem dX1_even_42 : decode cX1_even 42 = .ok (.iaload, 1) := by decide +kernel
theorem dX1_even_43 : decode cX1_even 43 = .ok (.isub, 1) := by decide +kernel
theorem dX1_even_44 : decode cX1_even 44 = .ok (.invokestatic 71, 3) := by decide +kernel
theorem dX1_even_47 : decode cX1_even 47 = .ok (.iload 5, 2) := by decide +kernel
theorem dX1_even_49 : decode cX1_even 49 = .ok (.if_icmp .gt 6, 3) := by decide +kernel
theorem dX1_even_52 : decode cX1_even 52 = .ok (.iload 4, 2) := by decide +kernel
theorem dX1_even_54 : decode cX1_even 54 = .ok (.ireturn, 1) := by decide +kernel
theorem dX1_even_55 : decode cX1_even 55 = .ok (.aload_n 3, 1) := by decide +kernel
theorem dX1_even_56 : decode cX1_even 56 = .ok (.iload_n 1, 1) := by decide +kernel
theorem dX1_even_57 : decode cX1_even 57 = .ok (.iaload, 1) := by decide +kernel
theorem dX1_even_58 : decode cX1_even 58 = .ok (.aload_n 3, 1) := by decide +kernel
theorem dX1_even_59 : decode cX1_even 59 = .ok (.iload_n 1, 1) := by decide +kernel
theorem dX1_even_60 : decode cX1_even 60 = .ok (.iconst 1, 1) := by decide +kernel
theorem dX1_even_61 : decode cX1_even 61 = .ok (.iadd, 1) := by decide +kernel
theorem dX1_even_62 : decode cX1_even 62 = .ok (.iaload, 1) := by decide +kernel
theorem dX1_even_63 : decode cX1_even 63 = .ok (.if_icmp .le 7, 3) := by decide +kernel
theorem dX1_even_66 : decode cX1_even 66 = .ok (.iload_n 1, 1) := by decide +kernel
theorem dX1_even_67 : decode cX1_even 67 = .ok (.goto 6, 3) := by decide +kernel
theorem dX1_even_70 : decode cX1_even 70 = .ok (.iload_n 1, 1) := by decide +kernel
theorem dX1_even_71 : decode cX1_even 71 = .ok (.iconst 1, 1) := by decide +kernel
theorem dX1_even_72 : decode cX1_even 72 = .ok (.iadd, 1) := by decide +kernel
theorem dX1_even_73 : decode cX1_even 73 = .ok (.istore 6, 2) := by decide +kernel
theorem dX1_even_75 : decode cX1_even 75 = .ok (.iload 6, 2) := by decide +kernel
theorem dX1_even_77 : decode cX1_even 77 = .ok (.iload_n 1, 1) := by decide +kernel
theorem dX1_even_78 : decode cX1_even 78 = .ok (.if_icmp .ne 9, 3) := by decide +kernel
theorem dX1_even_81 : decode cX1_even 81 = .ok (.iload_n 1, 1) := by decide +kernel
theorem dX1_even_82 : decode cX1_even 82 = .ok (.iconst 1, 1) := by decide +kernel
theorem dX1_even_83 : decode cX1_even 83 = .ok (.iadd, 1) := by decide +kernel
theorem dX1_even_84 : decode cX1_even 84 = .ok (.goto 4, 3) := by decide +kernel
theorem dX1_even_87 : decode cX1_even 87 = .ok (.iload_n 1, 1) := by decide +kernel
theorem dX1_even_88 : decode cX1_even 88 = .ok (.istore 7, 2) := by decide +kernel
theorem dX1_even_90 : decode cX1_even 90 = .ok (.aload_n 3, 1) := by decide +kernel
theorem dX1_even_91 : decode cX1_even 91 = .ok (.iload 6, 2) := by decide +kernel
theorem dX1_even_93 : decode cX1_even 93 = .ok (.iconst 0, 1) := by decide +kernel
theorem dX1_even_94 : decode cX1_even 94 = .ok (.aload_n 3, 1) := by decide +kernel
theorem dX1_even_95 : decode cX1_even 95 = .ok (.iload 7, 2) := by decide +kernel
theorem dX1_even_97 : decode cX1_even 97 = .ok (.iaload, 1) := by decide +kernel
theorem dX1_even_98 : decode cX1_even 98 = .ok (.iconst 1, 1) := by decide +kernel
theorem dX1_even_99 : decode cX1_even 99 = .ok (.isub, 1) := by decide +kernel
theorem dX1_even_100 : decode cX1_even 100 = .ok (.invokestatic 68, 3) := by decide +kernel
theorem dX1_even_103 : decode cX1_even 103 = .ok (.iastore, 1) := by decide +kernel
theorem dX1_even_104 : decode cX1_even 104 = .ok (.iinc 4 1, 3) := by decide +kernel
theorem dX1_even_107 : decode cX1_even 107 = .ok (.goto (-97), 3) := by decide +kernel
theorem dX1_even_110 : decode cX1_even 110 = .ok (.bipush 30, 2) := by decide +kernel
theorem dX1_even_112 : decode cX1_even 112 = .ok (.ireturn, 1) := by decide +kernel
theorem dX1_off_0 : decode cX1_off 0 = .ok (.iconst 0, 1) := by decide +kernel
theorem dX1_off_1 : decode cX1_off 1 = .ok (.istore_n 1, 1) := by decide +kernel
theorem dX1_off_2 : decode cX1_off 2 = .ok (.iconst 0, 1) := by decide +kernel
theorem dX1_off_3 : decode cX1_off 3 = .ok (.istore_n 2, 1) := by decide +kernel
theorem dX1_off_4 : decode cX1_off 4 = .ok (.iload_n 2, 1) := by decide +kernel
theorem dX1_off_5 : decode cX1_off 5 = .ok (.iconst 4, 1) := by decide +kernel
theorem dX1_off_6 : decode cX1_off 6 = .ok (.if_icmp .ge 51, 3) := by decide +kernel
theorem dX1_off_9 : decode cX1_off 9 = .ok (.aload_n 0, 1) := by decide +kernel
theorem dX1_off_10 : decode cX1_off 10 = .ok (.getfield 11, 3) := by decide +kernel
theorem dX1_off_13 : decode cX1_off 13 = .ok (.iconst 0, 1) := by decide +kernel
theorem dX1_off_14 : decode cX1_off 14 = .ok (.aaload, 1) := by decide +kernel
theorem dX1_off_15 : decode cX1_off 15 = .ok (.iload_n 2, 1) := by decide +kernel
theorem dX1_off_16 : decode cX1_off 16 = .ok (.iaload, 1) := by decide +kernel
theorem dX1_off_17 : decode cX1_off 17 = .ok (.aload_n 0, 1) := by decide +kernel
theorem dX1_off_18 : decode cX1_off 18 = .ok (.getfield 11, 3) := by decide +kernel
theorem dX1_off_21 : decode cX1_off 21 = .ok (.iconst 2, 1) := by decide +kernel
theorem dX1_off_22 : decode cX1_off 22 = .ok (.aaload, 1) := by decide +kernel
theorem dX1_off_23 : decode cX1_off 23 = .ok (.iload_n 2, 1) := by decide +kernel
theorem dX1_off_24 : decode cX1_off 24 = .ok (.iaload, 1) := by decide +kernel
theorem dX1_off_25 : decode cX1_off 25 = .ok (.isub, 1) := by decide +kernel
theorem dX1_off_26 : decode cX1_off 26 = .ok (.invokestatic 71, 3) := by decide +kernel
theorem dX1_off_29 : decode cX1_off 29 = .ok (.istore_n 3, 1) := by decide +kernel
theorem dX1_off_30 : decode cX1_off 30 = .ok (.iload_n 1, 1) := by decide +kernel
theorem dX1_off_31 : decode cX1_off 31 = .ok (.iload_n 3, 1) := by decide +kernel
theorem dX1_off_32 : decode cX1_off 32 = .ok (.aload_n 0, 1) := by decide +kernel
theorem dX1_off_33 : decode cX1_off 33 = .ok (.getfield 26, 3) := by decide +kernel
theorem dX1_off_36 : decode cX1_off 36 = .ok (.aload_n 0, 1) := by decide +kernel
theorem dX1_off_37 : decode cX1_off 37 = .ok (.getfield 23, 3) := by decide +kernel
theorem dX1_off_40 : decode cX1_off 40 = .ok (.aaload, 1) := by decide +kernel
theorem dX1_off_41 : decode cX1_off 41 = .ok (.iconst 2, 1) := by decide +kernel
theorem dX1_off_42 : decode cX1_off 42 = .ok (.iload_n 2, 1) := by decide +kernel
theorem dX1_off_43 : decode cX1_off 43 = .ok (.aload_n 0, 1) := by decide +kernel
theorem dX1_off_44 : decode cX1_off 44 = .ok (.iconst (-1), 1) := by decide +kernel
theorem dX1_off_45 : decode cX1_off 45 = .ok (.invokevirtual 43, 3) := by decide +kernel
theorem dX1_off_48 : decode cX1_off 48 = .ok (.imul, 1) := by decide +kernel
theorem dX1_off_49 : decode cX1_off 49 = .ok (.iadd, 1) := by decide +kernel
theorem dX1_off_50 : decode cX1_off 50 = .ok (.istore_n 1, 1) := by decide +kernel
theorem dX1_off_51 : decode cX1_off 51 = .ok (.iinc 2 1, 3) := by decide +kernel
theorem dX1_off_54 : decode cX1_off 54 = .ok (.goto (-50), 3) := by decide +kernel
theorem dX1_off_57 : decode cX1_off 57 = .ok (.iload_n 1, 1) := by decide +kernel
theorem dX1_off_58 : decode cX1_off 58 = .ok (.ireturn, 1) := by decide +kernel
theorem dX2_init_0 : decode cX2_init 0 = .ok (.aload_n 0, 1) := by decide +kernel
theorem dX2_init_1 : decode cX2_init 1 = .ok (.invokespecial 3, 3) := by decide +kernel
theorem dX2_init_4 : decode cX2_init 4 = .ok (.aload_n 0, 1) := by decide +kernel
theorem dX2_init_5 : decode cX2_init 5 = .ok (.bipush 40, 2) := by decide +kernel
theorem dX2_init_7 : decode cX2_init 7 = .ok (.newarray .int, 2) := by decide +kernel
theorem dX2_init_9 : decode cX2_init 9 = .ok (.putfield 9, 3) := by decide +kernel
theorem dX2_init_12 : decode cX2_init 12 = .ok (.aload_n 0, 1) := by decide +kernel
theorem dX2_init_13 : decode cX2_init 13 = .ok (.iconst (-1), 1) := by decide +kernel
theorem dX2_init_14 : decode cX2_init 14 = .ok (.putfield 15, 3) := by decide +kernel
theorem dX2_init_17 : decode cX2_init 17 = .ok (.aload_n 0, 1) := by decide +kernel
theorem dX2_init_18 : decode cX2_init 18 = .ok (.iconst 0, 1) := by decide +kernel
theorem dX2_init_19 : decode cX2_init 19 = .ok (.putfield 19, 3) := by decide +kernel
theorem dX2_init_22 : decode cX2_init 22 = .ok (.return_, 1) := by decide +kernel
theorem dX2_renew_0 : decode cX2_renew 0 = .ok (.aload_n 0, 1) := by decide +kernel
theorem dX2_renew_1 : decode cX2_renew 1 = .ok (.iload_n 1, 1) := by decide +kernel
theorem dX2_renew_2 : decode cX2_renew 2 = .ok (.putfield 15, 3) := by decide +kernel
theorem dX2_renew_5 : decode cX2_renew 5 = .ok (.aload_n 0, 1) := by decide +kernel
theorem dX2_renew_6 : decode cX2_renew 6 = .ok (.iload_n 2, 1) := by decide +kernel
theorem dX2_renew_7 : decode cX2_renew 7 = .ok (.putfield 19, 3) := by decide +kernel
theorem dX2_renew_10 : decode cX2_renew 10 = .ok (.iconst 0, 1) := by decide +kernel
theorem dX2_renew_11 : decode cX2_renew 11 = .ok (.istore_n 3, 1) := by decide +kernel
theorem dX2_renew_12 : decode cX2_renew 12 = .ok (.iload_n 3, 1) := by decide +kernel
theorem dX2_renew_13 : decode cX2_renew 13 = .ok (.bipush 40, 2) := by decide +kernel
theorem dX2_renew_15 : decode cX2_renew 15 = .ok (.if_icmp .ge 16, 3) := by decide +kernel
theorem dX2_renew_18 : decode cX2_renew 18 = .ok (.aload_n 0, 1) := by decide +kernel
theorem dX2_renew_19 : decode cX2_renew 19 = .ok (.getfield 9, 3) := by decide +kernel
theorem dX2_renew_22 : decode cX2_renew 22 = .ok (.iload_n 3, 1) := by decide +kernel
theorem dX2_renew_23 : decode cX2_renew 23 = .ok (.iconst 0, 1) := by decide +kernel
theorem dX2_renew_24 : decode cX2_renew 24 = .ok (.iastore, 1) := by decide +kernel
theorem dX2_renew_25 : decode cX2_renew 25 = .ok (.iinc 3 1, 3) := by decide +kernel
theorem dX2_renew_28 : decode cX2_renew 28 = .ok (.goto (-16), 3) := by decide +kernel
theorem dX2_renew_31 : decode cX2_renew 31 = .ok (.return_, 1) := by decide +kernel
theorem dX2_put_0 : decode cX2_put 0 = .ok (.iload_n 1, 1) := by decide +kernel
theorem dX2_put_1 : decode cX2_put 1 = .ok (.ifCond .lt 11, 3) := by decide +kernel
theorem dX2_put_4 : decode cX2_put 4 = .ok (.iload_n 1, 1) := by decide +kernel
theorem dX2_put_5 : decode cX2_put 5 = .ok (.aload_n 0, 1) := by decide +kernel
theorem dX2_put_6 : decode cX2_put 6 = .ok (.getfield 19, 3) := by decide +kernel
theorem dX2_put_9 : decode cX2_put 9 = .ok (.if_icmp .lt 5, 3) := by decide +kernel
theorem dX2_put_12 : decode cX2_put 12 = .ok (.iconst 0, 1) := by decide +kernel
theorem dX2_put_13 : decode cX2_put 13 = .ok (.ireturn, 1) := by decide +kernel
theorem dX2_put_14 : decode cX2_put 14 = .ok (.aload_n 0, 1) := by decide +kernel
theorem dX2_put_15 : decode cX2_put 15 = .ok (.getfield 9, 3) := by decide +kernel
theorem dX2_put_18 : decode cX2_put 18 = .ok (.iload_n 1, 1) := by decide +kernel
theorem dX2_put_19 : decode cX2_put 19 = .ok (.aload_n 0, 1) := by decide +kernel
theorem dX2_put_20 : decode cX2_put 20 = .ok (.getfield 15, 3) := by decide +kernel
theorem dX2_put_23 : decode cX2_put 23 = .ok (.ifCond .ne 8, 3) := by decide +kernel
theorem dX2_put_26 : decode cX2_put 26 = .ok (.iload_n 2, 1) := by decide +kernel
theorem dX2_put_27 : decode cX2_put 27 = .ok (.i2b, 1) := by decide +kernel
theorem dX2_put_28 : decode cX2_put 28 = .ok (.goto 17, 3) := by decide +kernel
theorem dX2_put_31 : decode cX2_put 31 = .ok (.aload_n 0, 1) := by decide +kernel
theorem dX2_put_32 : decode cX2_put 32 = .ok (.getfield 15, 3) := by decide +kernel
theorem dX2_put_35 : decode cX2_put 35 = .ok (.iconst 1, 1) := by decide +kernel
theorem dX2_put_36 : decode cX2_put 36 = .ok (.if_icmp .ne 8, 3) := by decide +kernel
theorem dX2_put_39 : decode cX2_put 39 = .ok (.iload_n 2, 1) := by decide +kernel
theorem dX2_put_40 : decode cX2_put 40 = .ok (.i2s, 1) := by decide +kernel
theorem dX2_put_41 : decode cX2_put 41 = .ok (.goto 4, 3) := by decide +kernel
theorem dX2_put_44 : decode cX2_put 44 = .ok (.iload_n 2, 1) := by decide +kernel
theorem dX2_put_45 : decode cX2_put 45 = .ok (.iastore, 1) := by decide +kernel
theorem dX2_put_46 : decode cX2_put 46 = .ok (.iconst 1, 1) := by decide +kernel
theorem dX2_put_47 : decode cX2_put 47 = .ok (.ireturn, 1) := by decide +kernel
theorem dX3_init_0 : decode cX3_init 0 = .ok (.aload_n 0, 1) := by decide +kernel
theorem dX3_init_1 : decode cX3_init 1 = .ok (.invokespecial 3, 3) := by decide +kernel
theorem dX3_init_4 : decode cX3_init 4 = .ok (.aload_n 0, 1) := by decide +kernel
theorem dX3_init_5 : decode cX3_init 5 = .ok (.sipush 160, 3) := by decide +kernel
theorem dX3_init_8 : decode cX3_init 8 = .ok (.newarray .int, 2) := by decide +kernel
theorem dX3_init_10 : decode cX3_init 10 = .ok (.putfield 9, 3) := by decide +kernel
theorem dX3_init_13 : decode cX3_init 13 = .ok (.aload_n 0, 1) := by decide +kernel
theorem dX3_init_14 : decode cX3_init 14 = .ok (.iconst 3, 1) := by decide +kernel
theorem dX3_init_15 : decode cX3_init 15 = .ok (.newarray .int, 2) := by decide +kernel
theorem dX3_init_17 : decode cX3_init 17 = .ok (.putfield 15, 3) := by decide +kernel
theorem dX3_init_20 : decode cX3_init 20 = .ok (.aload_n 0, 1) := by decide +kernel
theorem dX3_init_21 : decode cX3_init 21 = .ok (.bipush 40, 2) := by decide +kernel
theorem dX3_init_23 : decode cX3_init 23 = .ok (.newarray .int, 2) := by decide +kernel
theorem dX3_init_25 : decode cX3_init 25 = .ok (.putfield 18, 3) := by decide +kernel
theorem dX3_init_28 : decode cX3_init 28 = .ok (.aload_n 0, 1) := by decide +kernel
theorem dX3_init_29 : decode cX3_init 29 = .ok (.iconst 0, 1) := by decide +kernel
theorem dX3_init_30 : decode cX3_init 30 = .ok (.putfield 21, 3) := by decide +kernel
theorem dX3_init_33 : decode cX3_init 33 = .ok (.return_, 1) := by decide +kernel
theorem dX3_add_0 : decode cX3_add 0 = .ok (.aload_n 0, 1) := by decide +kernel
theorem dX3_add_1 : decode cX3_add 1 = .ok (.getfield 21, 3) := by decide +kernel
theorem dX3_add_4 : decode cX3_add 4 = .ok (.aload_n 0, 1) := by decide +kernel
theorem dX3_add_5 : decode cX3_add 5 = .ok (.getfield 9, 3) := by decide +kernel
theorem dX3_add_8 : decode cX3_add 8 = .ok (.arraylength, 1) := by decide +kernel
theorem dX3_add_9 : decode cX3_add 9 = .ok (.if_icmp .ge 23, 3) := by decide +kernel
theorem dX3_add_12 : decode cX3_add 12 = .ok (.aload_n 0, 1) := by decide +kernel
theorem dX3_add_13 : decode cX3_add 13 = .ok (.getfield 9, 3) := by decide +kernel
theorem dX3_add_16 : decode cX3_add 16 = .ok (.aload_n 0, 1) := by decide +kernel
theorem dX3_add_17 : decode cX3_add 17 = .ok (.getfield 21, 3) := by decide +kernel
theorem dX3_add_20 : decode cX3_add 20 = .ok (.iload_n 1, 1) := by decide +kernel
theorem dX3_add_21 : decode cX3_add 21 = .ok (.iastore, 1) := by decide +kernel
theorem dX3_add_22 : decode cX3_add 22 = .ok (.aload_n 0, 1) := by decide +kernel
theorem dX3_add_23 : decode cX3_add 23 = .ok (.dup, 1) := by decide +kernel
theorem dX3_add_24 : decode cX3_add 24 = .ok (.getfield 21, 3) := by decide +kernel
theorem dX3_add_27 : decode cX3_add 27 = .ok (.iconst 1, 1) := by decide +kernel
theorem dX3_add_28 : decode cX3_add 28 = .ok (.iadd, 1) := by decide +kernel
theorem dX3_add_29 : decode cX3_add 29 = .ok (.putfield 21, 3) := by decide +kernel
theorem dX3_add_32 : decode cX3_add 32 = .ok (.return_, 1) := by decide +kernel
theorem dX3_tell_0 : decode cX3_tell 0 = .ok (.iconst 0, 1) := by decide +kernel
theorem dX3_tell_1 : decode cX3_tell 1 = .ok (.istore 5, 2) := by decide +kernel
theorem dX3_tell_3 : decode cX3_tell 3 = .ok (.iload_n 1, 1) := by decide +kernel
theorem dX3_tell_4 : decode cX3_tell 4 = .ok (.ifCond .ne 7, 3) := by decide +kernel
theorem dX3_tell_7 : decode cX3_tell 7 = .ok (.iconst 0, 1) := by decide +kernel
theorem dX3_tell_8 : decode cX3_tell 8 = .ok (.goto 11, 3) := by decide +kernel
theorem dX3_tell_11 : decode cX3_tell 11 = .ok (.aload_n 0, 1) := by decide +kernel
theorem dX3_tell_12 : decode cX3_tell 12 = .ok (.getfield 15, 3) := by decide +kernel
theorem dX3_tell_15 : decode cX3_tell 15 = .ok (.iload_n 1, 1) := by decide +kernel
theorem dX3_tell_16 : decode cX3_tell 16 = .ok (.iconst 1, 1) := by decide +kernel
theorem dX3_tell_17 : decode cX3_tell 17 = .ok (.isub, 1) := by decide +kernel
theorem dX3_tell_18 : decode cX3_tell 18 = .ok (.iaload, 1) := by decide +kernel
theorem dX3_tell_19 : decode cX3_tell 19 = .ok (.istore 6, 2) := by decide +kernel
theorem dX3_tell_21 : decode cX3_tell 21 = .ok (.iload 6, 2) := by decide +kernel
theorem dX3_tell_23 : decode cX3_tell 23 = .ok (.aload_n 0, 1) := by decide +kernel
theorem dX3_tell_24 : decode cX3_tell 24 = .ok (.getfield 15, 3) := by decide +kernel
theorem dX3_tell_27 : decode cX3_tell 27 = .ok (.iload_n 1, 1) := by decide +kernel
theorem dX3_tell_28 : decode cX3_tell 28 = .ok (.iaload, 1) := by decide +kernel
theorem dX3_tell_29 : decode cX3_tell 29 = .ok (.if_icmp .ge 186, 3) := by decide +kernel
theorem dX3_tell_32 : decode cX3_tell 32 = .ok (.aload_n 0, 1) := by decide +kernel
theorem dX3_tell_33 : decode cX3_tell 33 = .ok (.getfield 9, 3) := by decide +kernel
theorem dX3_tell_36 : decode cX3_tell 36 = .ok (.iload 6, 2) := by decide +kernel
theorem dX3_tell_38 : decode cX3_tell 38 = .ok (.iaload, 1) := by decide +kernel
theorem dX3_tell_39 : decode cX3_tell 39 = .ok (.istore 7, 2) := by decide +kernel
theorem dX3_tell_41 : decode cX3_tell 41 = .ok (.iload 7, 2) := by decide +kernel
theorem dX3_tell_43 : decode cX3_tell 43 = .ok (.sipush 10005, 3) := by decide +kernel
theorem dX3_tell_46 : decode cX3_tell 46 = .ok (.if_icmp .gt 45, 3) := by decide +kernel
theorem dX3_tell_49 : decode cX3_tell 49 = .ok (.iload 5, 2) := by decide +kernel
theorem dX3_tell_51 : decode cX3_tell 51 = .ok (.bipush 40, 2) := by decide +kernel
theorem dX3_tell_53 : decode cX3_tell 53 = .ok (.if_icmp .ge 38, 3) := by decide +kernel
theorem dX3_tell_56 : decode cX3_tell 56 = .ok (.aload_n 0, 1) := by decide +kernel
theorem dX3_tell_57 : decode cX3_tell 57 = .ok (.getfield 18, 3) := by decide +kernel
theorem dX3_tell_60 : decode cX3_tell 60 = .ok (.iload 5, 2) := by decide +kernel
theorem dX3_tell_62 : decode cX3_tell 62 = .ok (.iload 7, 2) := by decide +kernel
theorem dX3_tell_64 : decode cX3_tell 64 = .ok (.sipush 10000, 3) := by decide +kernel
theorem dX3_tell_67 : decode cX3_tell 67 = .ok (.if_icmp .ge 8, 3) := by decide +kernel
theorem dX3_tell_70 : decode cX3_tell 70 = .ok (.iload 7, 2) := by decide +kernel
theorem dX3_tell_72 : decode cX3_tell 72 = .ok (.goto 12, 3) := by decide +kernel
theorem dX3_tell_75 : decode cX3_tell 75 = .ok (.iload 7, 2) := by decide +kernel
theorem dX3_tell_77 : decode cX3_tell 77 = .ok (.iload_n 2, 1) := by decide +kernel
theorem dX3_tell_78 : decode cX3_tell 78 = .ok (.aload_n 3, 1) := by decide +kernel
theorem dX3_tell_79 : decode cX3_tell 79 = .ok (.iload 4, 2) := by decide +kernel
theorem dX3_tell_81 : decode cX3_tell 81 = .ok (.invokestatic 25, 3) := by decide +kernel
theorem dX3_tell_84 : decode cX3_tell 84 = .ok (.iastore, 1) := by decide +kernel
theorem dX3_tell_85 : decode cX3_tell 85 = .ok (.iinc 5 1, 3) := by decide +kernel
theorem dX3_tell_88 : decode cX3_tell 88 = .ok (.goto 121, 3) := by decide +kernel
theorem dX3_tell_91 : decode cX3_tell 91 = .ok (.iload 7, 2) := by decide +kernel
theorem dX3_tell_93 : decode cX3_tell 93 = .ok (.sipush 10020, 3) := by decide +kernel
theorem dX3_tell_96 : decode cX3_tell 96 = .ok (.if_icmp .ne 31, 3) := by decide +kernel
theorem dX3_tell_99 : decode cX3_tell 99 = .ok (.iload 5, 2) := by decide +kernel
theorem dX3_tell_101 : decode cX3_tell 101 = .ok (.iconst 1, 1) := by decide +kernel
theorem dX3_tell_102 : decode cX3_tell 102 = .ok (.if_icmp .lt 25, 3) := by decide +kernel
theorem dX3_tell_105 : decode cX3_tell 105 = .ok (.aload_n 0, 1) := by decide +kernel
theorem dX3_tell_106 : decode cX3_tell 106 = .ok (.getfield 18, 3) := by decide +kernel
theorem dX3_tell_109 : decode cX3_tell 109 = .ok (.iload 5, 2) := by decide +kernel
theorem dX3_tell_111 : decode cX3_tell 111 = .ok (.iconst 1, 1) := by decide +kernel
theorem dX3_tell_112 : decode cX3_tell 112 = .ok (.isub, 1) := by decide +kernel
theorem dX3_tell_113 : decode cX3_tell 113 = .ok (.aload_n 0, 1) := by decide +kernel
theorem dX3_tell_114 : decode cX3_tell 114 = .ok (.getfield 18, 3) := by decide +kernel
theorem dX3_tell_117 : decode cX3_tell 117 = .ok (.iload 5, 2) := by decide +kernel
theorem dX3_tell_119 : decode cX3_tell 119 = .ok (.iconst 1, 1) := by decide +kernel
theorem dX3_tell_120 : decode cX3_tell 120 = .ok (.isub, 1) := by decide +kernel
theorem dX3_tell_121 : decode cX3_tell 121 = .ok (.iaload, 1) := by decide +kernel
theorem dX3_tell_122 : decode cX3_tell 122 = .ok (.ineg, 1) := by decide +kernel
theorem dX3_tell_123 : decode cX3_tell 123 = .ok (.iastore, 1) := by decide +kernel
theorem dX3_tell_124 : decode cX3_tell 124 = .ok (.goto 85, 3) := by decide +kernel
theorem dX3_tell_127 : decode cX3_tell 127 = .ok (.iload 7, 2) := by decide +kernel
theorem dX3_tell_129 : decode cX3_tell 129 = .ok (.sipush 10011, 3) := by decide +kernel
theorem dX3_tell_132 : decode cX3_tell 132 = .ok (.if_icmp .ne 38, 3) := by decide +kernel
theorem dX3_tell_135 : decode cX3_tell 135 = .ok (.iload 5, 2) := by decide +kernel
theorem dX3_tell_137 : decode cX3_tell 137 = .ok (.iconst 1, 1) := by decide +kernel
theorem dX3_tell_138 : decode cX3_tell 138 = .ok (.if_icmp .lt 32, 3) := by decide +kernel
theorem dX3_tell_141 : decode cX3_tell 141 = .ok (.aload_n 0, 1) := by decide +kernel
theorem dX3_tell_142 : decode cX3_tell 142 = .ok (.getfield 18, 3) := by decide +kernel
theorem dX3_tell_145 : decode cX3_tell 145 = .ok (.iload 5, 2) := by decide +kernel
theorem dX3_tell_147 : decode cX3_tell 147 = .ok (.iconst 1, 1) := by decide +kernel
theorem dX3_tell_148 : decode cX3_tell 148 = .ok (.isub, 1) := by decide +kernel
theorem dX3_tell_149 : decode cX3_tell 149 = .ok (.aload_n 0, 1) := by decide +kernel
theorem dX3_tell_150 : decode cX3_tell 150 = .ok (.getfield 18, 3) := by decide +kernel
theorem dX3_tell_153 : decode cX3_tell 153 = .ok (.iload 5, 2) := by decide +kernel
theorem dX3_tell_155 : decode cX3_tell 155 = .ok (.iconst 1, 1) := by decide +kernel
theorem dX3_tell_156 : decode cX3_tell 156 = .ok (.isub, 1) := by decide +kernel
theorem dX3_tell_157 : decode cX3_tell 157 = .ok (.iaload, 1) := by decide +kernel
theorem dX3_tell_158 : decode cX3_tell 158 = .ok (.ifCond .ne 7, 3) := by decide +kernel
theorem dX3_tell_161 : decode cX3_tell 161 = .ok (.iconst 1, 1) := by decide +kernel
theorem dX3_tell_162 : decode cX3_tell 162 = .ok (.goto 4, 3) := by decide +kernel
theorem dX3_tell_165 : decode cX3_tell 165 = .ok (.iconst 0, 1) := by decide +kernel
theorem dX3_tell_166 : decode cX3_tell 166 = .ok (.iastore, 1) := by decide +kernel
theorem dX3_tell_167 : decode cX3_tell 167 = .ok (.goto 42, 3) := by decide +kernel
theorem dX3_tell_170 : decode cX3_tell 170 = .ok (.iload 5, 2) := by decide +kernel
theorem dX3_tell_172 : decode cX3_tell 172 = .ok (.iconst 2, 1) := by decide +kernel
theorem dX3_tell_173 : decode cX3_tell 173 = .ok (.if_icmp .lt 36, 3) := by decide +kernel
theorem dX3_tell_176 : decode cX3_tell 176 = .ok (.iinc 5 (-1), 3) := by decide +kernel
theorem dX3_tell_179 : decode cX3_tell 179 = .ok (.aload_n 0, 1) := by decide +kernel
theorem dX3_tell_180 : decode cX3_tell 180 = .ok (.getfield 18, 3) := by decide +kernel
theorem dX3_tell_183 : decode cX3_tell 183 = .ok (.iload 5, 2) := by decide +kernel
theorem dX3_tell_185 : decode cX3_tell 185 = .ok (.iconst 1, 1) := by decide +kernel
theorem dX3_tell_186 : decode cX3_tell 186 = .ok (.isub, 1) := by decide +kernel
theorem dX3_tell_187 : decode cX3_tell 187 = .ok (.iload 7, 2) := by decide +kernel
theorem dX3_tell_189 : decode cX3_tell 189 = .ok (.aload_n 0, 1) := by decide +kernel
theorem dX3_tell_190 : decode cX3_tell 190 = .ok (.getfield 18, 3) := by decide +kernel
theorem dX3_tell_193 : decode cX3_tell 193 = .ok (.iload 5, 2) := by decide +kernel
theorem dX3_tell_195 : decode cX3_tell 195 = .ok (.iconst 1, 1) := by decide +kernel
theorem dX3_tell_196 : decode cX3_tell 196 = .ok (.isub, 1) := by decide +kernel
theorem dX3_tell_197 : decode cX3_tell 197 = .ok (.iaload, 1) := by decide +kernel
theorem dX3_tell_198 : decode cX3_tell 198 = .ok (.aload_n 0, 1) := by decide +kernel
theorem dX3_tell_199 : decode cX3_tell 199 = .ok (.getfield 18, 3) := by decide +kernel
theorem dX3_tell_202 : decode cX3_tell 202 = .ok (.iload 5, 2) := by decide +kernel
theorem dX3_tell_204 : decode cX3_tell 204 = .ok (.iaload, 1) := by decide +kernel
theorem dX3_tell_205 : decode cX3_tell 205 = .ok (.invokestatic 29, 3) := by decide +kernel
theorem dX3_tell_208 : decode cX3_tell 208 = .ok (.iastore, 1) := by decide +kernel
theorem dX3_tell_209 : decode cX3_tell 209 = .ok (.iinc 6 1, 3) := by decide +kernel
theorem dX3_tell_212 : decode cX3_tell 212 = .ok (.goto (-191), 3) := by decide +kernel
theorem dX3_tell_215 : decode cX3_tell 215 = .ok (.iload 5, 2) := by decide +kernel
theorem dX3_tell_217 : decode cX3_tell 217 = .ok (.ifCond .le 15, 3) := by decide +kernel
theorem dX3_tell_220 : decode cX3_tell 220 = .ok (.aload_n 0, 1) := by decide +kernel
theorem dX3_tell_221 : decode cX3_tell 221 = .ok (.getfield 18, 3) := by decide +kernel
theorem dX3_tell_224 : decode cX3_tell 224 = .ok (.iload 5, 2) := by decide +kernel
theorem dX3_tell_226 : decode cX3_tell 226 = .ok (.iconst 1, 1) := by decide +kernel
theorem dX3_tell_227 : decode cX3_tell 227 = .ok (.isub, 1) := by decide +kernel
theorem dX3_tell_228 : decode cX3_tell 228 = .ok (.iaload, 1) := by decide +kernel
theorem dX3_tell_229 : decode cX3_tell 229 = .ok (.goto 4, 3) := by decide +kernel
theorem dX3_tell_232 : decode cX3_tell 232 = .ok (.iconst 0, 1) := by decide +kernel
theorem dX3_tell_233 : decode cX3_tell 233 = .ok (.istore 6, 2) := by decide +kernel
theorem dX3_tell_235 : decode cX3_tell 235 = .ok (.iconst 0, 1) := by decide +kernel
theorem dX3_tell_236 : decode cX3_tell 236 = .ok (.bipush 99, 2) := by decide +kernel
theorem dX3_tell_238 : decode cX3_tell 238 = .ok (.iload 6, 2) := by decide +kernel
theorem dX3_tell_240 : decode cX3_tell 240 = .ok (.invokestatic 33, 3) := by decide +kernel
theorem dX3_tell_243 : decode cX3_tell 243 = .ok (.invokestatic 39, 3) := by decide +kernel
theorem dX3_tell_246 : decode cX3_tell 246 = .ok (.ireturn, 1) := by decide +kernel
theorem dX3_named_0 : decode cX3_named 0 = .ok (.iload_n 0, 1) := by decide +kernel
theorem dX3_named_1 : decode cX3_named 1 = .ok (.tableswitch 83 10000 10004 #[35, 44, 53, 62, 81], 35) := by decide +kernel
theorem dX3_named_36 : decode cX3_named 36 = .ok (.aload_n 2, 1) := by decide +kernel
theorem dX3_named_37 : decode cX3_named 37 = .ok (.getfield 42, 3) := by decide +kernel
theorem dX3_named_40 : decode cX3_named 40 = .ok (.iconst 0, 1) := by decide +kernel
theorem dX3_named_41 : decode cX3_named 41 = .ok (.aaload, 1) := by decide +kernel
theorem dX3_named_42 : decode cX3_named 42 = .ok (.iload_n 1, 1) := by decide +kernel
theorem dX3_named_43 : decode cX3_named 43 = .ok (.iaload, 1) := by decide +kernel
theorem dX3_named_44 : decode cX3_named 44 = .ok (.ireturn, 1) := by decide +kernel
theorem dX3_named_45 : decode cX3_named 45 = .ok (.aload_n 2, 1) := by decide +kernel
theorem dX3_named_46 : decode cX3_named 46 = .ok (.getfield 42, 3) := by decide +kernel
theorem dX3_named_49 : decode cX3_named 49 = .ok (.iconst 1, 1) := by decide +kernel
theorem dX3_named_50 : decode cX3_named 50 = .ok (.aaload, 1) := by decide +kernel
theorem dX3_named_51 : decode cX3_named 51 = .ok (.iload_n 1, 1) := by decide +kernel
theorem dX3_named_52 : decode cX3_named 52 = .ok (.iaload, 1) := by decide +kernel
theorem dX3_named_53 : decode cX3_named 53 = .ok (.ireturn, 1) := by decide +kernel
theorem dX3_named_54 : decode cX3_named 54 = .ok (.aload_n 2, 1) := by decide +kernel
theorem dX3_named_55 : decode cX3_named 55 = .ok (.getfield 42, 3) := by decide +kernel
theorem dX3_named_58 : decode cX3_named 58 = .ok (.iconst 2, 1) := by decide +kernel
theorem dX3_named_59 : decode cX3_named 59 = .ok (.aaload, 1) := by decide +kernel
theorem dX3_named_60 : decode cX3_named 60 = .ok (.iload_n 1, 1) := by decide +kernel
theorem dX3_named_61 : decode cX3_named 61 = .ok (.iaload, 1) := by decide +kernel
theorem dX3_named_62 : decode cX3_named 62 = .ok (.ireturn, 1) := by decide +kernel
theorem dX3_named_63 : decode cX3_named 63 = .ok (.iload_n 3, 1) := by decide +kernel
theorem dX3_named_64 : decode cX3_named 64 = .ok (.iconst (-1), 1) := by decide +kernel
theorem dX3_named_65 : decode cX3_named 65 = .ok (.if_icmp .ne 7, 3) := by decide +kernel
theorem dX3_named_68 : decode cX3_named 68 = .ok (.iconst 0, 1) := by decide +kernel
theorem dX3_named_69 : decode cX3_named 69 = .ok (.goto 12, 3) := by decide +kernel
theorem dX3_named_72 : decode cX3_named 72 = .ok (.aload_n 2, 1) := by decide +kernel
theorem dX3_named_73 : decode cX3_named 73 = .ok (.getfield 42, 3) := by decide +kernel
theorem dX3_named_76 : decode cX3_named 76 = .ok (.bipush 8, 2) := by decide +kernel
theorem dX3_named_78 : decode cX3_named 78 = .ok (.aaload, 1) := by decide +kernel
theorem dX3_named_79 : decode cX3_named 79 = .ok (.iload_n 3, 1) := by decide +kernel
theorem dX3_named_80 : decode cX3_named 80 = .ok (.iaload, 1) := by decide +kernel
theorem dX3_named_81 : decode cX3_named 81 = .ok (.ireturn, 1) := by decide +kernel
theorem dX3_named_82 : decode cX3_named 82 = .ok (.iload_n 1, 1) := by decide +kernel
theorem dX3_named_83 : decode cX3_named 83 = .ok (.ireturn, 1) := by decide +kernel
theorem dX3_named_84 : decode cX3_named 84 = .ok (.iload_n 3, 1) := by decide +kernel
theorem dX3_named_85 : decode cX3_named 85 = .ok (.iconst (-1), 1) := by decide +kernel
theorem dX3_named_86 : decode cX3_named 86 = .ok (.if_icmp .ne 7, 3) := by decide +kernel
theorem dX3_named_89 : decode cX3_named 89 = .ok (.iconst 0, 1) := by decide +kernel
theorem dX3_named_90 : decode cX3_named 90 = .ok (.goto 12, 3) := by decide +kernel
theorem dX3_named_93 : decode cX3_named 93 = .ok (.aload_n 2, 1) := by decide +kernel
theorem dX3_named_94 : decode cX3_named 94 = .ok (.getfield 42, 3) := by decide +kernel
theorem dX3_named_97 : decode cX3_named 97 = .ok (.bipush 7, 2) := by decide +kernel
theorem dX3_named_99 : decode cX3_named 99 = .ok (.aaload, 1) := by decide +kernel
theorem dX3_named_100 : decode cX3_named 100 = .ok (.iload_n 3, 1) := by decide +kernel
theorem dX3_named_101 : decode cX3_named 101 = .ok (.iaload, 1) := by decide +kernel
theorem dX3_named_102 : decode cX3_named 102 = .ok (.ireturn, 1) := by decide +kernel
theorem dX3_joined_0 : decode cX3_joined 0 = .ok (.iload_n 0, 1) := by decide +kernel
theorem dX3_joined_1 : decode cX3_joined 1 = .ok (.tableswitch 117 10009 10019 #[59, 73, 117, 117, 117, 117, 109, 113, 117, 87, 98], 59) := by decide +kernel
theorem dX3_joined_60 : decode cX3_joined 60 = .ok (.iload_n 1, 1) := by decide +kernel
theorem dX3_joined_61 : decode cX3_joined 61 = .ok (.ifCond .ne 7, 3) := by decide +kernel
theorem dX3_joined_64 : decode cX3_joined 64 = .ok (.iload_n 2, 1) := by decide +kernel
theorem dX3_joined_65 : decode cX3_joined 65 = .ok (.ifCond .eq 7, 3) := by decide +kernel
theorem dX3_joined_68 : decode cX3_joined 68 = .ok (.iconst 1, 1) := by decide +kernel
theorem dX3_joined_69 : decode cX3_joined 69 = .ok (.goto 4, 3) := by decide +kernel
theorem dX3_joined_72 : decode cX3_joined 72 = .ok (.iconst 0, 1) := by decide +kernel
theorem dX3_joined_73 : decode cX3_joined 73 = .ok (.ireturn, 1) := by decide +kernel
theorem dX3_joined_74 : decode cX3_joined 74 = .ok (.iload_n 1, 1) := by decide +kernel
theorem dX3_joined_75 : decode cX3_joined 75 = .ok (.ifCond .eq 11, 3) := by decide +kernel
theorem dX3_joined_78 : decode cX3_joined 78 = .ok (.iload_n 2, 1) := by decide +kernel
theorem dX3_joined_79 : decode cX3_joined 79 = .ok (.ifCond .eq 7, 3) := by decide +kernel
theorem dX3_joined_82 : decode cX3_joined 82 = .ok (.iconst 1, 1) := by decide +kernel
theorem dX3_joined_83 : decode cX3_joined 83 = .ok (.goto 4, 3) := by decide +kernel
theorem dX3_joined_86 : decode cX3_joined 86 = .ok (.iconst 0, 1) := by decide +kernel
theorem dX3_joined_87 : decode cX3_joined 87 = .ok (.ireturn, 1) := by decide +kernel
theorem dX3_joined_88 : decode cX3_joined 88 = .ok (.iload_n 1, 1) := by decide +kernel
theorem dX3_joined_89 : decode cX3_joined 89 = .ok (.iload_n 2, 1) := by decide +kernel
theorem dX3_joined_90 : decode cX3_joined 90 = .ok (.if_icmp .ge 7, 3) := by decide +kernel
theorem dX3_joined_93 : decode cX3_joined 93 = .ok (.iconst 1, 1) := by decide +kernel
theorem dX3_joined_94 : decode cX3_joined 94 = .ok (.goto 4, 3) := by decide +kernel
theorem dX3_joined_97 : decode cX3_joined 97 = .ok (.iconst 0, 1) := by decide +kernel
theorem dX3_joined_98 : decode cX3_joined 98 = .ok (.ireturn, 1) := by decide +kernel
theorem dX3_joined_99 : decode cX3_joined 99 = .ok (.iload_n 1, 1) := by decide +kernel
theorem dX3_joined_100 : decode cX3_joined 100 = .ok (.iload_n 2, 1) := by decide +kernel
theorem dX3_joined_101 : decode cX3_joined 101 = .ok (.if_icmp .ne 7, 3) := by decide +kernel
theorem dX3_joined_104 : decode cX3_joined 104 = .ok (.iconst 1, 1) := by decide +kernel
theorem dX3_joined_105 : decode cX3_joined 105 = .ok (.goto 4, 3) := by decide +kernel
theorem dX3_joined_108 : decode cX3_joined 108 = .ok (.iconst 0, 1) := by decide +kernel
theorem dX3_joined_109 : decode cX3_joined 109 = .ok (.ireturn, 1) := by decide +kernel
theorem dX3_joined_110 : decode cX3_joined 110 = .ok (.iload_n 1, 1) := by decide +kernel
theorem dX3_joined_111 : decode cX3_joined 111 = .ok (.iload_n 2, 1) := by decide +kernel
theorem dX3_joined_112 : decode cX3_joined 112 = .ok (.iadd, 1) := by decide +kernel
theorem dX3_joined_113 : decode cX3_joined 113 = .ok (.ireturn, 1) := by decide +kernel
theorem dX3_joined_114 : decode cX3_joined 114 = .ok (.iload_n 1, 1) := by decide +kernel
theorem dX3_joined_115 : decode cX3_joined 115 = .ok (.iload_n 2, 1) := by decide +kernel
theorem dX3_joined_116 : decode cX3_joined 116 = .ok (.isub, 1) := by decide +kernel
theorem dX3_joined_117 : decode cX3_joined 117 = .ok (.ireturn, 1) := by decide +kernel
theorem dX3_joined_118 : decode cX3_joined 118 = .ok (.iload_n 1, 1) := by decide +kernel
theorem dX3_joined_119 : decode cX3_joined 119 = .ok (.iload_n 2, 1) := by decide +kernel
theorem dX3_joined_120 : decode cX3_joined 120 = .ok (.imul, 1) := by decide +kernel
theorem dX3_joined_121 : decode cX3_joined 121 = .ok (.ireturn, 1) := by decide +kernel
theorem dX4_init_0 : decode cX4_init 0 = .ok (.aload_n 0, 1) := by decide +kernel
theorem dX4_init_1 : decode cX4_init 1 = .ok (.invokespecial 3, 3) := by decide +kernel
theorem dX4_init_4 : decode cX4_init 4 = .ok (.aload_n 0, 1) := by decide +kernel
theorem dX4_init_5 : decode cX4_init 5 = .ok (.bipush 8, 2) := by decide +kernel
theorem dX4_init_7 : decode cX4_init 7 = .ok (.iconst 4, 1) := by decide +kernel
theorem dX4_init_8 : decode cX4_init 8 = .ok (.multianewarray 9 2, 4) := by decide +kernel
theorem dX4_init_12 : decode cX4_init 12 = .ok (.putfield 11, 3) := by decide +kernel
theorem dX4_init_15 : decode cX4_init 15 = .ok (.aload_n 0, 1) := by decide +kernel
theorem dX4_init_16 : decode cX4_init 16 = .ok (.bipush 8, 2) := by decide +kernel
theorem dX4_init_18 : decode cX4_init 18 = .ok (.newarray .int, 2) := by decide +kernel
theorem dX4_init_20 : decode cX4_init 20 = .ok (.putfield 16, 3) := by decide +kernel
theorem dX4_init_23 : decode cX4_init 23 = .ok (.aload_n 0, 1) := by decide +kernel
theorem dX4_init_24 : decode cX4_init 24 = .ok (.bipush 8, 2) := by decide +kernel
theorem dX4_init_26 : decode cX4_init 26 = .ok (.newarray .int, 2) := by decide +kernel
theorem dX4_init_28 : decode cX4_init 28 = .ok (.putfield 20, 3) := by decide +kernel
theorem dX4_init_31 : decode cX4_init 31 = .ok (.aload_n 0, 1) := by decide +kernel
theorem dX4_init_32 : decode cX4_init 32 = .ok (.aload_n 1, 1) := by decide +kernel
theorem dX4_init_33 : decode cX4_init 33 = .ok (.putfield 23, 3) := by decide +kernel
theorem dX4_init_36 : decode cX4_init 36 = .ok (.aload_n 0, 1) := by decide +kernel
theorem dX4_init_37 : decode cX4_init 37 = .ok (.aload_n 2, 1) := by decide +kernel
theorem dX4_init_38 : decode cX4_init 38 = .ok (.putfield 27, 3) := by decide +kernel
theorem dX4_init_41 : decode cX4_init 41 = .ok (.return_, 1) := by decide +kernel
theorem dX4_begin_0 : decode cX4_begin 0 = .ok (.aload_n 0, 1) := by decide +kernel
theorem dX4_begin_1 : decode cX4_begin 1 = .ok (.getfield 27, 3) := by decide +kernel
theorem dX4_begin_4 : decode cX4_begin 4 = .ok (.aload_n 0, 1) := by decide +kernel
theorem dX4_begin_5 : decode cX4_begin 5 = .ok (.getfield 23, 3) := by decide +kernel
theorem dX4_begin_8 : decode cX4_begin 8 = .ok (.invokevirtual 30, 3) := by decide +kernel
theorem dX4_begin_11 : decode cX4_begin 11 = .ok (.return_, 1) := by decide +kernel
theorem dX4_walkAsNow_0 : decode cX4_walkAsNow 0 = .ok (.aload_n 0, 1) := by decide +kernel
theorem dX4_walkAsNow_1 : decode cX4_walkAsNow 1 = .ok (.invokevirtual 36, 3) := by decide +kernel
theorem dX4_walkAsNow_4 : decode cX4_walkAsNow 4 = .ok (.aload_n 0, 1) := by decide +kernel
theorem dX4_walkAsNow_5 : decode cX4_walkAsNow 5 = .ok (.iconst 0, 1) := by decide +kernel
theorem dX4_walkAsNow_6 : decode cX4_walkAsNow 6 = .ok (.invokevirtual 39, 3) := by decide +kernel
theorem dX4_walkAsNow_9 : decode cX4_walkAsNow 9 = .ok (.return_, 1) := by decide +kernel
theorem dX4_walk_0 : decode cX4_walk 0 = .ok (.iconst 0, 1) := by decide +kernel
theorem dX4_walk_1 : decode cX4_walk 1 = .ok (.istore_n 2, 1) := by decide +kernel
theorem dX4_walk_2 : decode cX4_walk 2 = .ok (.iload_n 2, 1) := by decide +kernel
theorem dX4_walk_3 : decode cX4_walk 3 = .ok (.iconst 4, 1) := by decide +kernel
theorem dX4_walk_4 : decode cX4_walk 4 = .ok (.if_icmp .ge 87, 3) := by decide +kernel
theorem dX4_walk_7 : decode cX4_walk 7 = .ok (.aload_n 0, 1) := by decide +kernel
theorem dX4_walk_8 : decode cX4_walk 8 = .ok (.getfield 27, 3) := by decide +kernel
theorem dX4_walk_11 : decode cX4_walk 11 = .ok (.getfield 43, 3) := by decide +kernel
theorem dX4_walk_14 : decode cX4_walk 14 = .ok (.iconst 0, 1) := by decide +kernel
theorem dX4_walk_15 : decode cX4_walk 15 = .ok (.aaload, 1) := by decide +kernel
theorem dX4_walk_16 : decode cX4_walk 16 = .ok (.iload_n 2, 1) := by decide +kernel
theorem dX4_walk_17 : decode cX4_walk 17 = .ok (.iload_n 1, 1) := by decide +kernel
theorem dX4_walk_18 : decode cX4_walk 18 = .ok (.ifCond .le 16, 3) := by decide +kernel
theorem dX4_walk_21 : decode cX4_walk 21 = .ok (.aload_n 0, 1) := by decide +kernel
theorem dX4_walk_22 : decode cX4_walk 22 = .ok (.getfield 11, 3) := by decide +kernel
theorem dX4_walk_25 : decode cX4_walk 25 = .ok (.iload_n 1, 1) := by decide +kernel
theorem dX4_walk_26 : decode cX4_walk 26 = .ok (.iconst 1, 1) := by decide +kernel
theorem dX4_walk_27 : decode cX4_walk 27 = .ok (.isub, 1) := by decide +kernel
theorem dX4_walk_28 : decode cX4_walk 28 = .ok (.aaload, 1) := by decide +kernel
theorem dX4_walk_29 : decode cX4_walk 29 = .ok (.iload_n 2, 1) := by decide +kernel
theorem dX4_walk_30 : decode cX4_walk 30 = .ok (.iaload, 1) := by decide +kernel
theorem dX4_walk_31 : decode cX4_walk 31 = .ok (.goto 14, 3) := by decide +kernel
theorem dX4_walk_34 : decode cX4_walk 34 = .ok (.aload_n 0, 1) := by decide +kernel
theorem dX4_walk_35 : decode cX4_walk 35 = .ok (.getfield 23, 3) := by decide +kernel
theorem dX4_walk_38 : decode cX4_walk 38 = .ok (.getfield 43, 3) := by decide +kernel
theorem dX4_walk_41 : decode cX4_walk 41 = .ok (.iconst 0, 1) := by decide +kernel
theorem dX4_walk_42 : decode cX4_walk 42 = .ok (.aaload, 1) := by decide +kernel
theorem dX4_walk_43 : decode cX4_walk 43 = .ok (.iload_n 2, 1) := by decide +kernel
theorem dX4_walk_44 : decode cX4_walk 44 = .ok (.iaload, 1) := by decide +kernel
theorem dX4_walk_45 : decode cX4_walk 45 = .ok (.iastore, 1) := by decide +kernel
theorem dX4_walk_46 : decode cX4_walk 46 = .ok (.aload_n 0, 1) := by decide +kernel
theorem dX4_walk_47 : decode cX4_walk 47 = .ok (.getfield 27, 3) := by decide +kernel
theorem dX4_walk_50 : decode cX4_walk 50 = .ok (.getfield 43, 3) := by decide +kernel
theorem dX4_walk_53 : decode cX4_walk 53 = .ok (.iconst 1, 1) := by decide +kernel
theorem dX4_walk_54 : decode cX4_walk 54 = .ok (.aaload, 1) := by decide +kernel
theorem dX4_walk_55 : decode cX4_walk 55 = .ok (.iload_n 2, 1) := by decide +kernel
theorem dX4_walk_56 : decode cX4_walk 56 = .ok (.iload_n 1, 1) := by decide +kernel
theorem dX4_walk_57 : decode cX4_walk 57 = .ok (.ifCond .le 16, 3) := by decide +kernel
theorem dX4_walk_60 : decode cX4_walk 60 = .ok (.aload_n 0, 1) := by decide +kernel
theorem dX4_walk_61 : decode cX4_walk 61 = .ok (.getfield 11, 3) := by decide +kernel
theorem dX4_walk_64 : decode cX4_walk 64 = .ok (.iload_n 1, 1) := by decide +kernel
theorem dX4_walk_65 : decode cX4_walk 65 = .ok (.iconst 1, 1) := by decide +kernel
theorem dX4_walk_66 : decode cX4_walk 66 = .ok (.isub, 1) := by decide +kernel
theorem dX4_walk_67 : decode cX4_walk 67 = .ok (.aaload, 1) := by decide +kernel
theorem dX4_walk_68 : decode cX4_walk 68 = .ok (.iload_n 2, 1) := by decide +kernel
theorem dX4_walk_69 : decode cX4_walk 69 = .ok (.iaload, 1) := by decide +kernel
theorem dX4_walk_70 : decode cX4_walk 70 = .ok (.goto 14, 3) := by decide +kernel
theorem dX4_walk_73 : decode cX4_walk 73 = .ok (.aload_n 0, 1) := by decide +kernel
theorem dX4_walk_74 : decode cX4_walk 74 = .ok (.getfield 23, 3) := by decide +kernel
theorem dX4_walk_77 : decode cX4_walk 77 = .ok (.getfield 43, 3) := by decide +kernel
theorem dX4_walk_80 : decode cX4_walk 80 = .ok (.iconst 1, 1) := by decide +kernel
theorem dX4_walk_81 : decode cX4_walk 81 = .ok (.aaload, 1) := by decide +kernel
theorem dX4_walk_82 : decode cX4_walk 82 = .ok (.iload_n 2, 1) := by decide +kernel
theorem dX4_walk_83 : decode cX4_walk 83 = .ok (.iaload, 1) := by decide +kernel
theorem dX4_walk_84 : decode cX4_walk 84 = .ok (.iastore, 1) := by decide +kernel
theorem dX4_walk_85 : decode cX4_walk 85 = .ok (.iinc 2 1, 3) := by decide +kernel
theorem dX4_walk_88 : decode cX4_walk 88 = .ok (.goto (-86), 3) := by decide +kernel
theorem dX4_walk_91 : decode cX4_walk 91 = .ok (.iload_n 1, 1) := by decide +kernel
theorem dX4_walk_92 : decode cX4_walk 92 = .ok (.istore_n 2, 1) := by decide +kernel
theorem dX4_walk_93 : decode cX4_walk 93 = .ok (.iload_n 2, 1) := by decide +kernel
theorem dX4_walk_94 : decode cX4_walk 94 = .ok (.aload_n 0, 1) := by decide +kernel
theorem dX4_walk_95 : decode cX4_walk 95 = .ok (.getfield 27, 3) := by decide +kernel
theorem dX4_walk_98 : decode cX4_walk 98 = .ok (.getfield 46, 3) := by decide +kernel
theorem dX4_walk_101 : decode cX4_walk 101 = .ok (.if_icmp .ge 57, 3) := by decide +kernel
theorem dX4_walk_104 : decode cX4_walk 104 = .ok (.aload_n 0, 1) := by decide +kernel
theorem dX4_walk_105 : decode cX4_walk 105 = .ok (.getfield 20, 3) := by decide +kernel
theorem dX4_walk_108 : decode cX4_walk 108 = .ok (.iload_n 2, 1) := by decide +kernel
theorem dX4_walk_109 : decode cX4_walk 109 = .ok (.aload_n 0, 1) := by decide +kernel
theorem dX4_walk_110 : decode cX4_walk 110 = .ok (.getfield 27, 3) := by decide +kernel
theorem dX4_walk_113 : decode cX4_walk 113 = .ok (.iload_n 2, 1) := by decide +kernel
theorem dX4_walk_114 : decode cX4_walk 114 = .ok (.invokevirtual 50, 3) := by decide +kernel
theorem dX4_walk_117 : decode cX4_walk 117 = .ok (.iastore, 1) := by decide +kernel
theorem dX4_walk_118 : decode cX4_walk 118 = .ok (.aload_n 0, 1) := by decide +kernel
theorem dX4_walk_119 : decode cX4_walk 119 = .ok (.getfield 16, 3) := by decide +kernel
theorem dX4_walk_122 : decode cX4_walk 122 = .ok (.iload_n 2, 1) := by decide +kernel
theorem dX4_walk_123 : decode cX4_walk 123 = .ok (.aload_n 0, 1) := by decide +kernel
theorem dX4_walk_124 : decode cX4_walk 124 = .ok (.getfield 27, 3) := by decide +kernel
theorem dX4_walk_127 : decode cX4_walk 127 = .ok (.invokevirtual 54, 3) := by decide +kernel
theorem dX4_walk_130 : decode cX4_walk 130 = .ok (.iastore, 1) := by decide +kernel
theorem dX4_walk_131 : decode cX4_walk 131 = .ok (.aload_n 0, 1) := by decide +kernel
theorem dX4_walk_132 : decode cX4_walk 132 = .ok (.getfield 27, 3) := by decide +kernel
theorem dX4_walk_135 : decode cX4_walk 135 = .ok (.getfield 43, 3) := by decide +kernel
theorem dX4_walk_138 : decode cX4_walk 138 = .ok (.iconst 0, 1) := by decide +kernel
theorem dX4_walk_139 : decode cX4_walk 139 = .ok (.aaload, 1) := by decide +kernel
theorem dX4_walk_140 : decode cX4_walk 140 = .ok (.iconst 0, 1) := by decide +kernel
theorem dX4_walk_141 : decode cX4_walk 141 = .ok (.aload_n 0, 1) := by decide +kernel
theorem dX4_walk_142 : decode cX4_walk 142 = .ok (.getfield 11, 3) := by decide +kernel
theorem dX4_walk_145 : decode cX4_walk 145 = .ok (.iload_n 2, 1) := by decide +kernel
theorem dX4_walk_146 : decode cX4_walk 146 = .ok (.aaload, 1) := by decide +kernel
theorem dX4_walk_147 : decode cX4_walk 147 = .ok (.iconst 0, 1) := by decide +kernel
theorem dX4_walk_148 : decode cX4_walk 148 = .ok (.iconst 4, 1) := by decide +kernel
theorem dX4_walk_149 : decode cX4_walk 149 = .ok (.invokestatic 57, 3) := by decide +kernel
theorem dX4_walk_152 : decode cX4_walk 152 = .ok (.iinc 2 1, 3) := by decide +kernel
theorem dX4_walk_155 : decode cX4_walk 155 = .ok (.goto (-62), 3) := by decide +kernel
theorem dX4_walk_158 : decode cX4_walk 158 = .ok (.return_, 1) := by decide +kernel
theorem dX4_badness_0 : decode cX4_badness 0 = .ok (.iconst 0, 1) := by decide +kernel
theorem dX4_badness_1 : decode cX4_badness 1 = .ok (.istore_n 1, 1) := by decide +kernel
theorem dX4_badness_2 : decode cX4_badness 2 = .ok (.iconst 0, 1) := by decide +kernel
theorem dX4_badness_3 : decode cX4_badness 3 = .ok (.istore_n 2, 1) := by decide +kernel
theorem dX4_badness_4 : decode cX4_badness 4 = .ok (.iload_n 2, 1) := by decide +kernel
theorem dX4_badness_5 : decode cX4_badness 5 = .ok (.aload_n 0, 1) := by decide +kernel
theorem dX4_badness_6 : decode cX4_badness 6 = .ok (.getfield 27, 3) := by decide +kernel
theorem dX4_badness_9 : decode cX4_badness 9 = .ok (.getfield 46, 3) := by decide +kernel
theorem dX4_badness_12 : decode cX4_badness 12 = .ok (.if_icmp .ge 18, 3) := by decide +kernel
theorem dX4_badness_15 : decode cX4_badness 15 = .ok (.iload_n 1, 1) := by decide +kernel
theorem dX4_badness_16 : decode cX4_badness 16 = .ok (.aload_n 0, 1) := by decide +kernel
theorem dX4_badness_17 : decode cX4_badness 17 = .ok (.getfield 16, 3) := by decide +kernel
theorem dX4_badness_20 : decode cX4_badness 20 = .ok (.iload_n 2, 1) := by decide +kernel
theorem dX4_badness_21 : decode cX4_badness 21 = .ok (.iaload, 1) := by decide +kernel
theorem dX4_badness_22 : decode cX4_badness 22 = .ok (.iadd, 1) := by decide +kernel
theorem dX4_badness_23 : decode cX4_badness 23 = .ok (.istore_n 1, 1) := by decide +kernel
theorem dX4_badness_24 : decode cX4_badness 24 = .ok (.iinc 2 1, 3) := by decide +kernel
theorem dX4_badness_27 : decode cX4_badness 27 = .ok (.goto (-23), 3) := by decide +kernel
theorem dX4_badness_30 : decode cX4_badness 30 = .ok (.iload_n 1, 1) := by decide +kernel
theorem dX4_badness_31 : decode cX4_badness 31 = .ok (.ireturn, 1) := by decide +kernel
theorem dX4_allCuts_0 : decode cX4_allCuts 0 = .ok (.iconst 0, 1) := by decide +kernel
theorem dX4_allCuts_1 : decode cX4_allCuts 1 = .ok (.istore_n 1, 1) := by decide +kernel
theorem dX4_allCuts_2 : decode cX4_allCuts 2 = .ok (.iconst 0, 1) := by decide +kernel
theorem dX4_allCuts_3 : decode cX4_allCuts 3 = .ok (.istore_n 2, 1) := by decide +kernel
theorem dX4_allCuts_4 : decode cX4_allCuts 4 = .ok (.iload_n 2, 1) := by decide +kernel
theorem dX4_allCuts_5 : decode cX4_allCuts 5 = .ok (.aload_n 0, 1) := by decide +kernel
theorem dX4_allCuts_6 : decode cX4_allCuts 6 = .ok (.getfield 27, 3) := by decide +kernel
theorem dX4_allCuts_9 : decode cX4_allCuts 9 = .ok (.getfield 46, 3) := by decide +kernel
theorem dX4_allCuts_12 : decode cX4_allCuts 12 = .ok (.if_icmp .ge 18, 3) := by decide +kernel
theorem dX4_allCuts_15 : decode cX4_allCuts 15 = .ok (.iload_n 1, 1) := by decide +kernel
theorem dX4_allCuts_16 : decode cX4_allCuts 16 = .ok (.aload_n 0, 1) := by decide +kernel
theorem dX4_allCuts_17 : decode cX4_allCuts 17 = .ok (.getfield 20, 3) := by decide +kernel
theorem dX4_allCuts_20 : decode cX4_allCuts 20 = .ok (.iload_n 2, 1) := by decide +kernel
theorem dX4_allCuts_21 : decode cX4_allCuts 21 = .ok (.iaload, 1) := by decide +kernel
theorem dX4_allCuts_22 : decode cX4_allCuts 22 = .ok (.iadd, 1) := by decide +kernel
theorem dX4_allCuts_23 : decode cX4_allCuts 23 = .ok (.istore_n 1, 1) := by decide +kernel
theorem dX4_allCuts_24 : decode cX4_allCuts 24 = .ok (.iinc 2 1, 3) := by decide +kernel
theorem dX4_allCuts_27 : decode cX4_allCuts 27 = .ok (.goto (-23), 3) := by decide +kernel
theorem dX4_allCuts_30 : decode cX4_allCuts 30 = .ok (.iload_n 1, 1) := by decide +kernel
theorem dX4_allCuts_31 : decode cX4_allCuts 31 = .ok (.ireturn, 1) := by decide +kernel
theorem dX4_worst_0 : decode cX4_worst 0 = .ok (.iconst (-1), 1) := by decide +kernel
theorem dX4_worst_1 : decode cX4_worst 1 = .ok (.istore_n 1, 1) := by decide +kernel
theorem dX4_worst_2 : decode cX4_worst 2 = .ok (.iconst 0, 1) := by decide +kernel
theorem dX4_worst_3 : decode cX4_worst 3 = .ok (.istore_n 2, 1) := by decide +kernel
theorem dX4_worst_4 : decode cX4_worst 4 = .ok (.iload_n 2, 1) := by decide +kernel
theorem dX4_worst_5 : decode cX4_worst 5 = .ok (.aload_n 0, 1) := by decide +kernel
theorem dX4_worst_6 : decode cX4_worst 6 = .ok (.getfield 27, 3) := by decide +kernel
theorem dX4_worst_9 : decode cX4_worst 9 = .ok (.getfield 46, 3) := by decide +kernel
theorem dX4_worst_12 : decode cX4_worst 12 = .ok (.if_icmp .ge 31, 3) := by decide +kernel
theorem dX4_worst_15 : decode cX4_worst 15 = .ok (.iload_n 1, 1) := by decide +kernel
theorem dX4_worst_16 : decode cX4_worst 16 = .ok (.iconst (-1), 1) := by decide +kernel
theorem dX4_worst_17 : decode cX4_worst 17 = .ok (.if_icmp .eq 18, 3) := by decide +kernel
theorem dX4_worst_20 : decode cX4_worst 20 = .ok (.aload_n 0, 1) := by decide +kernel
theorem dX4_worst_21 : decode cX4_worst 21 = .ok (.getfield 16, 3) := by decide +kernel
theorem dX4_worst_24 : decode cX4_worst 24 = .ok (.iload_n 2, 1) := by decide +kernel
theorem dX4_worst_25 : decode cX4_worst 25 = .ok (.iaload, 1) := by decide +kernel
theorem dX4_worst_26 : decode cX4_worst 26 = .ok (.aload_n 0, 1) := by decide +kernel
theorem dX4_worst_27 : decode cX4_worst 27 = .ok (.getfield 16, 3) := by decide +kernel
theorem dX4_worst_30 : decode cX4_worst 30 = .ok (.iload_n 1, 1) := by decide +kernel
theorem dX4_worst_31 : decode cX4_worst 31 = .ok (.iaload, 1) := by decide +kernel
theorem dX4_worst_32 : decode cX4_worst 32 = .ok (.if_icmp .le 5, 3) := by decide +kernel
theorem dX4_worst_35 : decode cX4_worst 35 = .ok (.iload_n 2, 1) := by decide +kernel
theorem dX4_worst_36 : decode cX4_worst 36 = .ok (.istore_n 1, 1) := by decide +kernel
theorem dX4_worst_37 : decode cX4_worst 37 = .ok (.iinc 2 1, 3) := by decide +kernel
theorem dX4_worst_40 : decode cX4_worst 40 = .ok (.goto (-36), 3) := by decide +kernel
theorem dX4_worst_43 : decode cX4_worst 43 = .ok (.iload_n 1, 1) := by decide +kernel
theorem dX4_worst_44 : decode cX4_worst 44 = .ok (.ireturn, 1) := by decide +kernel
theorem dX4_isNear_0 : decode cX4_isNear 0 = .ok (.iconst 0, 1) := by decide +kernel
theorem dX4_isNear_1 : decode cX4_isNear 1 = .ok (.istore_n 3, 1) := by decide +kernel
theorem dX4_isNear_2 : decode cX4_isNear 2 = .ok (.iload_n 3, 1) := by decide +kernel
theorem dX4_isNear_3 : decode cX4_isNear 3 = .ok (.iconst 4, 1) := by decide +kernel
theorem dX4_isNear_4 : decode cX4_isNear 4 = .ok (.if_icmp .ge 38, 3) := by decide +kernel
theorem dX4_isNear_7 : decode cX4_isNear 7 = .ok (.aload_n 0, 1) := by decide +kernel
theorem dX4_isNear_8 : decode cX4_isNear 8 = .ok (.getfield 11, 3) := by decide +kernel
theorem dX4_isNear_11 : decode cX4_isNear 11 = .ok (.iload_n 1, 1) := by decide +kernel
theorem dX4_isNear_12 : decode cX4_isNear 12 = .ok (.aaload, 1) := by decide +kernel
theorem dX4_isNear_13 : decode cX4_isNear 13 = .ok (.iload_n 3, 1) := by decide +kernel
theorem dX4_isNear_14 : decode cX4_isNear 14 = .ok (.iaload, 1) := by decide +kernel
theorem dX4_isNear_15 : decode cX4_isNear 15 = .ok (.aload_n 0, 1) := by decide +kernel
theorem dX4_isNear_16 : decode cX4_isNear 16 = .ok (.getfield 27, 3) := by decide +kernel
theorem dX4_isNear_19 : decode cX4_isNear 19 = .ok (.getfield 43, 3) := by decide +kernel
theorem dX4_isNear_22 : decode cX4_isNear 22 = .ok (.iconst 2, 1) := by decide +kernel
theorem dX4_isNear_23 : decode cX4_isNear 23 = .ok (.aaload, 1) := by decide +kernel
theorem dX4_isNear_24 : decode cX4_isNear 24 = .ok (.iload_n 3, 1) := by decide +kernel
theorem dX4_isNear_25 : decode cX4_isNear 25 = .ok (.iaload, 1) := by decide +kernel
theorem dX4_isNear_26 : decode cX4_isNear 26 = .ok (.isub, 1) := by decide +kernel
theorem dX4_isNear_27 : decode cX4_isNear 27 = .ok (.invokestatic 63, 3) := by decide +kernel
theorem dX4_isNear_30 : decode cX4_isNear 30 = .ok (.iload_n 2, 1) := by decide +kernel
theorem dX4_isNear_31 : decode cX4_isNear 31 = .ok (.if_icmp .le 5, 3) := by decide +kernel
theorem dX4_isNear_34 : decode cX4_isNear 34 = .ok (.iconst 0, 1) := by decide +kernel
theorem dX4_isNear_35 : decode cX4_isNear 35 = .ok (.ireturn, 1) := by decide +kernel
theorem dX4_isNear_36 : decode cX4_isNear 36 = .ok (.iinc 3 1, 3) := by decide +kernel
theorem dX4_isNear_39 : decode cX4_isNear 39 = .ok (.goto (-37), 3) := by decide +kernel
theorem dX4_isNear_42 : decode cX4_isNear 42 = .ok (.iconst 1, 1) := by decide +kernel
theorem dX4_isNear_43 : decode cX4_isNear 43 = .ok (.ireturn, 1) := by decide +kernel
theorem dX4_firstOtherwise_0 : decode cX4_firstOtherwise 0 = .ok (.iconst 0, 1) := by decide +kernel
theorem dX4_firstOtherwise_1 : decode cX4_firstOtherwise 1 = .ok (.istore_n 3, 1) := by decide +kernel
theorem dX4_firstOtherwise_2 : decode cX4_firstOtherwise 2 = .ok (.iload_n 3, 1) := by decide +kernel
theorem dX4_firstOtherwise_3 : decode cX4_firstOtherwise 3 = .ok (.aload_n 1, 1) := by decide +kernel
theorem dX4_firstOtherwise_4 : decode cX4_firstOtherwise 4 = .ok (.getfield 68, 3) := by decide +kernel
theorem dX4_firstOtherwise_7 : decode cX4_firstOtherwise 7 = .ok (.if_icmp .ge 34, 3) := by decide +kernel
theorem dX4_firstOtherwise_10 : decode cX4_firstOtherwise 10 = .ok (.iload_n 3, 1) := by decide +kernel
theorem dX4_firstOtherwise_11 : decode cX4_firstOtherwise 11 = .ok (.bipush 8, 2) := by decide +kernel
theorem dX4_firstOtherwise_13 : decode cX4_firstOtherwise 13 = .ok (.if_icmp .ge 28, 3) := by decide +kernel
theorem dX4_firstOtherwise_16 : decode cX4_firstOtherwise 16 = .ok (.aload_n 1, 1) := by decide +kernel
theorem dX4_firstOtherwise_17 : decode cX4_firstOtherwise 17 = .ok (.getfield 73, 3) := by decide +kernel
theorem dX4_firstOtherwise_20 : decode cX4_firstOtherwise 20 = .ok (.iload_n 3, 1) := by decide +kernel
theorem dX4_firstOtherwise_21 : decode cX4_firstOtherwise 21 = .ok (.iaload, 1) := by decide +kernel
theorem dX4_firstOtherwise_22 : decode cX4_firstOtherwise 22 = .ok (.aload_n 0, 1) := by decide +kernel
theorem dX4_firstOtherwise_23 : decode cX4_firstOtherwise 23 = .ok (.getfield 11, 3) := by decide +kernel
theorem dX4_firstOtherwise_26 : decode cX4_firstOtherwise 26 = .ok (.iload_n 3, 1) := by decide +kernel
theorem dX4_firstOtherwise_27 : decode cX4_firstOtherwise 27 = .ok (.aaload, 1) := by decide +kernel
theorem dX4_firstOtherwise_28 : decode cX4_firstOtherwise 28 = .ok (.iload_n 2, 1) := by decide +kernel
theorem dX4_firstOtherwise_29 : decode cX4_firstOtherwise 29 = .ok (.iaload, 1) := by decide +kernel
theorem dX4_firstOtherwise_30 : decode cX4_firstOtherwise 30 = .ok (.if_icmp .eq 5, 3) := by decide +kernel
theorem dX4_firstOtherwise_33 : decode cX4_firstOtherwise 33 = .ok (.iload_n 3, 1) := by decide +kernel
theorem dX4_firstOtherwise_34 : decode cX4_firstOtherwise 34 = .ok (.ireturn, 1) := by decide +kernel
theorem dX4_firstOtherwise_35 : decode cX4_firstOtherwise 35 = .ok (.iinc 3 1, 3) := by decide +kernel
theorem dX4_firstOtherwise_38 : decode cX4_firstOtherwise 38 = .ok (.goto (-36), 3) := by decide +kernel
theorem dX4_firstOtherwise_41 : decode cX4_firstOtherwise 41 = .ok (.iconst (-1), 1) := by decide +kernel
theorem dX4_firstOtherwise_42 : decode cX4_firstOtherwise 42 = .ok (.ireturn, 1) := by decide +kernel
theorem dX5_init_0 : decode cX5_init 0 = .ok (.aload_n 0, 1) := by decide +kernel
theorem dX5_init_1 : decode cX5_init 1 = .ok (.invokespecial 1, 3) := by decide +kernel
theorem dX5_init_4 : decode cX5_init 4 = .ok (.aload_n 0, 1) := by decide +kernel
theorem dX5_init_5 : decode cX5_init 5 = .ok (.bipush 6, 2) := by decide +kernel
theorem dX5_init_7 : decode cX5_init 7 = .ok (.anewarray 9, 3) := by decide +kernel
theorem dX5_init_10 : decode cX5_init 10 = .ok (.putfield 11, 3) := by decide +kernel
theorem dX5_init_13 : decode cX5_init 13 = .ok (.aload_n 0, 1) := by decide +kernel
theorem dX5_init_14 : decode cX5_init 14 = .ok (.iconst 1, 1) := by decide +kernel
theorem dX5_init_15 : decode cX5_init 15 = .ok (.putfield 15, 3) := by decide +kernel
theorem dX5_init_18 : decode cX5_init 18 = .ok (.aload_n 0, 1) := by decide +kernel
theorem dX5_init_19 : decode cX5_init 19 = .ok (.new 19, 3) := by decide +kernel
theorem dX5_init_22 : decode cX5_init 22 = .ok (.dup, 1) := by decide +kernel
theorem dX5_init_23 : decode cX5_init 23 = .ok (.invokespecial 21, 3) := by decide +kernel
theorem dX5_init_26 : decode cX5_init 26 = .ok (.putfield 22, 3) := by decide +kernel
theorem dX5_init_29 : decode cX5_init 29 = .ok (.aload_n 0, 1) := by decide +kernel
theorem dX5_init_30 : decode cX5_init 30 = .ok (.iconst 0, 1) := by decide +kernel
theorem dX5_init_31 : decode cX5_init 31 = .ok (.putfield 26, 3) := by decide +kernel
theorem dX5_init_34 : decode cX5_init 34 = .ok (.aload_n 0, 1) := by decide +kernel
theorem dX5_init_35 : decode cX5_init 35 = .ok (.iconst 4, 1) := by decide +kernel
theorem dX5_init_36 : decode cX5_init 36 = .ok (.anewarray 30, 3) := by decide +kernel
theorem dX5_init_39 : decode cX5_init 39 = .ok (.putfield 32, 3) := by decide +kernel
theorem dX5_init_42 : decode cX5_init 42 = .ok (.iconst 0, 1) := by decide +kernel
theorem dX5_init_43 : decode cX5_init 43 = .ok (.istore_n 1, 1) := by decide +kernel
theorem dX5_init_44 : decode cX5_init 44 = .ok (.iload_n 1, 1) := by decide +kernel
theorem dX5_init_45 : decode cX5_init 45 = .ok (.bipush 6, 2) := by decide +kernel
theorem dX5_init_47 : decode cX5_init 47 = .ok (.if_icmp .ge 22, 3) := by decide +kernel
theorem dX5_init_50 : decode cX5_init 50 = .ok (.aload_n 0, 1) := by decide +kernel
theorem dX5_init_51 : decode cX5_init 51 = .ok (.getfield 11, 3) := by decide +kernel
theorem dX5_init_54 : decode cX5_init 54 = .ok (.iload_n 1, 1) := by decide +kernel
theorem dX5_init_55 : decode cX5_init 55 = .ok (.new 9, 3) := by decide +kernel
theorem dX5_init_58 : decode cX5_init 58 = .ok (.dup, 1) := by decide +kernel
theorem dX5_init_59 : decode cX5_init 59 = .ok (.invokespecial 36, 3) := by decide +kernel
theorem dX5_init_62 : decode cX5_init 62 = .ok (.aastore, 1) := by decide +kernel
theorem dX5_init_63 : decode cX5_init 63 = .ok (.iinc 1 1, 3) := by decide +kernel
theorem dX5_init_66 : decode cX5_init 66 = .ok (.goto (-22), 3) := by decide +kernel
theorem dX5_init_69 : decode cX5_init 69 = .ok (.iconst 0, 1) := by decide +kernel
theorem dX5_init_70 : decode cX5_init 70 = .ok (.istore_n 1, 1) := by decide +kernel
theorem dX5_init_71 : decode cX5_init 71 = .ok (.iload_n 1, 1) := by decide +kernel
theorem dX5_init_72 : decode cX5_init 72 = .ok (.iconst 4, 1) := by decide +kernel
theorem dX5_init_73 : decode cX5_init 73 = .ok (.if_icmp .ge 22, 3) := by decide +kernel
theorem dX5_init_76 : decode cX5_init 76 = .ok (.aload_n 0, 1) := by decide +kernel
theorem dX5_init_77 : decode cX5_init 77 = .ok (.getfield 32, 3) := by decide +kernel
theorem dX5_init_80 : decode cX5_init 80 = .ok (.iload_n 1, 1) := by decide +kernel
theorem dX5_init_81 : decode cX5_init 81 = .ok (.new 30, 3) := by decide +kernel
theorem dX5_init_84 : decode cX5_init 84 = .ok (.dup, 1) := by decide +kernel
theorem dX5_init_85 : decode cX5_init 85 = .ok (.invokespecial 37, 3) := by decide +kernel
theorem dX5_init_88 : decode cX5_init 88 = .ok (.aastore, 1) := by decide +kernel
theorem dX5_init_89 : decode cX5_init 89 = .ok (.iinc 1 1, 3) := by decide +kernel
theorem dX5_init_92 : decode cX5_init 92 = .ok (.goto (-21), 3) := by decide +kernel
theorem dX5_init_95 : decode cX5_init 95 = .ok (.iconst 0, 1) := by decide +kernel
theorem dX5_init_96 : decode cX5_init 96 = .ok (.istore_n 1, 1) := by decide +kernel
theorem dX5_init_97 : decode cX5_init 97 = .ok (.iload_n 1, 1) := by decide +kernel
theorem dX5_init_98 : decode cX5_init 98 = .ok (.ldc 38, 2) := by decide +kernel
theorem dX5_init_100 : decode cX5_init 100 = .ok (.invokevirtual 40, 3) := by decide +kernel
theorem dX5_init_103 : decode cX5_init 103 = .ok (.if_icmp .ge 23, 3) := by decide +kernel
theorem dX5_init_106 : decode cX5_init 106 = .ok (.aload_n 0, 1) := by decide +kernel
theorem dX5_init_107 : decode cX5_init 107 = .ok (.getfield 22, 3) := by decide +kernel
theorem dX5_init_110 : decode cX5_init 110 = .ok (.ldc 38, 2) := by decide +kernel
theorem dX5_init_112 : decode cX5_init 112 = .ok (.iload_n 1, 1) := by decide +kernel
theorem dX5_init_113 : decode cX5_init 113 = .ok (.invokevirtual 46, 3) := by decide +kernel
theorem dX5_init_116 : decode cX5_init 116 = .ok (.invokevirtual 50, 3) := by decide +kernel
theorem dX5_init_119 : decode cX5_init 119 = .ok (.pop, 1) := by decide +kernel
theorem dX5_init_120 : decode cX5_init 120 = .ok (.iinc 1 1, 3) := by decide +kernel
theorem dX5_init_123 : decode cX5_init 123 = .ok (.goto (-26), 3) := by decide +kernel
theorem dX5_init_126 : decode cX5_init 126 = .ok (.aload_n 0, 1) := by decide +kernel
theorem dX5_init_127 : decode cX5_init 127 = .ok (.getfield 22, 3) := by decide +kernel
theorem dX5_init_130 : decode cX5_init 130 = .ok (.aload_n 0, 1) := by decide +kernel
theorem dX5_init_131 : decode cX5_init 131 = .ok (.getfield 11, 3) := by decide +kernel
theorem dX5_init_134 : decode cX5_init 134 = .ok (.iconst 0, 1) := by decide +kernel
theorem dX5_init_135 : decode cX5_init 135 = .ok (.aaload, 1) := by decide +kernel
theorem dX5_init_136 : decode cX5_init 136 = .ok (.invokevirtual 54, 3) := by decide +kernel
theorem dX5_init_139 : decode cX5_init 139 = .ok (.pop, 1) := by decide +kernel
theorem dX5_init_140 : decode cX5_init 140 = .ok (.aload_n 0, 1) := by decide +kernel
theorem dX5_init_141 : decode cX5_init 141 = .ok (.getfield 22, 3) := by decide +kernel
theorem dX5_init_144 : decode cX5_init 144 = .ok (.invokevirtual 58, 3) := by decide +kernel
theorem dX5_init_147 : decode cX5_init 147 = .ok (.aload_n 0, 1) := by decide +kernel
theorem dX5_init_148 : decode cX5_init 148 = .ok (.new 61, 3) := by decide +kernel
theorem dX5_init_151 : decode cX5_init 151 = .ok (.dup, 1) := by decide +kernel
theorem dX5_init_152 : decode cX5_init 152 = .ok (.aload_n 0, 1) := by decide +kernel
theorem dX5_init_153 : decode cX5_init 153 = .ok (.getfield 11, 3) := by decide +kernel
theorem dX5_init_156 : decode cX5_init 156 = .ok (.invokespecial 63, 3) := by decide +kernel
theorem dX5_init_159 : decode cX5_init 159 = .ok (.putfield 66, 3) := by decide +kernel
theorem dX5_init_162 : decode cX5_init 162 = .ok (.aload_n 0, 1) := by decide +kernel
theorem dX5_init_163 : decode cX5_init 163 = .ok (.new 61, 3) := by decide +kernel
theorem dX5_init_166 : decode cX5_init 166 = .ok (.dup, 1) := by decide +kernel
theorem dX5_init_167 : decode cX5_init 167 = .ok (.aload_n 0, 1) := by decide +kernel
theorem dX5_init_168 : decode cX5_init 168 = .ok (.getfield 11, 3) := by decide +kernel
theorem dX5_init_171 : decode cX5_init 171 = .ok (.invokespecial 63, 3) := by decide +kernel
theorem dX5_init_174 : decode cX5_init 174 = .ok (.putfield 70, 3) := by decide +kernel
theorem dX5_init_177 : decode cX5_init 177 = .ok (.aload_n 0, 1) := by decide +kernel
theorem dX5_init_178 : decode cX5_init 178 = .ok (.new 73, 3) := by decide +kernel
theorem dX5_init_181 : decode cX5_init 181 = .ok (.dup, 1) := by decide +kernel
theorem dX5_init_182 : decode cX5_init 182 = .ok (.aload_n 0, 1) := by decide +kernel
theorem dX5_init_183 : decode cX5_init 183 = .ok (.getfield 66, 3) := by decide +kernel
theorem dX5_init_186 : decode cX5_init 186 = .ok (.new 61, 3) := by decide +kernel
theorem dX5_init_189 : decode cX5_init 189 = .ok (.dup, 1) := by decide +kernel
theorem dX5_init_190 : decode cX5_init 190 = .ok (.aload_n 0, 1) := by decide +kernel
theorem dX5_init_191 : decode cX5_init 191 = .ok (.getfield 11, 3) := by decide +kernel
theorem dX5_init_194 : decode cX5_init 194 = .ok (.invokespecial 63, 3) := by decide +kernel
theorem dX5_init_197 : decode cX5_init 197 = .ok (.invokespecial 75, 3) := by decide +kernel
theorem dX5_init_200 : decode cX5_init 200 = .ok (.putfield 78, 3) := by decide +kernel
theorem dX5_init_203 : decode cX5_init 203 = .ok (.return_, 1) := by decide +kernel
theorem dX5_set_0 : decode cX5_set 0 = .ok (.iload_n 1, 1) := by decide +kernel
theorem dX5_set_1 : decode cX5_set 1 = .ok (.bipush 10, 2) := by decide +kernel
theorem dX5_set_3 : decode cX5_set 3 = .ok (.if_icmp .eq 27, 3) := by decide +kernel
theorem dX5_set_6 : decode cX5_set 6 = .ok (.aload_n 0, 1) := by decide +kernel
theorem dX5_set_7 : decode cX5_set 7 = .ok (.getfield 66, 3) := by decide +kernel
theorem dX5_set_10 : decode cX5_set 10 = .ok (.iload_n 1, 1) := by decide +kernel
theorem dX5_set_11 : decode cX5_set 11 = .ok (.iload_n 2, 1) := by decide +kernel
theorem dX5_set_12 : decode cX5_set 12 = .ok (.invokevirtual 82, 3) := by decide +kernel
theorem dX5_set_15 : decode cX5_set 15 = .ok (.ifCond .eq 15, 3) := by decide +kernel
theorem dX5_set_18 : decode cX5_set 18 = .ok (.aload_n 0, 1) := by decide +kernel
theorem dX5_set_19 : decode cX5_set 19 = .ok (.getfield 66, 3) := by decide +kernel
theorem dX5_set_22 : decode cX5_set 22 = .ok (.iload_n 1, 1) := by decide +kernel
theorem dX5_set_23 : decode cX5_set 23 = .ok (.iload_n 3, 1) := by decide +kernel
theorem dX5_set_24 : decode cX5_set 24 = .ok (.invokevirtual 86, 3) := by decide +kernel
theorem dX5_set_27 : decode cX5_set 27 = .ok (.ifCond .ne 6, 3) := by decide +kernel
theorem dX5_set_30 : decode cX5_set 30 = .ok (.bipush (-100), 2) := by decide +kernel
theorem dX5_set_32 : decode cX5_set 32 = .ok (.ireturn, 1) := by decide +kernel
theorem dX5_set_33 : decode cX5_set 33 = .ok (.aload_n 0, 1) := by decide +kernel
theorem dX5_set_34 : decode cX5_set 34 = .ok (.getfield 66, 3) := by decide +kernel
theorem dX5_set_37 : decode cX5_set 37 = .ok (.iload_n 1, 1) := by decide +kernel
theorem dX5_set_38 : decode cX5_set 38 = .ok (.iload_n 2, 1) := by decide +kernel
theorem dX5_set_39 : decode cX5_set 39 = .ok (.invokevirtual 89, 3) := by decide +kernel
theorem dX5_set_42 : decode cX5_set 42 = .ok (.istore 4, 2) := by decide +kernel
theorem dX5_set_44 : decode cX5_set 44 = .ok (.aload_n 0, 1) := by decide +kernel
theorem dX5_set_45 : decode cX5_set 45 = .ok (.getfield 66, 3) := by decide +kernel
theorem dX5_set_48 : decode cX5_set 48 = .ok (.iload_n 1, 1) := by decide +kernel
theorem dX5_set_49 : decode cX5_set 49 = .ok (.iload_n 2, 1) := by decide +kernel
theorem dX5_set_50 : decode cX5_set 50 = .ok (.iload_n 3, 1) := by decide +kernel
theorem dX5_set_51 : decode cX5_set 51 = .ok (.invokevirtual 92, 3) := by decide +kernel
theorem dX5_set_54 : decode cX5_set 54 = .ok (.iload 4, 2) := by decide +kernel
theorem dX5_set_56 : decode cX5_set 56 = .ok (.ireturn, 1) := by decide +kernel
theorem dX5_hand_0 : decode cX5_hand 0 = .ok (.aload_n 0, 1) := by decide +kernel
theorem dX5_hand_1 : decode cX5_hand 1 = .ok (.getfield 66, 3) := by decide +kernel
theorem dX5_hand_4 : decode cX5_hand 4 = .ok (.bipush 10, 2) := by decide +kernel
theorem dX5_hand_6 : decode cX5_hand 6 = .ok (.iload_n 1, 1) := by decide +kernel
theorem dX5_hand_7 : decode cX5_hand 7 = .ok (.invokevirtual 86, 3) := by decide +kernel
theorem dX5_hand_10 : decode cX5_hand 10 = .ok (.ifCond .eq 46, 3) := by decide +kernel
theorem dX5_hand_13 : decode cX5_hand 13 = .ok (.aload_n 0, 1) := by decide +kernel
theorem dX5_hand_14 : decode cX5_hand 14 = .ok (.getfield 66, 3) := by decide +kernel
theorem dX5_hand_17 : decode cX5_hand 17 = .ok (.iconst 4, 1) := by decide +kernel
theorem dX5_hand_18 : decode cX5_hand 18 = .ok (.iload_n 2, 1) := by decide +kernel
theorem dX5_hand_19 : decode cX5_hand 19 = .ok (.bipush 100, 2) := by decide +kernel
theorem dX5_hand_21 : decode cX5_hand 21 = .ok (.idiv, 1) := by decide +kernel
theorem dX5_hand_22 : decode cX5_hand 22 = .ok (.invokevirtual 86, 3) := by decide +kernel
theorem dX5_hand_25 : decode cX5_hand 25 = .ok (.ifCond .eq 31, 3) := by decide +kernel
theorem dX5_hand_28 : decode cX5_hand 28 = .ok (.aload_n 0, 1) := by decide +kernel
theorem dX5_hand_29 : decode cX5_hand 29 = .ok (.getfield 66, 3) := by decide +kernel
theorem dX5_hand_32 : decode cX5_hand 32 = .ok (.iconst 5, 1) := by decide +kernel
theorem dX5_hand_33 : decode cX5_hand 33 = .ok (.iload_n 2, 1) := by decide +kernel
theorem dX5_hand_34 : decode cX5_hand 34 = .ok (.bipush 100, 2) := by decide +kernel
theorem dX5_hand_36 : decode cX5_hand 36 = .ok (.irem, 1) := by decide +kernel
theorem dX5_hand_37 : decode cX5_hand 37 = .ok (.invokevirtual 86, 3) := by decide +kernel
theorem dX5_hand_40 : decode cX5_hand 40 = .ok (.ifCond .eq 16, 3) := by decide +kernel
theorem dX5_hand_43 : decode cX5_hand 43 = .ok (.aload_n 0, 1) := by decide +kernel
theorem dX5_hand_44 : decode cX5_hand 44 = .ok (.getfield 66, 3) := by decide +kernel
theorem dX5_hand_47 : decode cX5_hand 47 = .ok (.bipush 6, 2) := by decide +kernel
theorem dX5_hand_49 : decode cX5_hand 49 = .ok (.iload_n 3, 1) := by decide +kernel
theorem dX5_hand_50 : decode cX5_hand 50 = .ok (.invokevirtual 86, 3) := by decide +kernel
theorem dX5_hand_53 : decode cX5_hand 53 = .ok (.ifCond .ne 6, 3) := by decide +kernel
theorem dX5_hand_56 : decode cX5_hand 56 = .ok (.bipush (-2), 2) := by decide +kernel
theorem dX5_hand_58 : decode cX5_hand 58 = .ok (.ireturn, 1) := by decide +kernel
theorem dX5_hand_59 : decode cX5_hand 59 = .ok (.aload_n 0, 1) := by decide +kernel
theorem dX5_hand_60 : decode cX5_hand 60 = .ok (.getfield 66, 3) := by decide +kernel
theorem dX5_hand_63 : decode cX5_hand 63 = .ok (.getfield 96, 3) := by decide +kernel
theorem dX5_hand_66 : decode cX5_hand 66 = .ok (.iconst 5, 1) := by decide +kernel
theorem dX5_hand_67 : decode cX5_hand 67 = .ok (.if_icmp .lt 6, 3) := by decide +kernel
theorem dX5_hand_70 : decode cX5_hand 70 = .ok (.bipush (-4), 2) := by decide +kernel
theorem dX5_hand_72 : decode cX5_hand 72 = .ok (.ireturn, 1) := by decide +kernel
theorem dX5_hand_73 : decode cX5_hand 73 = .ok (.aload_n 0, 1) := by decide +kernel
theorem dX5_hand_74 : decode cX5_hand 74 = .ok (.getfield 66, 3) := by decide +kernel
theorem dX5_hand_77 : decode cX5_hand 77 = .ok (.getfield 96, 3) := by decide +kernel
theorem dX5_hand_80 : decode cX5_hand 80 = .ok (.istore 4, 2) := by decide +kernel
theorem dX5_hand_82 : decode cX5_hand 82 = .ok (.aload_n 0, 1) := by decide +kernel
theorem dX5_hand_83 : decode cX5_hand 83 = .ok (.getfield 66, 3) := by decide +kernel
theorem dX5_hand_86 : decode cX5_hand 86 = .ok (.dup, 1) := by decide +kernel
theorem dX5_hand_87 : decode cX5_hand 87 = .ok (.getfield 96, 3) := by decide +kernel
theorem dX5_hand_90 : decode cX5_hand 90 = .ok (.iconst 1, 1) := by decide +kernel
theorem dX5_hand_91 : decode cX5_hand 91 = .ok (.iadd, 1) := by decide +kernel
theorem dX5_hand_92 : decode cX5_hand 92 = .ok (.putfield 96, 3) := by decide +kernel
theorem dX5_hand_95 : decode cX5_hand 95 = .ok (.aload_n 0, 1) := by decide +kernel
theorem dX5_hand_96 : decode cX5_hand 96 = .ok (.getfield 66, 3) := by decide +kernel
theorem dX5_hand_99 : decode cX5_hand 99 = .ok (.bipush 10, 2) := by decide +kernel
theorem dX5_hand_101 : decode cX5_hand 101 = .ok (.iload 4, 2) := by decide +kernel
theorem dX5_hand_103 : decode cX5_hand 103 = .ok (.iload_n 1, 1) := by decide +kernel
theorem dX5_hand_104 : decode cX5_hand 104 = .ok (.invokevirtual 92, 3) := by decide +kernel
theorem dX5_hand_107 : decode cX5_hand 107 = .ok (.aload_n 0, 1) := by decide +kernel
theorem dX5_hand_108 : decode cX5_hand 108 = .ok (.getfield 66, 3) := by decide +kernel
theorem dX5_hand_111 : decode cX5_hand 111 = .ok (.iconst 4, 1) := by decide +kernel
theorem dX5_hand_112 : decode cX5_hand 112 = .ok (.iload 4, 2) := by decide +kernel
theorem dX5_hand_114 : decode cX5_hand 114 = .ok (.iload_n 2, 1) := by decide +kernel
theorem dX5_hand_115 : decode cX5_hand 115 = .ok (.bipush 100, 2) := by decide +kernel
theorem dX5_hand_117 : decode cX5_hand 117 = .ok (.idiv, 1) := by decide +kernel
theorem dX5_hand_118 : decode cX5_hand 118 = .ok (.invokevirtual 92, 3) := by decide +kernel
theorem dX5_hand_121 : decode cX5_hand 121 = .ok (.aload_n 0, 1) := by decide +kernel
theorem dX5_hand_122 : decode cX5_hand 122 = .ok (.getfield 66, 3) := by decide +kernel
theorem dX5_hand_125 : decode cX5_hand 125 = .ok (.iconst 5, 1) := by decide +kernel
theorem dX5_hand_126 : decode cX5_hand 126 = .ok (.iload 4, 2) := by decide +kernel
theorem dX5_hand_128 : decode cX5_hand 128 = .ok (.iload_n 2, 1) := by decide +kernel
theorem dX5_hand_129 : decode cX5_hand 129 = .ok (.bipush 100, 2) := by decide +kernel
theorem dX5_hand_131 : decode cX5_hand 131 = .ok (.irem, 1) := by decide +kernel
theorem dX5_hand_132 : decode cX5_hand 132 = .ok (.invokevirtual 92, 3) := by decide +kernel
theorem dX5_hand_135 : decode cX5_hand 135 = .ok (.aload_n 0, 1) := by decide +kernel
theorem dX5_hand_136 : decode cX5_hand 136 = .ok (.getfield 66, 3) := by decide +kernel
theorem dX5_hand_139 : decode cX5_hand 139 = .ok (.bipush 6, 2) := by decide +kernel
theorem dX5_hand_141 : decode cX5_hand 141 = .ok (.iload 4, 2) := by decide +kernel
theorem dX5_hand_143 : decode cX5_hand 143 = .ok (.iload_n 3, 1) := by decide +kernel
theorem dX5_hand_144 : decode cX5_hand 144 = .ok (.invokevirtual 92, 3) := by decide +kernel
theorem dX5_hand_147 : decode cX5_hand 147 = .ok (.iload 4, 2) := by decide +kernel
theorem dX5_hand_149 : decode cX5_hand 149 = .ok (.ireturn, 1) := by decide +kernel
theorem dX5_visit_0 : decode cX5_visit 0 = .ok (.aload_n 0, 1) := by decide +kernel
theorem dX5_visit_1 : decode cX5_visit 1 = .ok (.iload_n 1, 1) := by decide +kernel
theorem dX5_visit_2 : decode cX5_visit 2 = .ok (.iload_n 2, 1) := by decide +kernel
theorem dX5_visit_3 : decode cX5_visit 3 = .ok (.invokevirtual 99, 3) := by decide +kernel
theorem dX5_visit_6 : decode cX5_visit 6 = .ok (.ireturn, 1) := by decide +kernel
theorem dX5_once_0 : decode cX5_once 0 = .ok (.aload_n 0, 1) := by decide +kernel
theorem dX5_once_1 : decode cX5_once 1 = .ok (.iload_n 1, 1) := by decide +kernel
theorem dX5_once_2 : decode cX5_once 2 = .ok (.invokevirtual 108, 3) := by decide +kernel
theorem dX5_once_5 : decode cX5_once 5 = .ok (.ifCond .eq 12, 3) := by decide +kernel
theorem dX5_once_8 : decode cX5_once 8 = .ok (.iload_n 2, 1) := by decide +kernel
theorem dX5_once_9 : decode cX5_once 9 = .ok (.ifCond .lt 8, 3) := by decide +kernel
theorem dX5_once_12 : decode cX5_once 12 = .ok (.iload_n 2, 1) := by decide +kernel
theorem dX5_once_13 : decode cX5_once 13 = .ok (.iconst 5, 1) := by decide +kernel
theorem dX5_once_14 : decode cX5_once 14 = .ok (.if_icmp .le 6, 3) := by decide +kernel
theorem dX5_once_17 : decode cX5_once 17 = .ok (.bipush (-2), 2) := by decide +kernel
theorem dX5_once_19 : decode cX5_once 19 = .ok (.ireturn, 1) := by decide +kernel
theorem dX5_once_20 : decode cX5_once 20 = .ok (.aload_n 0, 1) := by decide +kernel
theorem dX5_once_21 : decode cX5_once 21 = .ok (.getfield 78, 3) := by decide +kernel
theorem dX5_once_24 : decode cX5_once 24 = .ok (.invokevirtual 111, 3) := by decide +kernel
theorem dX5_once_27 : decode cX5_once 27 = .ok (.aload_n 0, 1) := by decide +kernel
theorem dX5_once_28 : decode cX5_once 28 = .ok (.getfield 78, 3) := by decide +kernel
theorem dX5_once_31 : decode cX5_once 31 = .ok (.getfield 114, 3) := by decide +kernel
theorem dX5_once_34 : decode cX5_once 34 = .ok (.iload_n 1, 1) := by decide +kernel
theorem dX5_once_35 : decode cX5_once 35 = .ok (.invokevirtual 117, 3) := by decide +kernel
theorem dX5_once_38 : decode cX5_once 38 = .ok (.istore_n 3, 1) := by decide +kernel
theorem dX5_once_39 : decode cX5_once 39 = .ok (.iload_n 2, 1) := by decide +kernel
theorem dX5_once_40 : decode cX5_once 40 = .ok (.iconst 4, 1) := by decide +kernel
theorem dX5_once_41 : decode cX5_once 41 = .ok (.if_icmp .ge 16, 3) := by decide +kernel
theorem dX5_once_44 : decode cX5_once 44 = .ok (.aload_n 0, 1) := by decide +kernel
theorem dX5_once_45 : decode cX5_once 45 = .ok (.getfield 78, 3) := by decide +kernel
theorem dX5_once_48 : decode cX5_once 48 = .ok (.getfield 114, 3) := by decide +kernel
theorem dX5_once_51 : decode cX5_once 51 = .ok (.iconst 0, 1) := by decide +kernel
theorem dX5_once_52 : decode cX5_once 52 = .ok (.iload_n 2, 1) := by decide +kernel
theorem dX5_once_53 : decode cX5_once 53 = .ok (.invokevirtual 89, 3) := by decide +kernel
theorem dX5_once_56 : decode cX5_once 56 = .ok (.ireturn, 1) := by decide +kernel
theorem dX5_once_57 : decode cX5_once 57 = .ok (.iload_n 2, 1) := by decide +kernel
theorem dX5_once_58 : decode cX5_once 58 = .ok (.iconst 4, 1) := by decide +kernel
theorem dX5_once_59 : decode cX5_once 59 = .ok (.if_icmp .ne 7, 3) := by decide +kernel
theorem dX5_once_62 : decode cX5_once 62 = .ok (.iload_n 3, 1) := by decide +kernel
theorem dX5_once_63 : decode cX5_once 63 = .ok (.goto 13, 3) := by decide +kernel
theorem dX5_once_66 : decode cX5_once 66 = .ok (.aload_n 0, 1) := by decide +kernel
theorem dX5_once_67 : decode cX5_once 67 = .ok (.getfield 78, 3) := by decide +kernel
theorem dX5_once_70 : decode cX5_once 70 = .ok (.getfield 114, 3) := by decide +kernel
theorem dX5_once_73 : decode cX5_once 73 = .ok (.invokevirtual 121, 3) := by decide +kernel
theorem dX5_once_76 : decode cX5_once 76 = .ok (.ireturn, 1) := by decide +kernel
theorem dX5_course_0 : decode cX5_course 0 = .ok (.aload_n 0, 1) := by decide +kernel
theorem dX5_course_1 : decode cX5_course 1 = .ok (.iload_n 1, 1) := by decide +kernel
theorem dX5_course_2 : decode cX5_course 2 = .ok (.invokevirtual 108, 3) := by decide +kernel
theorem dX5_course_5 : decode cX5_course 5 = .ok (.ifCond .eq 10, 3) := by decide +kernel
theorem dX5_course_8 : decode cX5_course 8 = .ok (.iload_n 2, 1) := by decide +kernel
theorem dX5_course_9 : decode cX5_course 9 = .ok (.invokestatic 124, 3) := by decide +kernel
theorem dX5_course_12 : decode cX5_course 12 = .ok (.ifCond .ne 6, 3) := by decide +kernel
theorem dX5_course_15 : decode cX5_course 15 = .ok (.bipush (-2), 2) := by decide +kernel
theorem dX5_course_17 : decode cX5_course 17 = .ok (.ireturn, 1) := by decide +kernel
theorem dX5_course_18 : decode cX5_course 18 = .ok (.aload_n 0, 1) := by decide +kernel
theorem dX5_course_19 : decode cX5_course 19 = .ok (.getfield 78, 3) := by decide +kernel
theorem dX5_course_22 : decode cX5_course 22 = .ok (.invokevirtual 127, 3) := by decide +kernel
theorem dX5_course_25 : decode cX5_course 25 = .ok (.aload_n 0, 1) := by decide +kernel
theorem dX5_course_26 : decode cX5_course 26 = .ok (.getfield 78, 3) := by decide +kernel
theorem dX5_course_29 : decode cX5_course 29 = .ok (.getfield 130, 3) := by decide +kernel
theorem dX5_course_32 : decode cX5_course 32 = .ok (.iload_n 1, 1) := by decide +kernel
theorem dX5_course_33 : decode cX5_course 33 = .ok (.aaload, 1) := by decide +kernel
theorem dX5_course_34 : decode cX5_course 34 = .ok (.iload_n 2, 1) := by decide +kernel
theorem dX5_course_35 : decode cX5_course 35 = .ok (.iaload, 1) := by decide +kernel
theorem dX5_course_36 : decode cX5_course 36 = .ok (.ireturn, 1) := by decide +kernel
theorem dX5_bad_0 : decode cX5_bad 0 = .ok (.iload_n 1, 1) := by decide +kernel
theorem dX5_bad_1 : decode cX5_bad 1 = .ok (.ifCond .lt 8, 3) := by decide +kernel
theorem dX5_bad_4 : decode cX5_bad 4 = .ok (.iload_n 1, 1) := by decide +kernel
theorem dX5_bad_5 : decode cX5_bad 5 = .ok (.iconst 3, 1) := by decide +kernel
theorem dX5_bad_6 : decode cX5_bad 6 = .ok (.if_icmp .le 6, 3) := by decide +kernel
theorem dX5_bad_9 : decode cX5_bad 9 = .ok (.bipush (-2), 2) := by decide +kernel
theorem dX5_bad_11 : decode cX5_bad 11 = .ok (.ireturn, 1) := by decide +kernel
theorem dX5_bad_12 : decode cX5_bad 12 = .ok (.aload_n 0, 1) := by decide +kernel
theorem dX5_bad_13 : decode cX5_bad 13 = .ok (.getfield 78, 3) := by decide +kernel
theorem dX5_bad_16 : decode cX5_bad 16 = .ok (.invokevirtual 127, 3) := by decide +kernel
theorem dX5_bad_19 : decode cX5_bad 19 = .ok (.iload_n 1, 1) := by decide +kernel
theorem dX5_bad_20 : decode cX5_bad 20 = .ok (.tableswitch 55 0 2 #[28, 36, 44], 28) := by decide +kernel
theorem dX5_bad_48 : decode cX5_bad 48 = .ok (.aload_n 0, 1) := by decide +kernel
theorem dX5_bad_49 : decode cX5_bad 49 = .ok (.getfield 78, 3) := by decide +kernel
theorem dX5_bad_52 : decode cX5_bad 52 = .ok (.invokevirtual 134, 3) := by decide +kernel
theorem dX5_bad_55 : decode cX5_bad 55 = .ok (.ireturn, 1) := by decide +kernel
theorem dX5_bad_56 : decode cX5_bad 56 = .ok (.aload_n 0, 1) := by decide +kernel
theorem dX5_bad_57 : decode cX5_bad 57 = .ok (.getfield 78, 3) := by decide +kernel
theorem dX5_bad_60 : decode cX5_bad 60 = .ok (.invokevirtual 137, 3) := by decide +kernel
theorem dX5_bad_63 : decode cX5_bad 63 = .ok (.ireturn, 1) := by decide +kernel
theorem dX5_bad_64 : decode cX5_bad 64 = .ok (.aload_n 0, 1) := by decide +kernel
theorem dX5_bad_65 : decode cX5_bad 65 = .ok (.getfield 78, 3) := by decide +kernel
theorem dX5_bad_68 : decode cX5_bad 68 = .ok (.getfield 114, 3) := by decide +kernel
theorem dX5_bad_71 : decode cX5_bad 71 = .ok (.invokevirtual 121, 3) := by decide +kernel
theorem dX5_bad_74 : decode cX5_bad 74 = .ok (.ireturn, 1) := by decide +kernel
theorem dX5_bad_75 : decode cX5_bad 75 = .ok (.aload_n 0, 1) := by decide +kernel
theorem dX5_bad_76 : decode cX5_bad 76 = .ok (.getfield 78, 3) := by decide +kernel
theorem dX5_bad_79 : decode cX5_bad 79 = .ok (.invokevirtual 140, 3) := by decide +kernel
theorem dX5_bad_82 : decode cX5_bad 82 = .ok (.ireturn, 1) := by decide +kernel
theorem dX5_drift_0 : decode cX5_drift 0 = .ok (.iload_n 1, 1) := by decide +kernel
theorem dX5_drift_1 : decode cX5_drift 1 = .ok (.invokestatic 124, 3) := by decide +kernel
theorem dX5_drift_4 : decode cX5_drift 4 = .ok (.ifCond .ne 7, 3) := by decide +kernel
theorem dX5_drift_7 : decode cX5_drift 7 = .ok (.sipush (-1000), 3) := by decide +kernel
theorem dX5_drift_10 : decode cX5_drift 10 = .ok (.ireturn, 1) := by decide +kernel
theorem dX5_drift_11 : decode cX5_drift 11 = .ok (.aload_n 0, 1) := by decide +kernel
theorem dX5_drift_12 : decode cX5_drift 12 = .ok (.getfield 78, 3) := by decide +kernel
theorem dX5_drift_15 : decode cX5_drift 15 = .ok (.invokevirtual 127, 3) := by decide +kernel
theorem dX5_drift_18 : decode cX5_drift 18 = .ok (.aload_n 0, 1) := by decide +kernel
theorem dX5_drift_19 : decode cX5_drift 19 = .ok (.getfield 78, 3) := by decide +kernel
theorem dX5_drift_22 : decode cX5_drift 22 = .ok (.getfield 114, 3) := by decide +kernel
theorem dX5_drift_25 : decode cX5_drift 25 = .ok (.iconst 0, 1) := by decide +kernel
theorem dX5_drift_26 : decode cX5_drift 26 = .ok (.iload_n 1, 1) := by decide +kernel
theorem dX5_drift_27 : decode cX5_drift 27 = .ok (.invokevirtual 89, 3) := by decide +kernel
theorem dX5_drift_30 : decode cX5_drift 30 = .ok (.aload_n 0, 1) := by decide +kernel
theorem dX5_drift_31 : decode cX5_drift 31 = .ok (.getfield 66, 3) := by decide +kernel
theorem dX5_drift_34 : decode cX5_drift 34 = .ok (.iconst 2, 1) := by decide +kernel
theorem dX5_drift_35 : decode cX5_drift 35 = .ok (.iload_n 1, 1) := by decide +kernel
theorem dX5_drift_36 : decode cX5_drift 36 = .ok (.invokevirtual 89, 3) := by decide +kernel
theorem dX5_drift_39 : decode cX5_drift 39 = .ok (.isub, 1) := by decide +kernel
theorem dX5_drift_40 : decode cX5_drift 40 = .ok (.ireturn, 1) := by decide +kernel
theorem dX5_whom_0 : decode cX5_whom 0 = .ok (.iload_n 1, 1) := by decide +kernel
theorem dX5_whom_1 : decode cX5_whom 1 = .ok (.invokestatic 146, 3) := by decide +kernel
theorem dX5_whom_4 : decode cX5_whom 4 = .ok (.ifCond .ne 6, 3) := by decide +kernel
theorem dX5_whom_7 : decode cX5_whom 7 = .ok (.bipush (-2), 2) := by decide +kernel
theorem dX5_whom_9 : decode cX5_whom 9 = .ok (.ireturn, 1) := by decide +kernel
theorem dX5_whom_10 : decode cX5_whom 10 = .ok (.iconst (-1), 1) := by decide +kernel
theorem dX5_whom_11 : decode cX5_whom 11 = .ok (.istore_n 2, 1) := by decide +kernel
theorem dX5_whom_12 : decode cX5_whom 12 = .ok (.iconst (-1), 1) := by decide +kernel
theorem dX5_whom_13 : decode cX5_whom 13 = .ok (.istore_n 3, 1) := by decide +kernel
theorem dX5_whom_14 : decode cX5_whom 14 = .ok (.aload_n 0, 1) := by decide +kernel
theorem dX5_whom_15 : decode cX5_whom 15 = .ok (.getfield 78, 3) := by decide +kernel
theorem dX5_whom_18 : decode cX5_whom 18 = .ok (.invokevirtual 111, 3) := by decide +kernel
theorem dX5_whom_21 : decode cX5_whom 21 = .ok (.iconst 0, 1) := by decide +kernel
theorem dX5_whom_22 : decode cX5_whom 22 = .ok (.istore 4, 2) := by decide +kernel
theorem dX5_whom_24 : decode cX5_whom 24 = .ok (.iload 4, 2) := by decide +kernel
theorem dX5_whom_26 : decode cX5_whom 26 = .ok (.aload_n 0, 1) := by decide +kernel
theorem dX5_whom_27 : decode cX5_whom 27 = .ok (.getfield 66, 3) := by decide +kernel
theorem dX5_whom_30 : decode cX5_whom 30 = .ok (.getfield 96, 3) := by decide +kernel
theorem dX5_whom_33 : decode cX5_whom 33 = .ok (.if_icmp .ge 80, 3) := by decide +kernel
theorem dX5_whom_36 : decode cX5_whom 36 = .ok (.iconst 0, 1) := by decide +kernel
theorem dX5_whom_37 : decode cX5_whom 37 = .ok (.istore 5, 2) := by decide +kernel
theorem dX5_whom_39 : decode cX5_whom 39 = .ok (.iload 5, 2) := by decide +kernel
theorem dX5_whom_41 : decode cX5_whom 41 = .ok (.aload_n 0, 1) := by decide +kernel
theorem dX5_whom_42 : decode cX5_whom 42 = .ok (.getfield 66, 3) := by decide +kernel
theorem dX5_whom_45 : decode cX5_whom 45 = .ok (.getfield 143, 3) := by decide +kernel
theorem dX5_whom_48 : decode cX5_whom 48 = .ok (.if_icmp .ge 25, 3) := by decide +kernel
theorem dX5_whom_51 : decode cX5_whom 51 = .ok (.aload_n 0, 1) := by decide +kernel
theorem dX5_whom_52 : decode cX5_whom 52 = .ok (.getfield 78, 3) := by decide +kernel
theorem dX5_whom_55 : decode cX5_whom 55 = .ok (.getfield 114, 3) := by decide +kernel
theorem dX5_whom_58 : decode cX5_whom 58 = .ok (.bipush 7, 2) := by decide +kernel
theorem dX5_whom_60 : decode cX5_whom 60 = .ok (.iload 5, 2) := by decide +kernel
theorem dX5_whom_62 : decode cX5_whom 62 = .ok (.iload 4, 2) := by decide +kernel
theorem dX5_whom_64 : decode cX5_whom 64 = .ok (.invokevirtual 92, 3) := by decide +kernel
theorem dX5_whom_67 : decode cX5_whom 67 = .ok (.iinc 5 1, 3) := by decide +kernel
theorem dX5_whom_70 : decode cX5_whom 70 = .ok (.goto (-31), 3) := by decide +kernel
theorem dX5_whom_73 : decode cX5_whom 73 = .ok (.aload_n 0, 1) := by decide +kernel
theorem dX5_whom_74 : decode cX5_whom 74 = .ok (.getfield 78, 3) := by decide +kernel
theorem dX5_whom_77 : decode cX5_whom 77 = .ok (.iconst 0, 1) := by decide +kernel
theorem dX5_whom_78 : decode cX5_whom 78 = .ok (.invokevirtual 149, 3) := by decide +kernel
theorem dX5_whom_81 : decode cX5_whom 81 = .ok (.aload_n 0, 1) := by decide +kernel
theorem dX5_whom_82 : decode cX5_whom 82 = .ok (.getfield 78, 3) := by decide +kernel
theorem dX5_whom_85 : decode cX5_whom 85 = .ok (.invokevirtual 134, 3) := by decide +kernel
theorem dX5_whom_88 : decode cX5_whom 88 = .ok (.istore 5, 2) := by decide +kernel
theorem dX5_whom_90 : decode cX5_whom 90 = .ok (.iload_n 3, 1) := by decide +kernel
theorem dX5_whom_91 : decode cX5_whom 91 = .ok (.iconst (-1), 1) := by decide +kernel
theorem dX5_whom_92 : decode cX5_whom 92 = .ok (.if_icmp .eq 9, 3) := by decide +kernel
theorem dX5_whom_95 : decode cX5_whom 95 = .ok (.iload 5, 2) := by decide +kernel
theorem dX5_whom_97 : decode cX5_whom 97 = .ok (.iload_n 2, 1) := by decide +kernel
theorem dX5_whom_98 : decode cX5_whom 98 = .ok (.if_icmp .ge 9, 3) := by decide +kernel
theorem dX5_whom_101 : decode cX5_whom 101 = .ok (.iload 5, 2) := by decide +kernel
theorem dX5_whom_103 : decode cX5_whom 103 = .ok (.istore_n 2, 1) := by decide +kernel
theorem dX5_whom_104 : decode cX5_whom 104 = .ok (.iload 4, 2) := by decide +kernel
theorem dX5_whom_106 : decode cX5_whom 106 = .ok (.istore_n 3, 1) := by decide +kernel
theorem dX5_whom_107 : decode cX5_whom 107 = .ok (.iinc 4 1, 3) := by decide +kernel
theorem dX5_whom_110 : decode cX5_whom 110 = .ok (.goto (-86), 3) := by decide +kernel
theorem dX5_whom_113 : decode cX5_whom 113 = .ok (.iload_n 1, 1) := by decide +kernel
theorem dX5_whom_114 : decode cX5_whom 114 = .ok (.ifCond .ne 7, 3) := by decide +kernel
theorem dX5_whom_117 : decode cX5_whom 117 = .ok (.iload_n 3, 1) := by decide +kernel
theorem dX5_whom_118 : decode cX5_whom 118 = .ok (.goto 4, 3) := by decide +kernel
theorem dX5_whom_121 : decode cX5_whom 121 = .ok (.iload_n 2, 1) := by decide +kernel
theorem dX5_whom_122 : decode cX5_whom 122 = .ok (.ireturn, 1) := by decide +kernel
theorem dX5_marked_0 : decode cX5_marked 0 = .ok (.aload_n 0, 1) := by decide +kernel
theorem dX5_marked_1 : decode cX5_marked 1 = .ok (.invokevirtual 159, 3) := by decide +kernel
theorem dX5_marked_4 : decode cX5_marked 4 = .ok (.istore_n 1, 1) := by decide +kernel
theorem dX5_marked_5 : decode cX5_marked 5 = .ok (.aload_n 0, 1) := by decide +kernel
theorem dX5_marked_6 : decode cX5_marked 6 = .ok (.getfield 78, 3) := by decide +kernel
theorem dX5_marked_9 : decode cX5_marked 9 = .ok (.invokevirtual 111, 3) := by decide +kernel
theorem dX5_marked_12 : decode cX5_marked 12 = .ok (.aload_n 0, 1) := by decide +kernel
theorem dX5_marked_13 : decode cX5_marked 13 = .ok (.getfield 78, 3) := by decide +kernel
theorem dX5_marked_16 : decode cX5_marked 16 = .ok (.getfield 114, 3) := by decide +kernel
theorem dX5_marked_19 : decode cX5_marked 19 = .ok (.iconst 3, 1) := by decide +kernel
theorem dX5_marked_20 : decode cX5_marked 20 = .ok (.iconst 0, 1) := by decide +kernel
theorem dX5_marked_21 : decode cX5_marked 21 = .ok (.aload_n 0, 1) := by decide +kernel
theorem dX5_marked_22 : decode cX5_marked 22 = .ok (.getfield 66, 3) := by decide +kernel
theorem dX5_marked_25 : decode cX5_marked 25 = .ok (.iconst 2, 1) := by decide +kernel
theorem dX5_marked_26 : decode cX5_marked 26 = .ok (.iconst 0, 1) := by decide +kernel
theorem dX5_marked_27 : decode cX5_marked 27 = .ok (.invokevirtual 89, 3) := by decide +kernel
theorem dX5_marked_30 : decode cX5_marked 30 = .ok (.invokevirtual 92, 3) := by decide +kernel
theorem dX5_marked_33 : decode cX5_marked 33 = .ok (.iconst 0, 1) := by decide +kernel
theorem dX5_marked_34 : decode cX5_marked 34 = .ok (.istore_n 2, 1) := by decide +kernel
theorem dX5_marked_35 : decode cX5_marked 35 = .ok (.iload_n 2, 1) := by decide +kernel
theorem dX5_marked_36 : decode cX5_marked 36 = .ok (.aload_n 0, 1) := by decide +kernel
theorem dX5_marked_37 : decode cX5_marked 37 = .ok (.getfield 66, 3) := by decide +kernel
theorem dX5_marked_40 : decode cX5_marked 40 = .ok (.getfield 143, 3) := by decide +kernel
theorem dX5_marked_43 : decode cX5_marked 43 = .ok (.if_icmp .ge 23, 3) := by decide +kernel
theorem dX5_marked_46 : decode cX5_marked 46 = .ok (.aload_n 0, 1) := by decide +kernel
theorem dX5_marked_47 : decode cX5_marked 47 = .ok (.getfield 78, 3) := by decide +kernel
theorem dX5_marked_50 : decode cX5_marked 50 = .ok (.getfield 114, 3) := by decide +kernel
theorem dX5_marked_53 : decode cX5_marked 53 = .ok (.bipush 9, 2) := by decide +kernel
theorem dX5_marked_55 : decode cX5_marked 55 = .ok (.iload_n 2, 1) := by decide +kernel
theorem dX5_marked_56 : decode cX5_marked 56 = .ok (.iconst 3, 1) := by decide +kernel
theorem dX5_marked_57 : decode cX5_marked 57 = .ok (.invokevirtual 92, 3) := by decide +kernel
theorem dX5_marked_60 : decode cX5_marked 60 = .ok (.iinc 2 1, 3) := by decide +kernel
theorem dX5_marked_63 : decode cX5_marked 63 = .ok (.goto (-28), 3) := by decide +kernel
theorem dX5_marked_66 : decode cX5_marked 66 = .ok (.aload_n 0, 1) := by decide +kernel
theorem dX5_marked_67 : decode cX5_marked 67 = .ok (.getfield 78, 3) := by decide +kernel
theorem dX5_marked_70 : decode cX5_marked 70 = .ok (.iconst 0, 1) := by decide +kernel
theorem dX5_marked_71 : decode cX5_marked 71 = .ok (.invokevirtual 149, 3) := by decide +kernel
theorem dX5_marked_74 : decode cX5_marked 74 = .ok (.aload_n 0, 1) := by decide +kernel
theorem dX5_marked_75 : decode cX5_marked 75 = .ok (.getfield 78, 3) := by decide +kernel
theorem dX5_marked_78 : decode cX5_marked 78 = .ok (.invokevirtual 134, 3) := by decide +kernel
theorem dX5_marked_81 : decode cX5_marked 81 = .ok (.iload_n 1, 1) := by decide +kernel
theorem dX5_marked_82 : decode cX5_marked 82 = .ok (.isub, 1) := by decide +kernel
theorem dX5_marked_83 : decode cX5_marked 83 = .ok (.ireturn, 1) := by decide +kernel
theorem dX5_again_0 : decode cX5_again 0 = .ok (.iload_n 1, 1) := by decide +kernel
theorem dX5_again_1 : decode cX5_again 1 = .ok (.ifCond .lt 10, 3) := by decide +kernel
theorem dX5_again_4 : decode cX5_again 4 = .ok (.iload_n 1, 1) := by decide +kernel
theorem dX5_again_5 : decode cX5_again 5 = .ok (.sipush 199, 3) := by decide +kernel
theorem dX5_again_8 : decode cX5_again 8 = .ok (.if_icmp .le 6, 3) := by decide +kernel
theorem dX5_again_11 : decode cX5_again 11 = .ok (.bipush (-2), 2) := by decide +kernel
theorem dX5_again_13 : decode cX5_again 13 = .ok (.ireturn, 1) := by decide +kernel
theorem dX5_again_14 : decode cX5_again 14 = .ok (.aload_n 0, 1) := by decide +kernel
theorem dX5_again_15 : decode cX5_again 15 = .ok (.getfield 78, 3) := by decide +kernel
theorem dX5_again_18 : decode cX5_again 18 = .ok (.invokevirtual 127, 3) := by decide +kernel
theorem dX5_again_21 : decode cX5_again 21 = .ok (.iconst (-1), 1) := by decide +kernel
theorem dX5_again_22 : decode cX5_again 22 = .ok (.istore_n 2, 1) := by decide +kernel
theorem dX5_again_23 : decode cX5_again 23 = .ok (.aload_n 0, 1) := by decide +kernel
theorem dX5_again_24 : decode cX5_again 24 = .ok (.getfield 66, 3) := by decide +kernel
theorem dX5_again_27 : decode cX5_again 27 = .ok (.getfield 143, 3) := by decide +kernel
theorem dX5_again_30 : decode cX5_again 30 = .ok (.iconst 1, 1) := by decide +kernel
theorem dX5_again_31 : decode cX5_again 31 = .ok (.isub, 1) := by decide +kernel
theorem dX5_again_32 : decode cX5_again 32 = .ok (.istore_n 3, 1) := by decide +kernel
theorem dX5_again_33 : decode cX5_again 33 = .ok (.iload_n 3, 1) := by decide +kernel
theorem dX5_again_34 : decode cX5_again 34 = .ok (.ifCond .lt 23, 3) := by decide +kernel
theorem dX5_again_37 : decode cX5_again 37 = .ok (.aload_n 0, 1) := by decide +kernel
theorem dX5_again_38 : decode cX5_again 38 = .ok (.getfield 78, 3) := by decide +kernel
theorem dX5_again_41 : decode cX5_again 41 = .ok (.iload_n 3, 1) := by decide +kernel
theorem dX5_again_42 : decode cX5_again 42 = .ok (.iload_n 1, 1) := by decide +kernel
theorem dX5_again_43 : decode cX5_again 43 = .ok (.invokevirtual 162, 3) := by decide +kernel
theorem dX5_again_46 : decode cX5_again 46 = .ok (.ifCond .eq 11, 3) := by decide +kernel
theorem dX5_again_49 : decode cX5_again 49 = .ok (.iload_n 3, 1) := by decide +kernel
theorem dX5_again_50 : decode cX5_again 50 = .ok (.istore_n 2, 1) := by decide +kernel
theorem dX5_again_51 : decode cX5_again 51 = .ok (.iinc 3 (-1), 3) := by decide +kernel
theorem dX5_again_54 : decode cX5_again 54 = .ok (.goto (-21), 3) := by decide +kernel
theorem dX5_again_57 : decode cX5_again 57 = .ok (.iload_n 2, 1) := by decide +kernel
theorem dX5_again_58 : decode cX5_again 58 = .ok (.ireturn, 1) := by decide +kernel
theorem dX5_pictures_0 : decode cX5_pictures 0 = .ok (.iload_n 1, 1) := by decide +kernel
theorem dX5_pictures_1 : decode cX5_pictures 1 = .ok (.invokestatic 165, 3) := by decide +kernel
theorem dX5_pictures_4 : decode cX5_pictures 4 = .ok (.ifCond .eq 10, 3) := by decide +kernel
theorem dX5_pictures_7 : decode cX5_pictures 7 = .ok (.iload_n 2, 1) := by decide +kernel
theorem dX5_pictures_8 : decode cX5_pictures 8 = .ok (.invokestatic 124, 3) := by decide +kernel
theorem dX5_pictures_11 : decode cX5_pictures 11 = .ok (.ifCond .ne 6, 3) := by decide +kernel
theorem dX5_pictures_14 : decode cX5_pictures 14 = .ok (.bipush (-2), 2) := by decide +kernel
theorem dX5_pictures_16 : decode cX5_pictures 16 = .ok (.ireturn, 1) := by decide +kernel
theorem dX5_pictures_17 : decode cX5_pictures 17 = .ok (.aload_n 0, 1) := by decide +kernel
theorem dX5_pictures_18 : decode cX5_pictures 18 = .ok (.aload_n 0, 1) := by decide +kernel
theorem dX5_pictures_19 : decode cX5_pictures 19 = .ok (.getfield 32, 3) := by decide +kernel
theorem dX5_pictures_22 : decode cX5_pictures 22 = .ok (.iload_n 1, 1) := by decide +kernel
theorem dX5_pictures_23 : decode cX5_pictures 23 = .ok (.aaload, 1) := by decide +kernel
theorem dX5_pictures_24 : decode cX5_pictures 24 = .ok (.invokevirtual 168, 3) := by decide +kernel
theorem dX5_pictures_27 : decode cX5_pictures 27 = .ok (.istore_n 3, 1) := by decide +kernel
theorem dX5_pictures_28 : decode cX5_pictures 28 = .ok (.iload_n 3, 1) := by decide +kernel
theorem dX5_pictures_29 : decode cX5_pictures 29 = .ok (.ifCond .eq 5, 3) := by decide +kernel
theorem dX5_pictures_32 : decode cX5_pictures 32 = .ok (.iload_n 3, 1) := by decide +kernel
theorem dX5_pictures_33 : decode cX5_pictures 33 = .ok (.ireturn, 1) := by decide +kernel
theorem dX5_pictures_34 : decode cX5_pictures 34 = .ok (.aload_n 0, 1) := by decide +kernel
theorem dX5_pictures_35 : decode cX5_pictures 35 = .ok (.getfield 78, 3) := by decide +kernel
theorem dX5_pictures_38 : decode cX5_pictures 38 = .ok (.invokevirtual 127, 3) := by decide +kernel
theorem dX5_pictures_41 : decode cX5_pictures 41 = .ok (.aload_n 0, 1) := by decide +kernel
theorem dX5_pictures_42 : decode cX5_pictures 42 = .ok (.getfield 78, 3) := by decide +kernel
theorem dX5_pictures_45 : decode cX5_pictures 45 = .ok (.aload_n 0, 1) := by decide +kernel
theorem dX5_pictures_46 : decode cX5_pictures 46 = .ok (.getfield 32, 3) := by decide +kernel
theorem dX5_pictures_49 : decode cX5_pictures 49 = .ok (.iload_n 1, 1) := by decide +kernel
theorem dX5_pictures_50 : decode cX5_pictures 50 = .ok (.aaload, 1) := by decide +kernel
theorem dX5_pictures_51 : decode cX5_pictures 51 = .ok (.iload_n 2, 1) := by decide +kernel
theorem dX5_pictures_52 : decode cX5_pictures 52 = .ok (.invokevirtual 172, 3) := by decide +kernel
theorem dX5_pictures_55 : decode cX5_pictures 55 = .ok (.ireturn, 1) := by decide +kernel
theorem dX5_seen_0 : decode cX5_seen 0 = .ok (.iload_n 1, 1) := by decide +kernel
theorem dX5_seen_1 : decode cX5_seen 1 = .ok (.invokestatic 165, 3) := by decide +kernel
theorem dX5_seen_4 : decode cX5_seen 4 = .ok (.ifCond .eq 19, 3) := by decide +kernel
theorem dX5_seen_7 : decode cX5_seen 7 = .ok (.iload_n 2, 1) := by decide +kernel
theorem dX5_seen_8 : decode cX5_seen 8 = .ok (.invokestatic 124, 3) := by decide +kernel
theorem dX5_seen_11 : decode cX5_seen 11 = .ok (.ifCond .eq 12, 3) := by decide +kernel
theorem dX5_seen_14 : decode cX5_seen 14 = .ok (.iload_n 3, 1) := by decide +kernel
theorem dX5_seen_15 : decode cX5_seen 15 = .ok (.ifCond .lt 8, 3) := by decide +kernel
theorem dX5_seen_18 : decode cX5_seen 18 = .ok (.iload_n 3, 1) := by decide +kernel
theorem dX5_seen_19 : decode cX5_seen 19 = .ok (.iconst 5, 1) := by decide +kernel
theorem dX5_seen_20 : decode cX5_seen 20 = .ok (.if_icmp .le 6, 3) := by decide +kernel
theorem dX5_seen_23 : decode cX5_seen 23 = .ok (.bipush (-2), 2) := by decide +kernel
theorem dX5_seen_25 : decode cX5_seen 25 = .ok (.ireturn, 1) := by decide +kernel
theorem dX5_seen_26 : decode cX5_seen 26 = .ok (.iload_n 3, 1) := by decide +kernel
theorem dX5_seen_27 : decode cX5_seen 27 = .ok (.iconst 5, 1) := by decide +kernel
theorem dX5_seen_28 : decode cX5_seen 28 = .ok (.if_icmp .ge 22, 3) := by decide +kernel
theorem dX5_seen_31 : decode cX5_seen 31 = .ok (.aload_n 0, 1) := by decide +kernel
theorem dX5_seen_32 : decode cX5_seen 32 = .ok (.getfield 66, 3) := by decide +kernel
theorem dX5_seen_35 : decode cX5_seen 35 = .ok (.iload_n 3, 1) := by decide +kernel
theorem dX5_seen_36 : decode cX5_seen 36 = .ok (.invokestatic 176, 3) := by decide +kernel
theorem dX5_seen_39 : decode cX5_seen 39 = .ok (.iload 4, 2) := by decide +kernel
theorem dX5_seen_41 : decode cX5_seen 41 = .ok (.invokevirtual 82, 3) := by decide +kernel
theorem dX5_seen_44 : decode cX5_seen 44 = .ok (.ifCond .ne 6, 3) := by decide +kernel
theorem dX5_seen_47 : decode cX5_seen 47 = .ok (.bipush (-2), 2) := by decide +kernel
theorem dX5_seen_49 : decode cX5_seen 49 = .ok (.ireturn, 1) := by decide +kernel
theorem dX5_seen_50 : decode cX5_seen 50 = .ok (.aload_n 0, 1) := by decide +kernel
theorem dX5_seen_51 : decode cX5_seen 51 = .ok (.aload_n 0, 1) := by decide +kernel
theorem dX5_seen_52 : decode cX5_seen 52 = .ok (.getfield 32, 3) := by decide +kernel
theorem dX5_seen_55 : decode cX5_seen 55 = .ok (.iload_n 1, 1) := by decide +kernel
theorem dX5_seen_56 : decode cX5_seen 56 = .ok (.aaload, 1) := by decide +kernel
theorem dX5_seen_57 : decode cX5_seen 57 = .ok (.invokevirtual 168, 3) := by decide +kernel
theorem dX5_seen_60 : decode cX5_seen 60 = .ok (.istore 5, 2) := by decide +kernel
theorem dX5_seen_62 : decode cX5_seen 62 = .ok (.iload 5, 2) := by decide +kernel
theorem dX5_seen_64 : decode cX5_seen 64 = .ok (.ifCond .eq 6, 3) := by decide +kernel
theorem dX5_seen_67 : decode cX5_seen 67 = .ok (.iload 5, 2) := by decide +kernel
theorem dX5_seen_69 : decode cX5_seen 69 = .ok (.ireturn, 1) := by decide +kernel
theorem dX5_seen_70 : decode cX5_seen 70 = .ok (.iload_n 3, 1) := by decide +kernel
theorem dX5_seen_71 : decode cX5_seen 71 = .ok (.iconst 5, 1) := by decide +kernel
theorem dX5_seen_72 : decode cX5_seen 72 = .ok (.if_icmp .ne 15, 3) := by decide +kernel
theorem dX5_seen_75 : decode cX5_seen 75 = .ok (.aload_n 0, 1) := by decide +kernel
theorem dX5_seen_76 : decode cX5_seen 76 = .ok (.aload_n 0, 1) := by decide +kernel
theorem dX5_seen_77 : decode cX5_seen 77 = .ok (.getfield 32, 3) := by decide +kernel
theorem dX5_seen_80 : decode cX5_seen 80 = .ok (.iload_n 1, 1) := by decide +kernel
theorem dX5_seen_81 : decode cX5_seen 81 = .ok (.aaload, 1) := by decide +kernel
theorem dX5_seen_82 : decode cX5_seen 82 = .ok (.iload_n 2, 1) := by decide +kernel
theorem dX5_seen_83 : decode cX5_seen 83 = .ok (.invokevirtual 179, 3) := by decide +kernel
theorem dX5_seen_86 : decode cX5_seen 86 = .ok (.ireturn, 1) := by decide +kernel
theorem dX5_seen_87 : decode cX5_seen 87 = .ok (.aload_n 0, 1) := by decide +kernel
theorem dX5_seen_88 : decode cX5_seen 88 = .ok (.aload_n 0, 1) := by decide +kernel
theorem dX5_seen_89 : decode cX5_seen 89 = .ok (.getfield 32, 3) := by decide +kernel
theorem dX5_seen_92 : decode cX5_seen 92 = .ok (.iload_n 1, 1) := by decide +kernel
theorem dX5_seen_93 : decode cX5_seen 93 = .ok (.aaload, 1) := by decide +kernel
theorem dX5_seen_94 : decode cX5_seen 94 = .ok (.iload_n 2, 1) := by decide +kernel
theorem dX5_seen_95 : decode cX5_seen 95 = .ok (.iload_n 3, 1) := by decide +kernel
theorem dX5_seen_96 : decode cX5_seen 96 = .ok (.invokestatic 176, 3) := by decide +kernel
theorem dX5_seen_99 : decode cX5_seen 99 = .ok (.iload 4, 2) := by decide +kernel
theorem dX5_seen_101 : decode cX5_seen 101 = .ok (.invokevirtual 182, 3) := by decide +kernel
theorem dX5_seen_104 : decode cX5_seen 104 = .ok (.ireturn, 1) := by decide +kernel
theorem dX5_film_0 : decode cX5_film 0 = .ok (.iload_n 1, 1) := by decide +kernel
theorem dX5_film_1 : decode cX5_film 1 = .ok (.invokestatic 165, 3) := by decide +kernel
theorem dX5_film_4 : decode cX5_film 4 = .ok (.ifCond .eq 25, 3) := by decide +kernel
theorem dX5_film_7 : decode cX5_film 7 = .ok (.iload_n 2, 1) := by decide +kernel
theorem dX5_film_8 : decode cX5_film 8 = .ok (.invokestatic 124, 3) := by decide +kernel
theorem dX5_film_11 : decode cX5_film 11 = .ok (.ifCond .eq 18, 3) := by decide +kernel
theorem dX5_film_14 : decode cX5_film 14 = .ok (.iload_n 3, 1) := by decide +kernel
theorem dX5_film_15 : decode cX5_film 15 = .ok (.ifCond .lt 14, 3) := by decide +kernel
theorem dX5_film_18 : decode cX5_film 18 = .ok (.iload_n 3, 1) := by decide +kernel
theorem dX5_film_19 : decode cX5_film 19 = .ok (.aload_n 0, 1) := by decide +kernel
theorem dX5_film_20 : decode cX5_film 20 = .ok (.getfield 66, 3) := by decide +kernel
theorem dX5_film_23 : decode cX5_film 23 = .ok (.getfield 143, 3) := by decide +kernel
theorem dX5_film_26 : decode cX5_film 26 = .ok (.if_icmp .le 6, 3) := by decide +kernel
theorem dX5_film_29 : decode cX5_film 29 = .ok (.bipush (-2), 2) := by decide +kernel
theorem dX5_film_31 : decode cX5_film 31 = .ok (.ireturn, 1) := by decide +kernel
theorem dX5_film_32 : decode cX5_film 32 = .ok (.aload_n 0, 1) := by decide +kernel
theorem dX5_film_33 : decode cX5_film 33 = .ok (.getfield 78, 3) := by decide +kernel
theorem dX5_film_36 : decode cX5_film 36 = .ok (.invokevirtual 127, 3) := by decide +kernel
theorem dX5_film_39 : decode cX5_film 39 = .ok (.aload_n 0, 1) := by decide +kernel
theorem dX5_film_40 : decode cX5_film 40 = .ok (.getfield 32, 3) := by decide +kernel
theorem dX5_film_43 : decode cX5_film 43 = .ok (.iload_n 1, 1) := by decide +kernel
theorem dX5_film_44 : decode cX5_film 44 = .ok (.aaload, 1) := by decide +kernel
theorem dX5_film_45 : decode cX5_film 45 = .ok (.iconst 1, 1) := by decide +kernel
theorem dX5_film_46 : decode cX5_film 46 = .ok (.iload_n 3, 1) := by decide +kernel
theorem dX5_film_47 : decode cX5_film 47 = .ok (.invokevirtual 186, 3) := by decide +kernel
theorem dX5_film_50 : decode cX5_film 50 = .ok (.iconst 0, 1) := by decide +kernel
theorem dX5_film_51 : decode cX5_film 51 = .ok (.istore 4, 2) := by decide +kernel
theorem dX5_film_53 : decode cX5_film 53 = .ok (.iload 4, 2) := by decide +kernel
theorem dX5_film_55 : decode cX5_film 55 = .ok (.iload_n 3, 1) := by decide +kernel
theorem dX5_film_56 : decode cX5_film 56 = .ok (.if_icmp .ge 33, 3) := by decide +kernel
theorem dX5_film_59 : decode cX5_film 59 = .ok (.aload_n 0, 1) := by decide +kernel
theorem dX5_film_60 : decode cX5_film 60 = .ok (.getfield 32, 3) := by decide +kernel
theorem dX5_film_63 : decode cX5_film 63 = .ok (.iload_n 1, 1) := by decide +kernel
theorem dX5_film_64 : decode cX5_film 64 = .ok (.aaload, 1) := by decide +kernel
theorem dX5_film_65 : decode cX5_film 65 = .ok (.iload 4, 2) := by decide +kernel
theorem dX5_film_67 : decode cX5_film 67 = .ok (.aload_n 0, 1) := by decide +kernel
theorem dX5_film_68 : decode cX5_film 68 = .ok (.getfield 78, 3) := by decide +kernel
theorem dX5_film_71 : decode cX5_film 71 = .ok (.getfield 130, 3) := by decide +kernel
theorem dX5_film_74 : decode cX5_film 74 = .ok (.iload 4, 2) := by decide +kernel
theorem dX5_film_76 : decode cX5_film 76 = .ok (.aaload, 1) := by decide +kernel
theorem dX5_film_77 : decode cX5_film 77 = .ok (.iload_n 2, 1) := by decide +kernel
theorem dX5_film_78 : decode cX5_film 78 = .ok (.iaload, 1) := by decide +kernel
theorem dX5_film_79 : decode cX5_film 79 = .ok (.invokevirtual 190, 3) := by decide +kernel
theorem dX5_film_82 : decode cX5_film 82 = .ok (.pop, 1) := by decide +kernel
theorem dX5_film_83 : decode cX5_film 83 = .ok (.iinc 4 1, 3) := by decide +kernel
theorem dX5_film_86 : decode cX5_film 86 = .ok (.goto (-33), 3) := by decide +kernel
theorem dX5_film_89 : decode cX5_film 89 = .ok (.iload_n 3, 1) := by decide +kernel
theorem dX5_film_90 : decode cX5_film 90 = .ok (.ireturn, 1) := by decide +kernel
theorem dX5_isVisit_0 : decode cX5_isVisit 0 = .ok (.iload_n 1, 1) := by decide +kernel
theorem dX5_isVisit_1 : decode cX5_isVisit 1 = .ok (.ifCond .lt 18, 3) := by decide +kernel
theorem dX5_isVisit_4 : decode cX5_isVisit 4 = .ok (.iload_n 1, 1) := by decide +kernel
theorem dX5_isVisit_5 : decode cX5_isVisit 5 = .ok (.aload_n 0, 1) := by decide +kernel
theorem dX5_isVisit_6 : decode cX5_isVisit 6 = .ok (.getfield 66, 3) := by decide +kernel
theorem dX5_isVisit_9 : decode cX5_isVisit 9 = .ok (.getfield 143, 3) := by decide +kernel
theorem dX5_isVisit_12 : decode cX5_isVisit 12 = .ok (.if_icmp .ge 7, 3) := by decide +kernel
theorem dX5_isVisit_15 : decode cX5_isVisit 15 = .ok (.iconst 1, 1) := by decide +kernel
theorem dX5_isVisit_16 : decode cX5_isVisit 16 = .ok (.goto 4, 3) := by decide +kernel
theorem dX5_isVisit_19 : decode cX5_isVisit 19 = .ok (.iconst 0, 1) := by decide +kernel
theorem dX5_isVisit_20 : decode cX5_isVisit 20 = .ok (.ireturn, 1) := by decide +kernel
theorem dX5_isPlace_0 : decode cX5_isPlace 0 = .ok (.iload_n 0, 1) := by decide +kernel
theorem dX5_isPlace_1 : decode cX5_isPlace 1 = .ok (.ifCond .lt 12, 3) := by decide +kernel
theorem dX5_isPlace_4 : decode cX5_isPlace 4 = .ok (.iload_n 0, 1) := by decide +kernel
theorem dX5_isPlace_5 : decode cX5_isPlace 5 = .ok (.iconst 4, 1) := by decide +kernel
theorem dX5_isPlace_6 : decode cX5_isPlace 6 = .ok (.if_icmp .ge 7, 3) := by decide +kernel
theorem dX5_isPlace_9 : decode cX5_isPlace 9 = .ok (.iconst 1, 1) := by decide +kernel
theorem dX5_isPlace_10 : decode cX5_isPlace 10 = .ok (.goto 4, 3) := by decide +kernel
theorem dX5_isPlace_13 : decode cX5_isPlace 13 = .ok (.iconst 0, 1) := by decide +kernel
theorem dX5_isPlace_14 : decode cX5_isPlace 14 = .ok (.ireturn, 1) := by decide +kernel
theorem dX5_isSheet_0 : decode cX5_isSheet 0 = .ok (.iload_n 0, 1) := by decide +kernel
theorem dX5_isSheet_1 : decode cX5_isSheet 1 = .ok (.ifCond .lt 12, 3) := by decide +kernel
theorem dX5_isSheet_4 : decode cX5_isSheet 4 = .ok (.iload_n 0, 1) := by decide +kernel
theorem dX5_isSheet_5 : decode cX5_isSheet 5 = .ok (.iconst 4, 1) := by decide +kernel
theorem dX5_isSheet_6 : decode cX5_isSheet 6 = .ok (.if_icmp .ge 7, 3) := by decide +kernel
theorem dX5_isSheet_9 : decode cX5_isSheet 9 = .ok (.iconst 1, 1) := by decide +kernel
theorem dX5_isSheet_10 : decode cX5_isSheet 10 = .ok (.goto 4, 3) := by decide +kernel
theorem dX5_isSheet_13 : decode cX5_isSheet 13 = .ok (.iconst 0, 1) := by decide +kernel
theorem dX5_isSheet_14 : decode cX5_isSheet 14 = .ok (.ireturn, 1) := by decide +kernel
theorem dX5_isFirstOrSecond_0 : decode cX5_isFirstOrSecond 0 = .ok (.iload_n 0, 1) := by decide +kernel
theorem dX5_isFirstOrSecond_1 : decode cX5_isFirstOrSecond 1 = .ok (.ifCond .eq 8, 3) := by decide +kernel
theorem dX5_isFirstOrSecond_4 : decode cX5_isFirstOrSecond 4 = .ok (.iload_n 0, 1) := by decide +kernel
theorem dX5_isFirstOrSecond_5 : decode cX5_isFirstOrSecond 5 = .ok (.iconst 1, 1) := by decide +kernel
theorem dX5_isFirstOrSecond_6 : decode cX5_isFirstOrSecond 6 = .ok (.if_icmp .ne 7, 3) := by decide +kernel
theorem dX5_isFirstOrSecond_9 : decode cX5_isFirstOrSecond 9 = .ok (.iconst 1, 1) := by decide +kernel
theorem dX5_isFirstOrSecond_10 : decode cX5_isFirstOrSecond 10 = .ok (.goto 4, 3) := by decide +kernel
theorem dX5_isFirstOrSecond_13 : decode cX5_isFirstOrSecond 13 = .ok (.iconst 0, 1) := by decide +kernel
theorem dX5_isFirstOrSecond_14 : decode cX5_isFirstOrSecond 14 = .ok (.ireturn, 1) := by decide +kernel
theorem dX5_newVisit_0 : decode cX5_newVisit 0 = .ok (.aload_n 0, 1) := by decide +kernel
theorem dX5_newVisit_1 : decode cX5_newVisit 1 = .ok (.getfield 66, 3) := by decide +kernel
theorem dX5_newVisit_4 : decode cX5_newVisit 4 = .ok (.bipush 7, 2) := by decide +kernel
theorem dX5_newVisit_6 : decode cX5_newVisit 6 = .ok (.iload_n 1, 1) := by decide +kernel
theorem dX5_newVisit_7 : decode cX5_newVisit 7 = .ok (.invokevirtual 86, 3) := by decide +kernel
theorem dX5_newVisit_10 : decode cX5_newVisit 10 = .ok (.ifCond .eq 35, 3) := by decide +kernel
theorem dX5_newVisit_13 : decode cX5_newVisit 13 = .ok (.aload_n 0, 1) := by decide +kernel
theorem dX5_newVisit_14 : decode cX5_newVisit 14 = .ok (.getfield 66, 3) := by decide +kernel
theorem dX5_newVisit_17 : decode cX5_newVisit 17 = .ok (.bipush 8, 2) := by decide +kernel
theorem dX5_newVisit_19 : decode cX5_newVisit 19 = .ok (.iload_n 2, 1) := by decide +kernel
theorem dX5_newVisit_20 : decode cX5_newVisit 20 = .ok (.bipush 10, 2) := by decide +kernel
theorem dX5_newVisit_22 : decode cX5_newVisit 22 = .ok (.idiv, 1) := by decide +kernel
theorem dX5_newVisit_23 : decode cX5_newVisit 23 = .ok (.invokevirtual 86, 3) := by decide +kernel
theorem dX5_newVisit_26 : decode cX5_newVisit 26 = .ok (.ifCond .eq 19, 3) := by decide +kernel
theorem dX5_newVisit_29 : decode cX5_newVisit 29 = .ok (.aload_n 0, 1) := by decide +kernel
theorem dX5_newVisit_30 : decode cX5_newVisit 30 = .ok (.getfield 66, 3) := by decide +kernel
theorem dX5_newVisit_33 : decode cX5_newVisit 33 = .ok (.bipush 9, 2) := by decide +kernel
theorem dX5_newVisit_35 : decode cX5_newVisit 35 = .ok (.iload_n 2, 1) := by decide +kernel
theorem dX5_newVisit_36 : decode cX5_newVisit 36 = .ok (.bipush 10, 2) := by decide +kernel
theorem dX5_newVisit_38 : decode cX5_newVisit 38 = .ok (.irem, 1) := by decide +kernel
theorem dX5_newVisit_39 : decode cX5_newVisit 39 = .ok (.invokevirtual 86, 3) := by decide +kernel
theorem dX5_newVisit_42 : decode cX5_newVisit 42 = .ok (.ifCond .ne 6, 3) := by decide +kernel
theorem dX5_newVisit_45 : decode cX5_newVisit 45 = .ok (.bipush (-2), 2) := by decide +kernel
theorem dX5_newVisit_47 : decode cX5_newVisit 47 = .ok (.ireturn, 1) := by decide +kernel
theorem dX5_newVisit_48 : decode cX5_newVisit 48 = .ok (.aload_n 0, 1) := by decide +kernel
theorem dX5_newVisit_49 : decode cX5_newVisit 49 = .ok (.getfield 66, 3) := by decide +kernel
theorem dX5_newVisit_52 : decode cX5_newVisit 52 = .ok (.getfield 143, 3) := by decide +kernel
theorem dX5_newVisit_55 : decode cX5_newVisit 55 = .ok (.bipush 8, 2) := by decide +kernel
theorem dX5_newVisit_57 : decode cX5_newVisit 57 = .ok (.if_icmp .lt 6, 3) := by decide +kernel
theorem dX5_newVisit_60 : decode cX5_newVisit 60 = .ok (.bipush (-4), 2) := by decide +kernel
theorem dX5_newVisit_62 : decode cX5_newVisit 62 = .ok (.ireturn, 1) := by decide +kernel
theorem dX5_newVisit_63 : decode cX5_newVisit 63 = .ok (.aload_n 0, 1) := by decide +kernel
theorem dX5_newVisit_64 : decode cX5_newVisit 64 = .ok (.getfield 66, 3) := by decide +kernel
theorem dX5_newVisit_67 : decode cX5_newVisit 67 = .ok (.getfield 143, 3) := by decide +kernel
theorem dX5_newVisit_70 : decode cX5_newVisit 70 = .ok (.istore_n 3, 1) := by decide +kernel
theorem dX5_newVisit_71 : decode cX5_newVisit 71 = .ok (.aload_n 0, 1) := by decide +kernel
theorem dX5_newVisit_72 : decode cX5_newVisit 72 = .ok (.getfield 66, 3) := by decide +kernel
theorem dX5_newVisit_75 : decode cX5_newVisit 75 = .ok (.dup, 1) := by decide +kernel
theorem dX5_newVisit_76 : decode cX5_newVisit 76 = .ok (.getfield 143, 3) := by decide +kernel
theorem dX5_newVisit_79 : decode cX5_newVisit 79 = .ok (.iconst 1, 1) := by decide +kernel
theorem dX5_newVisit_80 : decode cX5_newVisit 80 = .ok (.iadd, 1) := by decide +kernel
theorem dX5_newVisit_81 : decode cX5_newVisit 81 = .ok (.putfield 143, 3) := by decide +kernel
theorem dX5_newVisit_84 : decode cX5_newVisit 84 = .ok (.aload_n 0, 1) := by decide +kernel
theorem dX5_newVisit_85 : decode cX5_newVisit 85 = .ok (.getfield 66, 3) := by decide +kernel
theorem dX5_newVisit_88 : decode cX5_newVisit 88 = .ok (.bipush 7, 2) := by decide +kernel
theorem dX5_newVisit_90 : decode cX5_newVisit 90 = .ok (.iload_n 3, 1) := by decide +kernel
theorem dX5_newVisit_91 : decode cX5_newVisit 91 = .ok (.iload_n 1, 1) := by decide +kernel
theorem dX5_newVisit_92 : decode cX5_newVisit 92 = .ok (.invokevirtual 92, 3) := by decide +kernel
theorem dX5_newVisit_95 : decode cX5_newVisit 95 = .ok (.aload_n 0, 1) := by decide +kernel
theorem dX5_newVisit_96 : decode cX5_newVisit 96 = .ok (.getfield 66, 3) := by decide +kernel
theorem dX5_newVisit_99 : decode cX5_newVisit 99 = .ok (.bipush 8, 2) := by decide +kernel
theorem dX5_newVisit_101 : decode cX5_newVisit 101 = .ok (.iload_n 3, 1) := by decide +kernel
theorem dX5_newVisit_102 : decode cX5_newVisit 102 = .ok (.iload_n 2, 1) := by decide +kernel
theorem dX5_newVisit_103 : decode cX5_newVisit 103 = .ok (.bipush 10, 2) := by decide +kernel
theorem dX5_newVisit_105 : decode cX5_newVisit 105 = .ok (.idiv, 1) := by decide +kernel
theorem dX5_newVisit_106 : decode cX5_newVisit 106 = .ok (.invokevirtual 92, 3) := by decide +kernel
theorem dX5_newVisit_109 : decode cX5_newVisit 109 = .ok (.aload_n 0, 1) := by decide +kernel
theorem dX5_newVisit_110 : decode cX5_newVisit 110 = .ok (.getfield 66, 3) := by decide +kernel
theorem dX5_newVisit_113 : decode cX5_newVisit 113 = .ok (.bipush 9, 2) := by decide +kernel
theorem dX5_newVisit_115 : decode cX5_newVisit 115 = .ok (.iload_n 3, 1) := by decide +kernel
theorem dX5_newVisit_116 : decode cX5_newVisit 116 = .ok (.iload_n 2, 1) := by decide +kernel
theorem dX5_newVisit_117 : decode cX5_newVisit 117 = .ok (.bipush 10, 2) := by decide +kernel
theorem dX5_newVisit_119 : decode cX5_newVisit 119 = .ok (.irem, 1) := by decide +kernel
theorem dX5_newVisit_120 : decode cX5_newVisit 120 = .ok (.invokevirtual 92, 3) := by decide +kernel
theorem dX5_newVisit_123 : decode cX5_newVisit 123 = .ok (.iload_n 3, 1) := by decide +kernel
theorem dX5_newVisit_124 : decode cX5_newVisit 124 = .ok (.ireturn, 1) := by decide +kernel
theorem dX5_badnessNow_0 : decode cX5_badnessNow 0 = .ok (.aload_n 0, 1) := by decide +kernel
theorem dX5_badnessNow_1 : decode cX5_badnessNow 1 = .ok (.getfield 78, 3) := by decide +kernel
theorem dX5_badnessNow_4 : decode cX5_badnessNow 4 = .ok (.invokevirtual 127, 3) := by decide +kernel
theorem dX5_badnessNow_7 : decode cX5_badnessNow 7 = .ok (.aload_n 0, 1) := by decide +kernel
theorem dX5_badnessNow_8 : decode cX5_badnessNow 8 = .ok (.getfield 78, 3) := by decide +kernel
theorem dX5_badnessNow_11 : decode cX5_badnessNow 11 = .ok (.invokevirtual 134, 3) := by decide +kernel
theorem dX5_badnessNow_14 : decode cX5_badnessNow 14 = .ok (.ireturn, 1) := by decide +kernel
theorem dX5_pictureRefusal_0 : decode cX5_pictureRefusal 0 = .ok (.aload_n 1, 1) := by decide +kernel
theorem dX5_pictureRefusal_1 : decode cX5_pictureRefusal 1 = .ok (.getfield 208, 3) := by decide +kernel
theorem dX5_pictureRefusal_4 : decode cX5_pictureRefusal 4 = .ok (.iconst (-1), 1) := by decide +kernel
theorem dX5_pictureRefusal_5 : decode cX5_pictureRefusal 5 = .ok (.if_icmp .ne 6, 3) := by decide +kernel
theorem dX5_pictureRefusal_8 : decode cX5_pictureRefusal 8 = .ok (.bipush (-11), 2) := by decide +kernel
theorem dX5_pictureRefusal_10 : decode cX5_pictureRefusal 10 = .ok (.ireturn, 1) := by decide +kernel
theorem dX5_pictureRefusal_11 : decode cX5_pictureRefusal 11 = .ok (.aload_n 1, 1) := by decide +kernel
theorem dX5_pictureRefusal_12 : decode cX5_pictureRefusal 12 = .ok (.getfield 231, 3) := by decide +kernel
theorem dX5_pictureRefusal_15 : decode cX5_pictureRefusal 15 = .ok (.aload_n 0, 1) := by decide +kernel
theorem dX5_pictureRefusal_16 : decode cX5_pictureRefusal 16 = .ok (.getfield 66, 3) := by decide +kernel
theorem dX5_pictureRefusal_19 : decode cX5_pictureRefusal 19 = .ok (.getfield 143, 3) := by decide +kernel
theorem dX5_pictureRefusal_22 : decode cX5_pictureRefusal 22 = .ok (.if_icmp .le 8, 3) := by decide +kernel
theorem dX5_pictureRefusal_25 : decode cX5_pictureRefusal 25 = .ok (.bipush (-2), 2) := by decide +kernel
theorem dX5_pictureRefusal_27 : decode cX5_pictureRefusal 27 = .ok (.goto 4, 3) := by decide +kernel
theorem dX5_pictureRefusal_30 : decode cX5_pictureRefusal 30 = .ok (.iconst 0, 1) := by decide +kernel
theorem dX5_pictureRefusal_31 : decode cX5_pictureRefusal 31 = .ok (.ireturn, 1) := by decide +kernel
theorem dX5_rowSeen_0 : decode cX5_rowSeen 0 = .ok (.iload_n 0, 1) := by decide +kernel
theorem dX5_rowSeen_1 : decode cX5_rowSeen 1 = .ok (.tableswitch 42 0 3 #[31, 34, 37, 40], 31) := by decide +kernel
theorem dX5_rowSeen_32 : decode cX5_rowSeen 32 = .ok (.bipush 7, 2) := by decide +kernel
theorem dX5_rowSeen_34 : decode cX5_rowSeen 34 = .ok (.ireturn, 1) := by decide +kernel
theorem dX5_rowSeen_35 : decode cX5_rowSeen 35 = .ok (.bipush 9, 2) := by decide +kernel
theorem dX5_rowSeen_37 : decode cX5_rowSeen 37 = .ok (.ireturn, 1) := by decide +kernel
theorem dX5_rowSeen_38 : decode cX5_rowSeen 38 = .ok (.bipush 8, 2) := by decide +kernel
theorem dX5_rowSeen_40 : decode cX5_rowSeen 40 = .ok (.ireturn, 1) := by decide +kernel
theorem dX5_rowSeen_41 : decode cX5_rowSeen 41 = .ok (.iconst 4, 1) := by decide +kernel
theorem dX5_rowSeen_42 : decode cX5_rowSeen 42 = .ok (.ireturn, 1) := by decide +kernel
theorem dX5_rowSeen_43 : decode cX5_rowSeen 43 = .ok (.iconst 5, 1) := by decide +kernel
theorem dX5_rowSeen_44 : decode cX5_rowSeen 44 = .ok (.ireturn, 1) := by decide +kernel
theorem dX5_valuesSeen_0 : decode cX5_valuesSeen 0 = .ok (.iconst 0, 1) := by decide +kernel
theorem dX5_valuesSeen_1 : decode cX5_valuesSeen 1 = .ok (.istore 5, 2) := by decide +kernel
theorem dX5_valuesSeen_3 : decode cX5_valuesSeen 3 = .ok (.aload_n 0, 1) := by decide +kernel
theorem dX5_valuesSeen_4 : decode cX5_valuesSeen 4 = .ok (.getfield 78, 3) := by decide +kernel
theorem dX5_valuesSeen_7 : decode cX5_valuesSeen 7 = .ok (.invokevirtual 111, 3) := by decide +kernel
theorem dX5_valuesSeen_10 : decode cX5_valuesSeen 10 = .ok (.iconst 0, 1) := by decide +kernel
theorem dX5_valuesSeen_11 : decode cX5_valuesSeen 11 = .ok (.istore 6, 2) := by decide +kernel
theorem dX5_valuesSeen_13 : decode cX5_valuesSeen 13 = .ok (.iload 6, 2) := by decide +kernel
theorem dX5_valuesSeen_15 : decode cX5_valuesSeen 15 = .ok (.aload_n 0, 1) := by decide +kernel
theorem dX5_valuesSeen_16 : decode cX5_valuesSeen 16 = .ok (.getfield 66, 3) := by decide +kernel
theorem dX5_valuesSeen_19 : decode cX5_valuesSeen 19 = .ok (.iload_n 3, 1) := by decide +kernel
theorem dX5_valuesSeen_20 : decode cX5_valuesSeen 20 = .ok (.invokevirtual 232, 3) := by decide +kernel
theorem dX5_valuesSeen_23 : decode cX5_valuesSeen 23 = .ok (.if_icmp .gt 54, 3) := by decide +kernel
theorem dX5_valuesSeen_26 : decode cX5_valuesSeen 26 = .ok (.aload_n 0, 1) := by decide +kernel
theorem dX5_valuesSeen_27 : decode cX5_valuesSeen 27 = .ok (.getfield 78, 3) := by decide +kernel
theorem dX5_valuesSeen_30 : decode cX5_valuesSeen 30 = .ok (.getfield 114, 3) := by decide +kernel
theorem dX5_valuesSeen_33 : decode cX5_valuesSeen 33 = .ok (.iload_n 3, 1) := by decide +kernel
theorem dX5_valuesSeen_34 : decode cX5_valuesSeen 34 = .ok (.iload 4, 2) := by decide +kernel
theorem dX5_valuesSeen_36 : decode cX5_valuesSeen 36 = .ok (.iload 6, 2) := by decide +kernel
theorem dX5_valuesSeen_38 : decode cX5_valuesSeen 38 = .ok (.invokevirtual 92, 3) := by decide +kernel
theorem dX5_valuesSeen_41 : decode cX5_valuesSeen 41 = .ok (.aload_n 0, 1) := by decide +kernel
theorem dX5_valuesSeen_42 : decode cX5_valuesSeen 42 = .ok (.getfield 78, 3) := by decide +kernel
theorem dX5_valuesSeen_45 : decode cX5_valuesSeen 45 = .ok (.iconst 0, 1) := by decide +kernel
theorem dX5_valuesSeen_46 : decode cX5_valuesSeen 46 = .ok (.invokevirtual 149, 3) := by decide +kernel
theorem dX5_valuesSeen_49 : decode cX5_valuesSeen 49 = .ok (.aload_n 0, 1) := by decide +kernel
theorem dX5_valuesSeen_50 : decode cX5_valuesSeen 50 = .ok (.getfield 78, 3) := by decide +kernel
theorem dX5_valuesSeen_53 : decode cX5_valuesSeen 53 = .ok (.aload_n 1, 1) := by decide +kernel
theorem dX5_valuesSeen_54 : decode cX5_valuesSeen 54 = .ok (.iload_n 2, 1) := by decide +kernel
theorem dX5_valuesSeen_55 : decode cX5_valuesSeen 55 = .ok (.invokevirtual 172, 3) := by decide +kernel
theorem dX5_valuesSeen_58 : decode cX5_valuesSeen 58 = .ok (.iconst (-1), 1) := by decide +kernel
theorem dX5_valuesSeen_59 : decode cX5_valuesSeen 59 = .ok (.if_icmp .ne 12, 3) := by decide +kernel
theorem dX5_valuesSeen_62 : decode cX5_valuesSeen 62 = .ok (.iload 5, 2) := by decide +kernel
theorem dX5_valuesSeen_64 : decode cX5_valuesSeen 64 = .ok (.iconst 1, 1) := by decide +kernel
theorem dX5_valuesSeen_65 : decode cX5_valuesSeen 65 = .ok (.iload 6, 2) := by decide +kernel
theorem dX5_valuesSeen_67 : decode cX5_valuesSeen 67 = .ok (.ishl, 1) := by decide +kernel
theorem dX5_valuesSeen_68 : decode cX5_valuesSeen 68 = .ok (.ior, 1) := by decide +kernel
theorem dX5_valuesSeen_69 : decode cX5_valuesSeen 69 = .ok (.istore 5, 2) := by decide +kernel
theorem dX5_valuesSeen_71 : decode cX5_valuesSeen 71 = .ok (.iinc 6 1, 3) := by decide +kernel
theorem dX5_valuesSeen_74 : decode cX5_valuesSeen 74 = .ok (.goto (-61), 3) := by decide +kernel
theorem dX5_valuesSeen_77 : decode cX5_valuesSeen 77 = .ok (.iload 5, 2) := by decide +kernel
theorem dX5_valuesSeen_79 : decode cX5_valuesSeen 79 = .ok (.ireturn, 1) := by decide +kernel
theorem dX5_textsSeen_0 : decode cX5_textsSeen 0 = .ok (.iconst 0, 1) := by decide +kernel
theorem dX5_textsSeen_1 : decode cX5_textsSeen 1 = .ok (.istore_n 3, 1) := by decide +kernel
theorem dX5_textsSeen_2 : decode cX5_textsSeen 2 = .ok (.aload_n 0, 1) := by decide +kernel
theorem dX5_textsSeen_3 : decode cX5_textsSeen 3 = .ok (.getfield 78, 3) := by decide +kernel
theorem dX5_textsSeen_6 : decode cX5_textsSeen 6 = .ok (.invokevirtual 111, 3) := by decide +kernel
theorem dX5_textsSeen_9 : decode cX5_textsSeen 9 = .ok (.iconst 0, 1) := by decide +kernel
theorem dX5_textsSeen_10 : decode cX5_textsSeen 10 = .ok (.istore 4, 2) := by decide +kernel
theorem dX5_textsSeen_12 : decode cX5_textsSeen 12 = .ok (.iload 4, 2) := by decide +kernel
theorem dX5_textsSeen_14 : decode cX5_textsSeen 14 = .ok (.aload_n 0, 1) := by decide +kernel
theorem dX5_textsSeen_15 : decode cX5_textsSeen 15 = .ok (.getfield 15, 3) := by decide +kernel
theorem dX5_textsSeen_18 : decode cX5_textsSeen 18 = .ok (.if_icmp .ge 49, 3) := by decide +kernel
theorem dX5_textsSeen_21 : decode cX5_textsSeen 21 = .ok (.aload_n 0, 1) := by decide +kernel
theorem dX5_textsSeen_22 : decode cX5_textsSeen 22 = .ok (.getfield 78, 3) := by decide +kernel
theorem dX5_textsSeen_25 : decode cX5_textsSeen 25 = .ok (.getfield 114, 3) := by decide +kernel
theorem dX5_textsSeen_28 : decode cX5_textsSeen 28 = .ok (.iload 4, 2) := by decide +kernel
theorem dX5_textsSeen_30 : decode cX5_textsSeen 30 = .ok (.putfield 105, 3) := by decide +kernel
theorem dX5_textsSeen_33 : decode cX5_textsSeen 33 = .ok (.aload_n 0, 1) := by decide +kernel
theorem dX5_textsSeen_34 : decode cX5_textsSeen 34 = .ok (.getfield 78, 3) := by decide +kernel
theorem dX5_textsSeen_37 : decode cX5_textsSeen 37 = .ok (.iconst 0, 1) := by decide +kernel
theorem dX5_textsSeen_38 : decode cX5_textsSeen 38 = .ok (.invokevirtual 149, 3) := by decide +kernel
theorem dX5_textsSeen_41 : decode cX5_textsSeen 41 = .ok (.aload_n 0, 1) := by decide +kernel
theorem dX5_textsSeen_42 : decode cX5_textsSeen 42 = .ok (.getfield 78, 3) := by decide +kernel
theorem dX5_textsSeen_45 : decode cX5_textsSeen 45 = .ok (.aload_n 1, 1) := by decide +kernel
theorem dX5_textsSeen_46 : decode cX5_textsSeen 46 = .ok (.iload_n 2, 1) := by decide +kernel
theorem dX5_textsSeen_47 : decode cX5_textsSeen 47 = .ok (.invokevirtual 172, 3) := by decide +kernel
theorem dX5_textsSeen_50 : decode cX5_textsSeen 50 = .ok (.iconst (-1), 1) := by decide +kernel
theorem dX5_textsSeen_51 : decode cX5_textsSeen 51 = .ok (.if_icmp .ne 10, 3) := by decide +kernel
theorem dX5_textsSeen_54 : decode cX5_textsSeen 54 = .ok (.iload_n 3, 1) := by decide +kernel
theorem dX5_textsSeen_55 : decode cX5_textsSeen 55 = .ok (.iconst 1, 1) := by decide +kernel
theorem dX5_textsSeen_56 : decode cX5_textsSeen 56 = .ok (.iload 4, 2) := by decide +kernel
theorem dX5_textsSeen_58 : decode cX5_textsSeen 58 = .ok (.ishl, 1) := by decide +kernel
theorem dX5_textsSeen_59 : decode cX5_textsSeen 59 = .ok (.ior, 1) := by decide +kernel
theorem dX5_textsSeen_60 : decode cX5_textsSeen 60 = .ok (.istore_n 3, 1) := by decide +kernel
theorem dX5_textsSeen_61 : decode cX5_textsSeen 61 = .ok (.iinc 4 1, 3) := by decide +kernel
theorem dX5_textsSeen_64 : decode cX5_textsSeen 64 = .ok (.goto (-52), 3) := by decide +kernel
theorem dX5_textsSeen_67 : decode cX5_textsSeen 67 = .ok (.iload_n 3, 1) := by decide +kernel
theorem dX5_textsSeen_68 : decode cX5_textsSeen 68 = .ok (.ireturn, 1) := by decide +kernel
theorem dJ9_abs_0f7a4_0 : decode cJ9_abs_0f7a4 0 = .ok (.iload_n 0, 1) := by decide +kernel
theorem dJ9_abs_0f7a4_1 : decode cJ9_abs_0f7a4 1 = .ok (.ifCond .ge 8, 3) := by decide +kernel
theorem dJ9_abs_0f7a4_4 : decode cJ9_abs_0f7a4 4 = .ok (.iload_n 0, 1) := by decide +kernel
theorem dJ9_abs_0f7a4_5 : decode cJ9_abs_0f7a4 5 = .ok (.ineg, 1) := by decide +kernel
theorem dJ9_abs_0f7a4_6 : decode cJ9_abs_0f7a4 6 = .ok (.goto 4, 3) := by decide +kernel
theorem dJ9_abs_0f7a4_9 : decode cJ9_abs_0f7a4 9 = .ok (.iload_n 0, 1) := by decide +kernel
theorem dJ9_abs_0f7a4_10 : decode cJ9_abs_0f7a4 10 = .ok (.ireturn, 1) := by decide +kernel
theorem dJ9_max_7cf53_0 : decode cJ9_max_7cf53 0 = .ok (.iload_n 0, 1) := by decide +kernel
theorem dJ9_max_7cf53_1 : decode cJ9_max_7cf53 1 = .ok (.iload_n 1, 1) := by decide +kernel
theorem dJ9_max_7cf53_2 : decode cJ9_max_7cf53 2 = .ok (.if_icmp .lt 7, 3) := by decide +kernel
theorem dJ9_max_7cf53_5 : decode cJ9_max_7cf53 5 = .ok (.iload_n 0, 1) := by decide +kernel
theorem dJ9_max_7cf53_6 : decode cJ9_max_7cf53 6 = .ok (.goto 4, 3) := by decide +kernel
theorem dJ9_max_7cf53_9 : decode cJ9_max_7cf53 9 = .ok (.iload_n 1, 1) := by decide +kernel
theorem dJ9_max_7cf53_10 : decode cJ9_max_7cf53 10 = .ok (.ireturn, 1) := by decide +kernel
theorem dJ9_min_7cf53_0 : decode cJ9_min_7cf53 0 = .ok (.iload_n 0, 1) := by decide +kernel
theorem dJ9_min_7cf53_1 : decode cJ9_min_7cf53 1 = .ok (.iload_n 1, 1) := by decide +kernel
theorem dJ9_min_7cf53_2 : decode cJ9_min_7cf53 2 = .ok (.if_icmp .gt 7, 3) := by decide +kernel
theorem dJ9_min_7cf53_5 : decode cJ9_min_7cf53 5 = .ok (.iload_n 0, 1) := by decide +kernel
theorem dJ9_min_7cf53_6 : decode cJ9_min_7cf53 6 = .ok (.goto 4, 3) := by decide +kernel
theorem dJ9_min_7cf53_9 : decode cJ9_min_7cf53 9 = .ok (.iload_n 1, 1) := by decide +kernel
theorem dJ9_min_7cf53_10 : decode cJ9_min_7cf53 10 = .ok (.ireturn, 1) := by decide +kernel
theorem dJ0_length_8abf5_0 : decode cJ0_length_8abf5 0 = .ok (.aload_n 0, 1) := by decide +kernel
theorem dJ0_length_8abf5_1 : decode cJ0_length_8abf5 1 = .ok (.getfield 9, 3) := by decide +kernel
theorem dJ0_length_8abf5_4 : decode cJ0_length_8abf5 4 = .ok (.arraylength, 1) := by decide +kernel
theorem dJ0_length_8abf5_5 : decode cJ0_length_8abf5 5 = .ok (.aload_n 0, 1) := by decide +kernel
theorem dJ0_length_8abf5_6 : decode cJ0_length_8abf5 6 = .ok (.invokevirtual 335, 3) := by decide +kernel
theorem dJ0_length_8abf5_9 : decode cJ0_length_8abf5 9 = .ok (.ishr, 1) := by decide +kernel
theorem dJ0_length_8abf5_10 : decode cJ0_length_8abf5 10 = .ok (.ireturn, 1) := by decide +kernel
theorem dJ0_charAt_5068e_0 : decode cJ0_charAt_5068e 0 = .ok (.aload_n 0, 1) := by decide +kernel
theorem dJ0_charAt_5068e_1 : decode cJ0_charAt_5068e 1 = .ok (.invokevirtual 492, 3) := by decide +kernel
theorem dJ0_charAt_5068e_4 : decode cJ0_charAt_5068e 4 = .ok (.ifCond .eq 12, 3) := by decide +kernel
theorem dJ0_charAt_5068e_7 : decode cJ0_charAt_5068e 7 = .ok (.aload_n 0, 1) := by decide +kernel
theorem dJ0_charAt_5068e_8 : decode cJ0_charAt_5068e 8 = .ok (.getfield 9, 3) := by decide +kernel
theorem dJ0_charAt_5068e_11 : decode cJ0_charAt_5068e 11 = .ok (.iload_n 1, 1) := by decide +kernel
theorem dJ0_charAt_5068e_12 : decode cJ0_charAt_5068e 12 = .ok (.invokestatic 495, 3) := by decide +kernel
theorem dJ0_charAt_5068e_15 : decode cJ0_charAt_5068e 15 = .ok (.ireturn, 1) := by decide +kernel
theorem dJ0_charAt_5068e_16 : decode cJ0_charAt_5068e 16 = .ok (.aload_n 0, 1) := by decide +kernel
theorem dJ0_charAt_5068e_17 : decode cJ0_charAt_5068e 17 = .ok (.getfield 9, 3) := by decide +kernel
theorem dJ0_charAt_5068e_20 : decode cJ0_charAt_5068e 20 = .ok (.iload_n 1, 1) := by decide +kernel
theorem dJ0_charAt_5068e_21 : decode cJ0_charAt_5068e 21 = .ok (.invokestatic 498, 3) := by decide +kernel
theorem dJ0_charAt_5068e_24 : decode cJ0_charAt_5068e 24 = .ok (.ireturn, 1) := by decide +kernel
theorem dJ0_coder_7d493_0 : decode cJ0_coder_7d493 0 = .ok (.getstatic 38, 3) := by decide +kernel
theorem dJ0_coder_7d493_3 : decode cJ0_coder_7d493 3 = .ok (.ifCond .eq 10, 3) := by decide +kernel
theorem dJ0_coder_7d493_6 : decode cJ0_coder_7d493 6 = .ok (.aload_n 0, 1) := by decide +kernel
theorem dJ0_coder_7d493_7 : decode cJ0_coder_7d493 7 = .ok (.getfield 15, 3) := by decide +kernel
theorem dJ0_coder_7d493_10 : decode cJ0_coder_7d493 10 = .ok (.goto 4, 3) := by decide +kernel
theorem dJ0_coder_7d493_13 : decode cJ0_coder_7d493 13 = .ok (.iconst 1, 1) := by decide +kernel
theorem dJ0_coder_7d493_14 : decode cJ0_coder_7d493 14 = .ok (.ireturn, 1) := by decide +kernel
theorem dJ0_isLatin1_aae02_0 : decode cJ0_isLatin1_aae02 0 = .ok (.getstatic 38, 3) := by decide +kernel
theorem dJ0_isLatin1_aae02_3 : decode cJ0_isLatin1_aae02 3 = .ok (.ifCond .eq 14, 3) := by decide +kernel
theorem dJ0_isLatin1_aae02_6 : decode cJ0_isLatin1_aae02 6 = .ok (.aload_n 0, 1) := by decide +kernel
theorem dJ0_isLatin1_aae02_7 : decode cJ0_isLatin1_aae02 7 = .ok (.getfield 15, 3) := by decide +kernel
theorem dJ0_isLatin1_aae02_10 : decode cJ0_isLatin1_aae02 10 = .ok (.ifCond .ne 7, 3) := by decide +kernel
theorem dJ0_isLatin1_aae02_13 : decode cJ0_isLatin1_aae02 13 = .ok (.iconst 1, 1) := by decide +kernel
theorem dJ0_isLatin1_aae02_14 : decode cJ0_isLatin1_aae02 14 = .ok (.goto 4, 3) := by decide +kernel
theorem dJ0_isLatin1_aae02_17 : decode cJ0_isLatin1_aae02 17 = .ok (.iconst 0, 1) := by decide +kernel
theorem dJ0_isLatin1_aae02_18 : decode cJ0_isLatin1_aae02 18 = .ok (.ireturn, 1) := by decide +kernel
theorem dJ0_checkIndex_df160_0 : decode cJ0_checkIndex_df160 0 = .ok (.iload_n 0, 1) := by decide +kernel
theorem dJ0_checkIndex_df160_1 : decode cJ0_checkIndex_df160 1 = .ok (.iload_n 1, 1) := by decide +kernel
theorem dJ0_checkIndex_df160_2 : decode cJ0_checkIndex_df160 2 = .ok (.getstatic 1053, 3) := by decide +kernel
theorem dJ0_checkIndex_df160_5 : decode cJ0_checkIndex_df160 5 = .ok (.invokestatic 1059, 3) := by decide +kernel
theorem dJ0_checkIndex_df160_8 : decode cJ0_checkIndex_df160 8 = .ok (.pop, 1) := by decide +kernel
theorem dJ0_checkIndex_df160_9 : decode cJ0_checkIndex_df160 9 = .ok (.return_, 1) := by decide +kernel
theorem dJ1_charAt_3b067_0 : decode cJ1_charAt_3b067 0 = .ok (.iload_n 1, 1) := by decide +kernel
theorem dJ1_charAt_3b067_1 : decode cJ1_charAt_3b067 1 = .ok (.aload_n 0, 1) := by decide +kernel
theorem dJ1_charAt_3b067_2 : decode cJ1_charAt_3b067 2 = .ok (.arraylength, 1) := by decide +kernel
theorem dJ1_charAt_3b067_3 : decode cJ1_charAt_3b067 3 = .ok (.invokestatic 9, 3) := by decide +kernel
theorem dJ1_charAt_3b067_6 : decode cJ1_charAt_3b067 6 = .ok (.aload_n 0, 1) := by decide +kernel
theorem dJ1_charAt_3b067_7 : decode cJ1_charAt_3b067 7 = .ok (.iload_n 1, 1) := by decide +kernel
theorem dJ1_charAt_3b067_8 : decode cJ1_charAt_3b067 8 = .ok (.baload, 1) := by decide +kernel
theorem dJ1_charAt_3b067_9 : decode cJ1_charAt_3b067 9 = .ok (.sipush 255, 3) := by decide +kernel
theorem dJ1_charAt_3b067_12 : decode cJ1_charAt_3b067 12 = .ok (.iand, 1) := by decide +kernel
theorem dJ1_charAt_3b067_13 : decode cJ1_charAt_3b067 13 = .ok (.i2c, 1) := by decide +kernel
theorem dJ1_charAt_3b067_14 : decode cJ1_charAt_3b067 14 = .ok (.ireturn, 1) := by decide +kernel
theorem dJ2_getChar_3b067_0 : decode cJ2_getChar_3b067 0 = .ok (.getstatic 44, 3) := by decide +kernel
theorem dJ2_getChar_3b067_3 : decode cJ2_getChar_3b067 3 = .ok (.ifCond .ne 25, 3) := by decide +kernel
theorem dJ2_getChar_3b067_6 : decode cJ2_getChar_3b067 6 = .ok (.iload_n 1, 1) := by decide +kernel
theorem dJ2_getChar_3b067_7 : decode cJ2_getChar_3b067 7 = .ok (.ifCond .lt 11, 3) := by decide +kernel
theorem dJ2_getChar_3b067_10 : decode cJ2_getChar_3b067 10 = .ok (.iload_n 1, 1) := by decide +kernel
theorem dJ2_getChar_3b067_11 : decode cJ2_getChar_3b067 11 = .ok (.aload_n 0, 1) := by decide +kernel
theorem dJ2_getChar_3b067_12 : decode cJ2_getChar_3b067 12 = .ok (.invokestatic 48, 3) := by decide +kernel
theorem dJ2_getChar_3b067_15 : decode cJ2_getChar_3b067 15 = .ok (.if_icmp .lt 13, 3) := by decide +kernel
theorem dJ2_getChar_3b067_18 : decode cJ2_getChar_3b067 18 = .ok (.new 52, 3) := by decide +kernel
theorem dJ2_getChar_3b067_21 : decode cJ2_getChar_3b067 21 = .ok (.dup, 1) := by decide +kernel
theorem dJ2_getChar_3b067_22 : decode cJ2_getChar_3b067 22 = .ok (.ldc 54, 2) := by decide +kernel
theorem dJ2_getChar_3b067_24 : decode cJ2_getChar_3b067 24 = .ok (.invokespecial 56, 3) := by decide +kernel
theorem dJ2_getChar_3b067_27 : decode cJ2_getChar_3b067 27 = .ok (.athrow, 1) := by decide +kernel
theorem dJ2_getChar_3b067_28 : decode cJ2_getChar_3b067 28 = .ok (.iload_n 1, 1) := by decide +kernel
theorem dJ2_getChar_3b067_29 : decode cJ2_getChar_3b067 29 = .ok (.iconst 1, 1) := by decide +kernel
theorem dJ2_getChar_3b067_30 : decode cJ2_getChar_3b067 30 = .ok (.ishl, 1) := by decide +kernel
theorem dJ2_getChar_3b067_31 : decode cJ2_getChar_3b067 31 = .ok (.istore_n 1, 1) := by decide +kernel
theorem dJ2_getChar_3b067_32 : decode cJ2_getChar_3b067 32 = .ok (.aload_n 0, 1) := by decide +kernel
theorem dJ2_getChar_3b067_33 : decode cJ2_getChar_3b067 33 = .ok (.iload_n 1, 1) := by decide +kernel
theorem dJ2_getChar_3b067_34 : decode cJ2_getChar_3b067 34 = .ok (.iinc 1 1, 3) := by decide +kernel
theorem dJ2_getChar_3b067_37 : decode cJ2_getChar_3b067 37 = .ok (.baload, 1) := by decide +kernel
theorem dJ2_getChar_3b067_38 : decode cJ2_getChar_3b067 38 = .ok (.sipush 255, 3) := by decide +kernel
theorem dJ2_getChar_3b067_41 : decode cJ2_getChar_3b067 41 = .ok (.iand, 1) := by decide +kernel
theorem dJ2_getChar_3b067_42 : decode cJ2_getChar_3b067 42 = .ok (.getstatic 59, 3) := by decide +kernel
theorem dJ2_getChar_3b067_45 : decode cJ2_getChar_3b067 45 = .ok (.ishl, 1) := by decide +kernel
theorem dJ2_getChar_3b067_46 : decode cJ2_getChar_3b067 46 = .ok (.aload_n 0, 1) := by decide +kernel
theorem dJ2_getChar_3b067_47 : decode cJ2_getChar_3b067 47 = .ok (.iload_n 1, 1) := by decide +kernel
theorem dJ2_getChar_3b067_48 : decode cJ2_getChar_3b067 48 = .ok (.baload, 1) := by decide +kernel
theorem dJ2_getChar_3b067_49 : decode cJ2_getChar_3b067 49 = .ok (.sipush 255, 3) := by decide +kernel
theorem dJ2_getChar_3b067_52 : decode cJ2_getChar_3b067 52 = .ok (.iand, 1) := by decide +kernel
theorem dJ2_getChar_3b067_53 : decode cJ2_getChar_3b067 53 = .ok (.getstatic 63, 3) := by decide +kernel
theorem dJ2_getChar_3b067_56 : decode cJ2_getChar_3b067 56 = .ok (.ishl, 1) := by decide +kernel
theorem dJ2_getChar_3b067_57 : decode cJ2_getChar_3b067 57 = .ok (.ior, 1) := by decide +kernel
theorem dJ2_getChar_3b067_58 : decode cJ2_getChar_3b067 58 = .ok (.i2c, 1) := by decide +kernel
theorem dJ2_getChar_3b067_59 : decode cJ2_getChar_3b067 59 = .ok (.ireturn, 1) := by decide +kernel
theorem dJ2_length_9d52b_0 : decode cJ2_length_9d52b 0 = .ok (.aload_n 0, 1) := by decide +kernel
theorem dJ2_length_9d52b_1 : decode cJ2_length_9d52b 1 = .ok (.arraylength, 1) := by decide +kernel
theorem dJ2_length_9d52b_2 : decode cJ2_length_9d52b 2 = .ok (.iconst 1, 1) := by decide +kernel
theorem dJ2_length_9d52b_3 : decode cJ2_length_9d52b 3 = .ok (.ishr, 1) := by decide +kernel
theorem dJ2_length_9d52b_4 : decode cJ2_length_9d52b 4 = .ok (.ireturn, 1) := by decide +kernel
theorem dJ2_charAt_3b067_0 : decode cJ2_charAt_3b067 0 = .ok (.iload_n 1, 1) := by decide +kernel
theorem dJ2_charAt_3b067_1 : decode cJ2_charAt_3b067 1 = .ok (.aload_n 0, 1) := by decide +kernel
theorem dJ2_charAt_3b067_2 : decode cJ2_charAt_3b067 2 = .ok (.invokestatic 67, 3) := by decide +kernel
theorem dJ2_charAt_3b067_5 : decode cJ2_charAt_3b067 5 = .ok (.aload_n 0, 1) := by decide +kernel
theorem dJ2_charAt_3b067_6 : decode cJ2_charAt_3b067 6 = .ok (.iload_n 1, 1) := by decide +kernel
theorem dJ2_charAt_3b067_7 : decode cJ2_charAt_3b067 7 = .ok (.invokestatic 71, 3) := by decide +kernel
theorem dJ2_charAt_3b067_10 : decode cJ2_charAt_3b067 10 = .ok (.ireturn, 1) := by decide +kernel
theorem dJ2_checkIndex_2214a_0 : decode cJ2_checkIndex_2214a 0 = .ok (.iload_n 0, 1) := by decide +kernel
theorem dJ2_checkIndex_2214a_1 : decode cJ2_checkIndex_2214a 1 = .ok (.aload_n 1, 1) := by decide +kernel
theorem dJ2_checkIndex_2214a_2 : decode cJ2_checkIndex_2214a 2 = .ok (.invokestatic 48, 3) := by decide +kernel
theorem dJ2_checkIndex_2214a_5 : decode cJ2_checkIndex_2214a 5 = .ok (.invokestatic 414, 3) := by decide +kernel
theorem dJ2_checkIndex_2214a_8 : decode cJ2_checkIndex_2214a 8 = .ok (.return_, 1) := by decide +kernel
theorem dJ3_checkIndex_8e157_0 : decode cJ3_checkIndex_8e157 0 = .ok (.iload_n 0, 1) := by decide +kernel
theorem dJ3_checkIndex_8e157_1 : decode cJ3_checkIndex_8e157 1 = .ok (.ifCond .lt 8, 3) := by decide +kernel
theorem dJ3_checkIndex_8e157_4 : decode cJ3_checkIndex_8e157 4 = .ok (.iload_n 0, 1) := by decide +kernel
theorem dJ3_checkIndex_8e157_5 : decode cJ3_checkIndex_8e157 5 = .ok (.iload_n 1, 1) := by decide +kernel
theorem dJ3_checkIndex_8e157_6 : decode cJ3_checkIndex_8e157 6 = .ok (.if_icmp .lt 10, 3) := by decide +kernel
theorem dJ3_checkIndex_8e157_9 : decode cJ3_checkIndex_8e157 9 = .ok (.aload_n 2, 1) := by decide +kernel
theorem dJ3_checkIndex_8e157_10 : decode cJ3_checkIndex_8e157 10 = .ok (.iload_n 0, 1) := by decide +kernel
theorem dJ3_checkIndex_8e157_11 : decode cJ3_checkIndex_8e157 11 = .ok (.iload_n 1, 1) := by decide +kernel
theorem dJ3_checkIndex_8e157_12 : decode cJ3_checkIndex_8e157 12 = .ok (.invokestatic 95, 3) := by decide +kernel
theorem dJ3_checkIndex_8e157_15 : decode cJ3_checkIndex_8e157 15 = .ok (.athrow, 1) := by decide +kernel
theorem dJ3_checkIndex_8e157_16 : decode cJ3_checkIndex_8e157 16 = .ok (.iload_n 0, 1) := by decide +kernel
theorem dJ3_checkIndex_8e157_17 : decode cJ3_checkIndex_8e157 17 = .ok (.ireturn, 1) := by decide +kernel
