theorem dSe_boundFor_32 : decode cSe_boundFor 32 = .ok (.aload_n 0, 1) := by decide +kernel
theorem dSe_boundFor_33 : decode cSe_boundFor 33 = .ok (.getfield 29, 3) := by decide +kernel
theorem dSe_boundFor_36 : decode cSe_boundFor 36 = .ok (.iload_n 1, 1) := by decide +kernel
theorem dSe_boundFor_37 : decode cSe_boundFor 37 = .ok (.aload_n 0, 1) := by decide +kernel
theorem dSe_boundFor_38 : decode cSe_boundFor 38 = .ok (.getfield 9, 3) := by decide +kernel
theorem dSe_boundFor_41 : decode cSe_boundFor 41 = .ok (.iload_n 3, 1) := by decide +kernel
theorem dSe_boundFor_42 : decode cSe_boundFor 42 = .ok (.invokevirtual 70, 3) := by decide +kernel
theorem dSe_boundFor_45 : decode cSe_boundFor 45 = .ok (.ireturn, 1) := by decide +kernel
theorem dSh_init_0 : decode cSh_init 0 = .ok (.aload_n 0, 1) := by decide +kernel
theorem dSh_init_1 : decode cSh_init 1 = .ok (.invokespecial 3, 3) := by decide +kernel
theorem dSh_init_4 : decode cSh_init 4 = .ok (.aload_n 0, 1) := by decide +kernel
theorem dSh_init_5 : decode cSh_init 5 = .ok (.bipush 8, 2) := by decide +kernel
theorem dSh_init_7 : decode cSh_init 7 = .ok (.newarray .int, 2) := by decide +kernel
theorem dSh_init_9 : decode cSh_init 9 = .ok (.putfield 9, 3) := by decide +kernel
theorem dSh_init_12 : decode cSh_init 12 = .ok (.aload_n 0, 1) := by decide +kernel
theorem dSh_init_13 : decode cSh_init 13 = .ok (.bipush 8, 2) := by decide +kernel
theorem dSh_init_15 : decode cSh_init 15 = .ok (.newarray .int, 2) := by decide +kernel
theorem dSh_init_17 : decode cSh_init 17 = .ok (.putfield 15, 3) := by decide +kernel
theorem dSh_init_20 : decode cSh_init 20 = .ok (.aload_n 0, 1) := by decide +kernel
theorem dSh_init_21 : decode cSh_init 21 = .ok (.iconst 0, 1) := by decide +kernel
theorem dSh_init_22 : decode cSh_init 22 = .ok (.putfield 18, 3) := by decide +kernel
theorem dSh_init_25 : decode cSh_init 25 = .ok (.aload_n 0, 1) := by decide +kernel
theorem dSh_init_26 : decode cSh_init 26 = .ok (.iconst 1, 1) := by decide +kernel
theorem dSh_init_27 : decode cSh_init 27 = .ok (.putfield 22, 3) := by decide +kernel
theorem dSh_init_30 : decode cSh_init 30 = .ok (.return_, 1) := by decide +kernel
theorem dSh_hasRoomFor_0 : decode cSh_hasRoomFor 0 = .ok (.aload_n 0, 1) := by decide +kernel
theorem dSh_hasRoomFor_1 : decode cSh_hasRoomFor 1 = .ok (.getfield 18, 3) := by decide +kernel
theorem dSh_hasRoomFor_4 : decode cSh_hasRoomFor 4 = .ok (.bipush 8, 2) := by decide +kernel
theorem dSh_hasRoomFor_6 : decode cSh_hasRoomFor 6 = .ok (.if_icmp .ge 19, 3) := by decide +kernel
theorem dSh_hasRoomFor_9 : decode cSh_hasRoomFor 9 = .ok (.aload_n 0, 1) := by decide +kernel
theorem dSh_hasRoomFor_10 : decode cSh_hasRoomFor 10 = .ok (.getfield 22, 3) := by decide +kernel
theorem dSh_hasRoomFor_13 : decode cSh_hasRoomFor 13 = .ok (.iload_n 1, 1) := by decide +kernel
theorem dSh_hasRoomFor_14 : decode cSh_hasRoomFor 14 = .ok (.imul, 1) := by decide +kernel
theorem dSh_hasRoomFor_15 : decode cSh_hasRoomFor 15 = .ok (.sipush 4096, 3) := by decide +kernel
theorem dSh_hasRoomFor_18 : decode cSh_hasRoomFor 18 = .ok (.if_icmp .gt 7, 3) := by decide +kernel
theorem dSh_hasRoomFor_21 : decode cSh_hasRoomFor 21 = .ok (.iconst 1, 1) := by decide +kernel
theorem dSh_hasRoomFor_22 : decode cSh_hasRoomFor 22 = .ok (.goto 4, 3) := by decide +kernel
theorem dSh_hasRoomFor_25 : decode cSh_hasRoomFor 25 = .ok (.iconst 0, 1) := by decide +kernel
theorem dSh_hasRoomFor_26 : decode cSh_hasRoomFor 26 = .ok (.ireturn, 1) := by decide +kernel
theorem dSh_addChoice_0 : decode cSh_addChoice 0 = .ok (.iconst 0, 1) := by decide +kernel
theorem dSh_addChoice_1 : decode cSh_addChoice 1 = .ok (.istore_n 2, 1) := by decide +kernel
theorem dSh_addChoice_2 : decode cSh_addChoice 2 = .ok (.iload_n 2, 1) := by decide +kernel
theorem dSh_addChoice_3 : decode cSh_addChoice 3 = .ok (.aload_n 0, 1) := by decide +kernel
theorem dSh_addChoice_4 : decode cSh_addChoice 4 = .ok (.getfield 18, 3) := by decide +kernel
theorem dSh_addChoice_7 : decode cSh_addChoice 7 = .ok (.if_icmp .ge 19, 3) := by decide +kernel
theorem dSh_addChoice_10 : decode cSh_addChoice 10 = .ok (.aload_n 0, 1) := by decide +kernel
theorem dSh_addChoice_11 : decode cSh_addChoice 11 = .ok (.getfield 15, 3) := by decide +kernel
theorem dSh_addChoice_14 : decode cSh_addChoice 14 = .ok (.iload_n 2, 1) := by decide +kernel
theorem dSh_addChoice_15 : decode cSh_addChoice 15 = .ok (.dup2, 1) := by decide +kernel
theorem dSh_addChoice_16 : decode cSh_addChoice 16 = .ok (.iaload, 1) := by decide +kernel
theorem dSh_addChoice_17 : decode cSh_addChoice 17 = .ok (.iload_n 1, 1) := by decide +kernel
theorem dSh_addChoice_18 : decode cSh_addChoice 18 = .ok (.imul, 1) := by decide +kernel
theorem dSh_addChoice_19 : decode cSh_addChoice 19 = .ok (.iastore, 1) := by decide +kernel
theorem dSh_addChoice_20 : decode cSh_addChoice 20 = .ok (.iinc 2 1, 3) := by decide +kernel
theorem dSh_addChoice_23 : decode cSh_addChoice 23 = .ok (.goto (-21), 3) := by decide +kernel
theorem dSh_addChoice_26 : decode cSh_addChoice 26 = .ok (.aload_n 0, 1) := by decide +kernel
theorem dSh_addChoice_27 : decode cSh_addChoice 27 = .ok (.getfield 9, 3) := by decide +kernel
theorem dSh_addChoice_30 : decode cSh_addChoice 30 = .ok (.aload_n 0, 1) := by decide +kernel
theorem dSh_addChoice_31 : decode cSh_addChoice 31 = .ok (.getfield 18, 3) := by decide +kernel
theorem dSh_addChoice_34 : decode cSh_addChoice 34 = .ok (.iload_n 1, 1) := by decide +kernel
theorem dSh_addChoice_35 : decode cSh_addChoice 35 = .ok (.iastore, 1) := by decide +kernel
theorem dSh_addChoice_36 : decode cSh_addChoice 36 = .ok (.aload_n 0, 1) := by decide +kernel
theorem dSh_addChoice_37 : decode cSh_addChoice 37 = .ok (.getfield 15, 3) := by decide +kernel
theorem dSh_addChoice_40 : decode cSh_addChoice 40 = .ok (.aload_n 0, 1) := by decide +kernel
theorem dSh_addChoice_41 : decode cSh_addChoice 41 = .ok (.getfield 18, 3) := by decide +kernel
theorem dSh_addChoice_44 : decode cSh_addChoice 44 = .ok (.iconst 1, 1) := by decide +kernel
theorem dSh_addChoice_45 : decode cSh_addChoice 45 = .ok (.iastore, 1) := by decide +kernel
theorem dSh_addChoice_46 : decode cSh_addChoice 46 = .ok (.aload_n 0, 1) := by decide +kernel
theorem dSh_addChoice_47 : decode cSh_addChoice 47 = .ok (.dup, 1) := by decide +kernel
theorem dSh_addChoice_48 : decode cSh_addChoice 48 = .ok (.getfield 18, 3) := by decide +kernel
theorem dSh_addChoice_51 : decode cSh_addChoice 51 = .ok (.iconst 1, 1) := by decide +kernel
theorem dSh_addChoice_52 : decode cSh_addChoice 52 = .ok (.iadd, 1) := by decide +kernel
theorem dSh_addChoice_53 : decode cSh_addChoice 53 = .ok (.putfield 18, 3) := by decide +kernel
theorem dSh_addChoice_56 : decode cSh_addChoice 56 = .ok (.aload_n 0, 1) := by decide +kernel
theorem dSh_addChoice_57 : decode cSh_addChoice 57 = .ok (.dup, 1) := by decide +kernel
theorem dSh_addChoice_58 : decode cSh_addChoice 58 = .ok (.getfield 22, 3) := by decide +kernel
theorem dSh_addChoice_61 : decode cSh_addChoice 61 = .ok (.iload_n 1, 1) := by decide +kernel
theorem dSh_addChoice_62 : decode cSh_addChoice 62 = .ok (.imul, 1) := by decide +kernel
theorem dSh_addChoice_63 : decode cSh_addChoice 63 = .ok (.putfield 22, 3) := by decide +kernel
theorem dSh_addChoice_66 : decode cSh_addChoice 66 = .ok (.return_, 1) := by decide +kernel
theorem dSh_hasDesign_0 : decode cSh_hasDesign 0 = .ok (.iload_n 1, 1) := by decide +kernel
theorem dSh_hasDesign_1 : decode cSh_hasDesign 1 = .ok (.ifCond .lt 15, 3) := by decide +kernel
theorem dSh_hasDesign_4 : decode cSh_hasDesign 4 = .ok (.iload_n 1, 1) := by decide +kernel
theorem dSh_hasDesign_5 : decode cSh_hasDesign 5 = .ok (.aload_n 0, 1) := by decide +kernel
theorem dSh_hasDesign_6 : decode cSh_hasDesign 6 = .ok (.getfield 22, 3) := by decide +kernel
theorem dSh_hasDesign_9 : decode cSh_hasDesign 9 = .ok (.if_icmp .ge 7, 3) := by decide +kernel
theorem dSh_hasDesign_12 : decode cSh_hasDesign 12 = .ok (.iconst 1, 1) := by decide +kernel
theorem dSh_hasDesign_13 : decode cSh_hasDesign 13 = .ok (.goto 4, 3) := by decide +kernel
theorem dSh_hasDesign_16 : decode cSh_hasDesign 16 = .ok (.iconst 0, 1) := by decide +kernel
theorem dSh_hasDesign_17 : decode cSh_hasDesign 17 = .ok (.ireturn, 1) := by decide +kernel
theorem dSh_hasChoice_0 : decode cSh_hasChoice 0 = .ok (.iload_n 1, 1) := by decide +kernel
theorem dSh_hasChoice_1 : decode cSh_hasChoice 1 = .ok (.ifCond .lt 15, 3) := by decide +kernel
theorem dSh_hasChoice_4 : decode cSh_hasChoice 4 = .ok (.iload_n 1, 1) := by decide +kernel
theorem dSh_hasChoice_5 : decode cSh_hasChoice 5 = .ok (.aload_n 0, 1) := by decide +kernel
theorem dSh_hasChoice_6 : decode cSh_hasChoice 6 = .ok (.getfield 18, 3) := by decide +kernel
theorem dSh_hasChoice_9 : decode cSh_hasChoice 9 = .ok (.if_icmp .ge 7, 3) := by decide +kernel
theorem dSh_hasChoice_12 : decode cSh_hasChoice 12 = .ok (.iconst 1, 1) := by decide +kernel
theorem dSh_hasChoice_13 : decode cSh_hasChoice 13 = .ok (.goto 4, 3) := by decide +kernel
theorem dSh_hasChoice_16 : decode cSh_hasChoice 16 = .ok (.iconst 0, 1) := by decide +kernel
theorem dSh_hasChoice_17 : decode cSh_hasChoice 17 = .ok (.ireturn, 1) := by decide +kernel
theorem dSh_hasValue_0 : decode cSh_hasValue 0 = .ok (.aload_n 0, 1) := by decide +kernel
theorem dSh_hasValue_1 : decode cSh_hasValue 1 = .ok (.iload_n 1, 1) := by decide +kernel
theorem dSh_hasValue_2 : decode cSh_hasValue 2 = .ok (.invokevirtual 25, 3) := by decide +kernel
theorem dSh_hasValue_5 : decode cSh_hasValue 5 = .ok (.ifCond .eq 21, 3) := by decide +kernel
theorem dSh_hasValue_8 : decode cSh_hasValue 8 = .ok (.iload_n 2, 1) := by decide +kernel
theorem dSh_hasValue_9 : decode cSh_hasValue 9 = .ok (.ifCond .lt 17, 3) := by decide +kernel
theorem dSh_hasValue_12 : decode cSh_hasValue 12 = .ok (.iload_n 2, 1) := by decide +kernel
theorem dSh_hasValue_13 : decode cSh_hasValue 13 = .ok (.aload_n 0, 1) := by decide +kernel
theorem dSh_hasValue_14 : decode cSh_hasValue 14 = .ok (.getfield 9, 3) := by decide +kernel
theorem dSh_hasValue_17 : decode cSh_hasValue 17 = .ok (.iload_n 1, 1) := by decide +kernel
theorem dSh_hasValue_18 : decode cSh_hasValue 18 = .ok (.iaload, 1) := by decide +kernel
theorem dSh_hasValue_19 : decode cSh_hasValue 19 = .ok (.if_icmp .ge 7, 3) := by decide +kernel
theorem dSh_hasValue_22 : decode cSh_hasValue 22 = .ok (.iconst 1, 1) := by decide +kernel
theorem dSh_hasValue_23 : decode cSh_hasValue 23 = .ok (.goto 4, 3) := by decide +kernel
theorem dSh_hasValue_26 : decode cSh_hasValue 26 = .ok (.iconst 0, 1) := by decide +kernel
theorem dSh_hasValue_27 : decode cSh_hasValue 27 = .ok (.ireturn, 1) := by decide +kernel
theorem dSh_digit_0 : decode cSh_digit 0 = .ok (.aload_n 0, 1) := by decide +kernel
theorem dSh_digit_1 : decode cSh_digit 1 = .ok (.getfield 15, 3) := by decide +kernel
theorem dSh_digit_4 : decode cSh_digit 4 = .ok (.iload_n 2, 1) := by decide +kernel
theorem dSh_digit_5 : decode cSh_digit 5 = .ok (.iaload, 1) := by decide +kernel
theorem dSh_digit_6 : decode cSh_digit 6 = .ok (.istore_n 3, 1) := by decide +kernel
theorem dSh_digit_7 : decode cSh_digit 7 = .ok (.aload_n 0, 1) := by decide +kernel
theorem dSh_digit_8 : decode cSh_digit 8 = .ok (.getfield 9, 3) := by decide +kernel
theorem dSh_digit_11 : decode cSh_digit 11 = .ok (.iload_n 2, 1) := by decide +kernel
theorem dSh_digit_12 : decode cSh_digit 12 = .ok (.iaload, 1) := by decide +kernel
theorem dSh_digit_13 : decode cSh_digit 13 = .ok (.istore 4, 2) := by decide +kernel
theorem dSh_digit_15 : decode cSh_digit 15 = .ok (.iload_n 3, 1) := by decide +kernel
theorem dSh_digit_16 : decode cSh_digit 16 = .ok (.ifCond .le 17, 3) := by decide +kernel
theorem dSh_digit_19 : decode cSh_digit 19 = .ok (.iload 4, 2) := by decide +kernel
theorem dSh_digit_21 : decode cSh_digit 21 = .ok (.ifCond .le 12, 3) := by decide +kernel
theorem dSh_digit_24 : decode cSh_digit 24 = .ok (.iload_n 1, 1) := by decide +kernel
theorem dSh_digit_25 : decode cSh_digit 25 = .ok (.iload_n 3, 1) := by decide +kernel
theorem dSh_digit_26 : decode cSh_digit 26 = .ok (.idiv, 1) := by decide +kernel
theorem dSh_digit_27 : decode cSh_digit 27 = .ok (.iload 4, 2) := by decide +kernel
theorem dSh_digit_29 : decode cSh_digit 29 = .ok (.irem, 1) := by decide +kernel
theorem dSh_digit_30 : decode cSh_digit 30 = .ok (.goto 4, 3) := by decide +kernel
theorem dSh_digit_33 : decode cSh_digit 33 = .ok (.iconst 0, 1) := by decide +kernel
theorem dSh_digit_34 : decode cSh_digit 34 = .ok (.ireturn, 1) := by decide +kernel
theorem dSh_designOf_0 : decode cSh_designOf 0 = .ok (.iconst 0, 1) := by decide +kernel
theorem dSh_designOf_1 : decode cSh_designOf 1 = .ok (.istore_n 2, 1) := by decide +kernel
theorem dSh_designOf_2 : decode cSh_designOf 2 = .ok (.iconst 0, 1) := by decide +kernel
theorem dSh_designOf_3 : decode cSh_designOf 3 = .ok (.istore_n 3, 1) := by decide +kernel
theorem dSh_designOf_4 : decode cSh_designOf 4 = .ok (.iload_n 3, 1) := by decide +kernel
theorem dSh_designOf_5 : decode cSh_designOf 5 = .ok (.aload_n 0, 1) := by decide +kernel
theorem dSh_designOf_6 : decode cSh_designOf 6 = .ok (.getfield 18, 3) := by decide +kernel
theorem dSh_designOf_9 : decode cSh_designOf 9 = .ok (.if_icmp .ge 22, 3) := by decide +kernel
theorem dSh_designOf_12 : decode cSh_designOf 12 = .ok (.iload_n 2, 1) := by decide +kernel
theorem dSh_designOf_13 : decode cSh_designOf 13 = .ok (.aload_n 1, 1) := by decide +kernel
theorem dSh_designOf_14 : decode cSh_designOf 14 = .ok (.iload_n 3, 1) := by decide +kernel
theorem dSh_designOf_15 : decode cSh_designOf 15 = .ok (.iaload, 1) := by decide +kernel
theorem dSh_designOf_16 : decode cSh_designOf 16 = .ok (.aload_n 0, 1) := by decide +kernel
theorem dSh_designOf_17 : decode cSh_designOf 17 = .ok (.getfield 15, 3) := by decide +kernel
theorem dSh_designOf_20 : decode cSh_designOf 20 = .ok (.iload_n 3, 1) := by decide +kernel
theorem dSh_designOf_21 : decode cSh_designOf 21 = .ok (.iaload, 1) := by decide +kernel
theorem dSh_designOf_22 : decode cSh_designOf 22 = .ok (.imul, 1) := by decide +kernel
theorem dSh_designOf_23 : decode cSh_designOf 23 = .ok (.iadd, 1) := by decide +kernel
theorem dSh_designOf_24 : decode cSh_designOf 24 = .ok (.istore_n 2, 1) := by decide +kernel
theorem dSh_designOf_25 : decode cSh_designOf 25 = .ok (.iinc 3 1, 3) := by decide +kernel
theorem dSh_designOf_28 : decode cSh_designOf 28 = .ok (.goto (-24), 3) := by decide +kernel
theorem dSh_designOf_31 : decode cSh_designOf 31 = .ok (.iload_n 2, 1) := by decide +kernel
theorem dSh_designOf_32 : decode cSh_designOf 32 = .ok (.ireturn, 1) := by decide +kernel
theorem dSh_neighbours_0 : decode cSh_neighbours 0 = .ok (.iconst 0, 1) := by decide +kernel
theorem dSh_neighbours_1 : decode cSh_neighbours 1 = .ok (.istore_n 1, 1) := by decide +kernel
theorem dSh_neighbours_2 : decode cSh_neighbours 2 = .ok (.iconst 0, 1) := by decide +kernel
theorem dSh_neighbours_3 : decode cSh_neighbours 3 = .ok (.istore_n 2, 1) := by decide +kernel
theorem dSh_neighbours_4 : decode cSh_neighbours 4 = .ok (.iload_n 2, 1) := by decide +kernel
theorem dSh_neighbours_5 : decode cSh_neighbours 5 = .ok (.aload_n 0, 1) := by decide +kernel
theorem dSh_neighbours_6 : decode cSh_neighbours 6 = .ok (.getfield 18, 3) := by decide +kernel
theorem dSh_neighbours_9 : decode cSh_neighbours 9 = .ok (.if_icmp .ge 20, 3) := by decide +kernel
theorem dSh_neighbours_12 : decode cSh_neighbours 12 = .ok (.iload_n 1, 1) := by decide +kernel
theorem dSh_neighbours_13 : decode cSh_neighbours 13 = .ok (.aload_n 0, 1) := by decide +kernel
theorem dSh_neighbours_14 : decode cSh_neighbours 14 = .ok (.getfield 9, 3) := by decide +kernel
theorem dSh_neighbours_17 : decode cSh_neighbours 17 = .ok (.iload_n 2, 1) := by decide +kernel
theorem dSh_neighbours_18 : decode cSh_neighbours 18 = .ok (.iaload, 1) := by decide +kernel
theorem dSh_neighbours_19 : decode cSh_neighbours 19 = .ok (.iconst 1, 1) := by decide +kernel
theorem dSh_neighbours_20 : decode cSh_neighbours 20 = .ok (.isub, 1) := by decide +kernel
theorem dSh_neighbours_21 : decode cSh_neighbours 21 = .ok (.iadd, 1) := by decide +kernel
theorem dSh_neighbours_22 : decode cSh_neighbours 22 = .ok (.istore_n 1, 1) := by decide +kernel
theorem dSh_neighbours_23 : decode cSh_neighbours 23 = .ok (.iinc 2 1, 3) := by decide +kernel
theorem dSh_neighbours_26 : decode cSh_neighbours 26 = .ok (.goto (-22), 3) := by decide +kernel
theorem dSh_neighbours_29 : decode cSh_neighbours 29 = .ok (.iload_n 1, 1) := by decide +kernel
theorem dSh_neighbours_30 : decode cSh_neighbours 30 = .ok (.ireturn, 1) := by decide +kernel
theorem dSh_neighbour_0 : decode cSh_neighbour 0 = .ok (.iload_n 2, 1) := by decide +kernel
theorem dSh_neighbour_1 : decode cSh_neighbour 1 = .ok (.istore_n 3, 1) := by decide +kernel
theorem dSh_neighbour_2 : decode cSh_neighbour 2 = .ok (.iconst 0, 1) := by decide +kernel
theorem dSh_neighbour_3 : decode cSh_neighbour 3 = .ok (.istore 4, 2) := by decide +kernel
theorem dSh_neighbour_5 : decode cSh_neighbour 5 = .ok (.iload 4, 2) := by decide +kernel
theorem dSh_neighbour_7 : decode cSh_neighbour 7 = .ok (.aload_n 0, 1) := by decide +kernel
theorem dSh_neighbour_8 : decode cSh_neighbour 8 = .ok (.getfield 18, 3) := by decide +kernel
theorem dSh_neighbour_11 : decode cSh_neighbour 11 = .ok (.if_icmp .ge 71, 3) := by decide +kernel
theorem dSh_neighbour_14 : decode cSh_neighbour 14 = .ok (.aload_n 0, 1) := by decide +kernel
theorem dSh_neighbour_15 : decode cSh_neighbour 15 = .ok (.getfield 9, 3) := by decide +kernel
theorem dSh_neighbour_18 : decode cSh_neighbour 18 = .ok (.iload 4, 2) := by decide +kernel
theorem dSh_neighbour_20 : decode cSh_neighbour 20 = .ok (.iaload, 1) := by decide +kernel
theorem dSh_neighbour_21 : decode cSh_neighbour 21 = .ok (.iconst 1, 1) := by decide +kernel
theorem dSh_neighbour_22 : decode cSh_neighbour 22 = .ok (.isub, 1) := by decide +kernel
theorem dSh_neighbour_23 : decode cSh_neighbour 23 = .ok (.istore 5, 2) := by decide +kernel
theorem dSh_neighbour_25 : decode cSh_neighbour 25 = .ok (.iload_n 3, 1) := by decide +kernel
theorem dSh_neighbour_26 : decode cSh_neighbour 26 = .ok (.iload 5, 2) := by decide +kernel
theorem dSh_neighbour_28 : decode cSh_neighbour 28 = .ok (.if_icmp .ge 43, 3) := by decide +kernel
theorem dSh_neighbour_31 : decode cSh_neighbour 31 = .ok (.aload_n 0, 1) := by decide +kernel
theorem dSh_neighbour_32 : decode cSh_neighbour 32 = .ok (.iload_n 1, 1) := by decide +kernel
theorem dSh_neighbour_33 : decode cSh_neighbour 33 = .ok (.iload 4, 2) := by decide +kernel
theorem dSh_neighbour_35 : decode cSh_neighbour 35 = .ok (.invokevirtual 29, 3) := by decide +kernel
theorem dSh_neighbour_38 : decode cSh_neighbour 38 = .ok (.istore 6, 2) := by decide +kernel
theorem dSh_neighbour_40 : decode cSh_neighbour 40 = .ok (.iload_n 3, 1) := by decide +kernel
theorem dSh_neighbour_41 : decode cSh_neighbour 41 = .ok (.iload 6, 2) := by decide +kernel
theorem dSh_neighbour_43 : decode cSh_neighbour 43 = .ok (.if_icmp .ge 7, 3) := by decide +kernel
theorem dSh_neighbour_46 : decode cSh_neighbour 46 = .ok (.iload_n 3, 1) := by decide +kernel
theorem dSh_neighbour_47 : decode cSh_neighbour 47 = .ok (.goto 6, 3) := by decide +kernel
theorem dSh_neighbour_50 : decode cSh_neighbour 50 = .ok (.iload_n 3, 1) := by decide +kernel
theorem dSh_neighbour_51 : decode cSh_neighbour 51 = .ok (.iconst 1, 1) := by decide +kernel
theorem dSh_neighbour_52 : decode cSh_neighbour 52 = .ok (.iadd, 1) := by decide +kernel
theorem dSh_neighbour_53 : decode cSh_neighbour 53 = .ok (.istore 7, 2) := by decide +kernel
theorem dSh_neighbour_55 : decode cSh_neighbour 55 = .ok (.iload_n 1, 1) := by decide +kernel
theorem dSh_neighbour_56 : decode cSh_neighbour 56 = .ok (.iload 7, 2) := by decide +kernel
theorem dSh_neighbour_58 : decode cSh_neighbour 58 = .ok (.iload 6, 2) := by decide +kernel
theorem dSh_neighbour_60 : decode cSh_neighbour 60 = .ok (.isub, 1) := by decide +kernel
theorem dSh_neighbour_61 : decode cSh_neighbour 61 = .ok (.aload_n 0, 1) := by decide +kernel
theorem dSh_neighbour_62 : decode cSh_neighbour 62 = .ok (.getfield 15, 3) := by decide +kernel
theorem dSh_neighbour_65 : decode cSh_neighbour 65 = .ok (.iload 4, 2) := by decide +kernel
theorem dSh_neighbour_67 : decode cSh_neighbour 67 = .ok (.iaload, 1) := by decide +kernel
theorem dSh_neighbour_68 : decode cSh_neighbour 68 = .ok (.imul, 1) := by decide +kernel
theorem dSh_neighbour_69 : decode cSh_neighbour 69 = .ok (.iadd, 1) := by decide +kernel
theorem dSh_neighbour_70 : decode cSh_neighbour 70 = .ok (.ireturn, 1) := by decide +kernel
theorem dSh_neighbour_71 : decode cSh_neighbour 71 = .ok (.iload_n 3, 1) := by decide +kernel
theorem dSh_neighbour_72 : decode cSh_neighbour 72 = .ok (.iload 5, 2) := by decide +kernel
theorem dSh_neighbour_74 : decode cSh_neighbour 74 = .ok (.isub, 1) := by decide +kernel
theorem dSh_neighbour_75 : decode cSh_neighbour 75 = .ok (.istore_n 3, 1) := by decide +kernel
theorem dSh_neighbour_76 : decode cSh_neighbour 76 = .ok (.iinc 4 1, 3) := by decide +kernel
theorem dSh_neighbour_79 : decode cSh_neighbour 79 = .ok (.goto (-74), 3) := by decide +kernel
theorem dSh_neighbour_82 : decode cSh_neighbour 82 = .ok (.iload_n 1, 1) := by decide +kernel
theorem dSh_neighbour_83 : decode cSh_neighbour 83 = .ok (.ireturn, 1) := by decide +kernel
theorem dSw_init_0 : decode cSw_init 0 = .ok (.aload_n 0, 1) := by decide +kernel
theorem dSw_init_1 : decode cSw_init 1 = .ok (.invokespecial 1, 3) := by decide +kernel
theorem dSw_init_4 : decode cSw_init 4 = .ok (.aload_n 0, 1) := by decide +kernel
theorem dSw_init_5 : decode cSw_init 5 = .ok (.iconst 0, 1) := by decide +kernel
theorem dSw_init_6 : decode cSw_init 6 = .ok (.putfield 7, 3) := by decide +kernel
theorem dSw_init_9 : decode cSw_init 9 = .ok (.aload_n 0, 1) := by decide +kernel
theorem dSw_init_10 : decode cSw_init 10 = .ok (.iconst 0, 1) := by decide +kernel
theorem dSw_init_11 : decode cSw_init 11 = .ok (.putfield 13, 3) := by decide +kernel
theorem dSw_init_14 : decode cSw_init 14 = .ok (.aload_n 0, 1) := by decide +kernel
theorem dSw_init_15 : decode cSw_init 15 = .ok (.aload_n 1, 1) := by decide +kernel
theorem dSw_init_16 : decode cSw_init 16 = .ok (.putfield 16, 3) := by decide +kernel
theorem dSw_init_19 : decode cSw_init 19 = .ok (.aload_n 0, 1) := by decide +kernel
theorem dSw_init_20 : decode cSw_init 20 = .ok (.aload_n 2, 1) := by decide +kernel
theorem dSw_init_21 : decode cSw_init 21 = .ok (.putfield 20, 3) := by decide +kernel
theorem dSw_init_24 : decode cSw_init 24 = .ok (.return_, 1) := by decide +kernel
theorem dSw_beginAnew_0 : decode cSw_beginAnew 0 = .ok (.aload_n 0, 1) := by decide +kernel
theorem dSw_beginAnew_1 : decode cSw_beginAnew 1 = .ok (.iconst 0, 1) := by decide +kernel
theorem dSw_beginAnew_2 : decode cSw_beginAnew 2 = .ok (.putfield 7, 3) := by decide +kernel
theorem dSw_beginAnew_5 : decode cSw_beginAnew 5 = .ok (.aload_n 0, 1) := by decide +kernel
theorem dSw_beginAnew_6 : decode cSw_beginAnew 6 = .ok (.iconst 0, 1) := by decide +kernel
theorem dSw_beginAnew_7 : decode cSw_beginAnew 7 = .ok (.putfield 13, 3) := by decide +kernel
theorem dSw_beginAnew_10 : decode cSw_beginAnew 10 = .ok (.return_, 1) := by decide +kernel
theorem dSw_isAtEnd_0 : decode cSw_isAtEnd 0 = .ok (.aload_n 0, 1) := by decide +kernel
theorem dSw_isAtEnd_1 : decode cSw_isAtEnd 1 = .ok (.getfield 7, 3) := by decide +kernel
theorem dSw_isAtEnd_4 : decode cSw_isAtEnd 4 = .ok (.aload_n 0, 1) := by decide +kernel
theorem dSw_isAtEnd_5 : decode cSw_isAtEnd 5 = .ok (.getfield 16, 3) := by decide +kernel
theorem dSw_isAtEnd_8 : decode cSw_isAtEnd 8 = .ok (.getfield 24, 3) := by decide +kernel
theorem dSw_isAtEnd_11 : decode cSw_isAtEnd 11 = .ok (.if_icmp .lt 7, 3) := by decide +kernel
theorem dSw_isAtEnd_14 : decode cSw_isAtEnd 14 = .ok (.iconst 1, 1) := by decide +kernel
theorem dSw_isAtEnd_15 : decode cSw_isAtEnd 15 = .ok (.goto 4, 3) := by decide +kernel
theorem dSw_isAtEnd_18 : decode cSw_isAtEnd 18 = .ok (.iconst 0, 1) := by decide +kernel
theorem dSw_isAtEnd_19 : decode cSw_isAtEnd 19 = .ok (.ireturn, 1) := by decide +kernel
theorem dSw_goOn_0 : decode cSw_goOn 0 = .ok (.aload_n 0, 1) := by decide +kernel
theorem dSw_goOn_1 : decode cSw_goOn 1 = .ok (.getfield 7, 3) := by decide +kernel
theorem dSw_goOn_4 : decode cSw_goOn 4 = .ok (.iload_n 1, 1) := by decide +kernel
theorem dSw_goOn_5 : decode cSw_goOn 5 = .ok (.iadd, 1) := by decide +kernel
theorem dSw_goOn_6 : decode cSw_goOn 6 = .ok (.aload_n 0, 1) := by decide +kernel
theorem dSw_goOn_7 : decode cSw_goOn 7 = .ok (.getfield 16, 3) := by decide +kernel
theorem dSw_goOn_10 : decode cSw_goOn 10 = .ok (.getfield 24, 3) := by decide +kernel
theorem dSw_goOn_13 : decode cSw_goOn 13 = .ok (.invokestatic 29, 3) := by decide +kernel
theorem dSw_goOn_16 : decode cSw_goOn 16 = .ok (.istore_n 2, 1) := by decide +kernel
theorem dSw_goOn_17 : decode cSw_goOn 17 = .ok (.iconst 0, 1) := by decide +kernel
theorem dSw_goOn_18 : decode cSw_goOn 18 = .ok (.istore_n 3, 1) := by decide +kernel
theorem dSw_goOn_19 : decode cSw_goOn 19 = .ok (.aload_n 0, 1) := by decide +kernel
theorem dSw_goOn_20 : decode cSw_goOn 20 = .ok (.getfield 7, 3) := by decide +kernel
theorem dSw_goOn_23 : decode cSw_goOn 23 = .ok (.istore 4, 2) := by decide +kernel
theorem dSw_goOn_25 : decode cSw_goOn 25 = .ok (.iload 4, 2) := by decide +kernel
theorem dSw_goOn_27 : decode cSw_goOn 27 = .ok (.iload_n 2, 1) := by decide +kernel
theorem dSw_goOn_28 : decode cSw_goOn 28 = .ok (.if_icmp .ge 24, 3) := by decide +kernel
theorem dSw_goOn_31 : decode cSw_goOn 31 = .ok (.aload_n 0, 1) := by decide +kernel
theorem dSw_goOn_32 : decode cSw_goOn 32 = .ok (.getfield 20, 3) := by decide +kernel
theorem dSw_goOn_35 : decode cSw_goOn 35 = .ok (.iload 4, 2) := by decide +kernel
theorem dSw_goOn_37 : decode cSw_goOn 37 = .ok (.invokevirtual 35, 3) := by decide +kernel
theorem dSw_goOn_40 : decode cSw_goOn 40 = .ok (.ifCond .eq 6, 3) := by decide +kernel
theorem dSw_goOn_43 : decode cSw_goOn 43 = .ok (.iinc 3 1, 3) := by decide +kernel
theorem dSw_goOn_46 : decode cSw_goOn 46 = .ok (.iinc 4 1, 3) := by decide +kernel
theorem dSw_goOn_49 : decode cSw_goOn 49 = .ok (.goto (-24), 3) := by decide +kernel
theorem dSw_goOn_52 : decode cSw_goOn 52 = .ok (.aload_n 0, 1) := by decide +kernel
theorem dSw_goOn_53 : decode cSw_goOn 53 = .ok (.iload_n 2, 1) := by decide +kernel
theorem dSw_goOn_54 : decode cSw_goOn 54 = .ok (.putfield 7, 3) := by decide +kernel
theorem dSw_goOn_57 : decode cSw_goOn 57 = .ok (.aload_n 0, 1) := by decide +kernel
theorem dSw_goOn_58 : decode cSw_goOn 58 = .ok (.dup, 1) := by decide +kernel
theorem dSw_goOn_59 : decode cSw_goOn 59 = .ok (.getfield 13, 3) := by decide +kernel
theorem dSw_goOn_62 : decode cSw_goOn 62 = .ok (.iload_n 3, 1) := by decide +kernel
theorem dSw_goOn_63 : decode cSw_goOn 63 = .ok (.iadd, 1) := by decide +kernel
theorem dSw_goOn_64 : decode cSw_goOn 64 = .ok (.putfield 13, 3) := by decide +kernel
theorem dSw_goOn_67 : decode cSw_goOn 67 = .ok (.iload_n 3, 1) := by decide +kernel
theorem dSw_goOn_68 : decode cSw_goOn 68 = .ok (.ireturn, 1) := by decide +kernel
theorem dWa_init_0 : decode cWa_init 0 = .ok (.aload_n 0, 1) := by decide +kernel
theorem dWa_init_1 : decode cWa_init 1 = .ok (.invokespecial 3, 3) := by decide +kernel
theorem dWa_init_4 : decode cWa_init 4 = .ok (.aload_n 0, 1) := by decide +kernel
theorem dWa_init_5 : decode cWa_init 5 = .ok (.iconst 0, 1) := by decide +kernel
theorem dWa_init_6 : decode cWa_init 6 = .ok (.putfield 9, 3) := by decide +kernel
theorem dWa_init_9 : decode cWa_init 9 = .ok (.aload_n 0, 1) := by decide +kernel
theorem dWa_init_10 : decode cWa_init 10 = .ok (.iconst (-1), 1) := by decide +kernel
theorem dWa_init_11 : decode cWa_init 11 = .ok (.putfield 15, 3) := by decide +kernel
theorem dWa_init_14 : decode cWa_init 14 = .ok (.aload_n 0, 1) := by decide +kernel
theorem dWa_init_15 : decode cWa_init 15 = .ok (.iconst 0, 1) := by decide +kernel
theorem dWa_init_16 : decode cWa_init 16 = .ok (.putfield 18, 3) := by decide +kernel
theorem dWa_init_19 : decode cWa_init 19 = .ok (.aload_n 0, 1) := by decide +kernel
theorem dWa_init_20 : decode cWa_init 20 = .ok (.aload_n 1, 1) := by decide +kernel
theorem dWa_init_21 : decode cWa_init 21 = .ok (.putfield 21, 3) := by decide +kernel
theorem dWa_init_24 : decode cWa_init 24 = .ok (.aload_n 0, 1) := by decide +kernel
theorem dWa_init_25 : decode cWa_init 25 = .ok (.aload_n 2, 1) := by decide +kernel
theorem dWa_init_26 : decode cWa_init 26 = .ok (.putfield 25, 3) := by decide +kernel
theorem dWa_init_29 : decode cWa_init 29 = .ok (.aload_n 0, 1) := by decide +kernel
theorem dWa_init_30 : decode cWa_init 30 = .ok (.iload_n 3, 1) := by decide +kernel
theorem dWa_init_31 : decode cWa_init 31 = .ok (.putfield 29, 3) := by decide +kernel
theorem dWa_init_34 : decode cWa_init 34 = .ok (.return_, 1) := by decide +kernel
theorem dWa_go_0 : decode cWa_go 0 = .ok (.iload_n 1, 1) := by decide +kernel
theorem dWa_go_1 : decode cWa_go 1 = .ok (.istore_n 3, 1) := by decide +kernel
theorem dWa_go_2 : decode cWa_go 2 = .ok (.aload_n 0, 1) := by decide +kernel
theorem dWa_go_3 : decode cWa_go 3 = .ok (.getfield 25, 3) := by decide +kernel
theorem dWa_go_6 : decode cWa_go 6 = .ok (.iload_n 1, 1) := by decide +kernel
theorem dWa_go_7 : decode cWa_go 7 = .ok (.invokevirtual 32, 3) := by decide +kernel
theorem dWa_go_10 : decode cWa_go 10 = .ok (.lstore 4, 2) := by decide +kernel
theorem dWa_go_12 : decode cWa_go 12 = .ok (.lload 4, 2) := by decide +kernel
theorem dWa_go_14 : decode cWa_go 14 = .ok (.lstore 6, 2) := by decide +kernel
theorem dWa_go_16 : decode cWa_go 16 = .ok (.aload_n 0, 1) := by decide +kernel
theorem dWa_go_17 : decode cWa_go 17 = .ok (.iload_n 1, 1) := by decide +kernel
theorem dWa_go_18 : decode cWa_go 18 = .ok (.putfield 15, 3) := by decide +kernel
theorem dWa_go_21 : decode cWa_go 21 = .ok (.aload_n 0, 1) := by decide +kernel
theorem dWa_go_22 : decode cWa_go 22 = .ok (.iconst 0, 1) := by decide +kernel
theorem dWa_go_23 : decode cWa_go 23 = .ok (.putfield 18, 3) := by decide +kernel
theorem dWa_go_26 : decode cWa_go 26 = .ok (.iconst 0, 1) := by decide +kernel
theorem dWa_go_27 : decode cWa_go 27 = .ok (.istore 8, 2) := by decide +kernel
theorem dWa_go_29 : decode cWa_go 29 = .ok (.iload 8, 2) := by decide +kernel
theorem dWa_go_31 : decode cWa_go 31 = .ok (.iload_n 2, 1) := by decide +kernel
theorem dWa_go_32 : decode cWa_go 32 = .ok (.if_icmp .ge 87, 3) := by decide +kernel
theorem dWa_go_35 : decode cWa_go 35 = .ok (.aload_n 0, 1) := by decide +kernel
theorem dWa_go_36 : decode cWa_go 36 = .ok (.iload_n 3, 1) := by decide +kernel
theorem dWa_go_37 : decode cWa_go 37 = .ok (.invokevirtual 38, 3) := by decide +kernel
theorem dWa_go_40 : decode cWa_go 40 = .ok (.istore 9, 2) := by decide +kernel
theorem dWa_go_42 : decode cWa_go 42 = .ok (.aload_n 0, 1) := by decide +kernel
theorem dWa_go_43 : decode cWa_go 43 = .ok (.getfield 25, 3) := by decide +kernel
theorem dWa_go_46 : decode cWa_go 46 = .ok (.iload 9, 2) := by decide +kernel
theorem dWa_go_48 : decode cWa_go 48 = .ok (.invokevirtual 32, 3) := by decide +kernel
theorem dWa_go_51 : decode cWa_go 51 = .ok (.lstore 10, 2) := by decide +kernel
theorem dWa_go_53 : decode cWa_go 53 = .ok (.aload_n 0, 1) := by decide +kernel
theorem dWa_go_54 : decode cWa_go 54 = .ok (.getfield 25, 3) := by decide +kernel
theorem dWa_go_57 : decode cWa_go 57 = .ok (.iload 9, 2) := by decide +kernel
theorem dWa_go_59 : decode cWa_go 59 = .ok (.invokevirtual 42, 3) := by decide +kernel
theorem dWa_go_62 : decode cWa_go 62 = .ok (.ifCond .eq 51, 3) := by decide +kernel
theorem dWa_go_65 : decode cWa_go 65 = .ok (.lload 10, 2) := by decide +kernel
theorem dWa_go_67 : decode cWa_go 67 = .ok (.lload 4, 2) := by decide +kernel
theorem dWa_go_69 : decode cWa_go 69 = .ok (.aload_n 0, 1) := by decide +kernel
theorem dWa_go_70 : decode cWa_go 70 = .ok (.getfield 9, 3) := by decide +kernel
theorem dWa_go_73 : decode cWa_go 73 = .ok (.i2l, 1) := by decide +kernel
theorem dWa_go_74 : decode cWa_go 74 = .ok (.ladd, 1) := by decide +kernel
theorem dWa_go_75 : decode cWa_go 75 = .ok (.lcmp, 1) := by decide +kernel
theorem dWa_go_76 : decode cWa_go 76 = .ok (.ifCond .gt 37, 3) := by decide +kernel
theorem dWa_go_79 : decode cWa_go 79 = .ok (.iload 9, 2) := by decide +kernel
theorem dWa_go_81 : decode cWa_go 81 = .ok (.istore_n 3, 1) := by decide +kernel
theorem dWa_go_82 : decode cWa_go 82 = .ok (.lload 10, 2) := by decide +kernel
theorem dWa_go_84 : decode cWa_go 84 = .ok (.lstore 4, 2) := by decide +kernel
theorem dWa_go_86 : decode cWa_go 86 = .ok (.aload_n 0, 1) := by decide +kernel
theorem dWa_go_87 : decode cWa_go 87 = .ok (.dup, 1) := by decide +kernel
theorem dWa_go_88 : decode cWa_go 88 = .ok (.getfield 18, 3) := by decide +kernel
theorem dWa_go_91 : decode cWa_go 91 = .ok (.iconst 1, 1) := by decide +kernel
theorem dWa_go_92 : decode cWa_go 92 = .ok (.iadd, 1) := by decide +kernel
theorem dWa_go_93 : decode cWa_go 93 = .ok (.putfield 18, 3) := by decide +kernel
theorem dWa_go_96 : decode cWa_go 96 = .ok (.lload 4, 2) := by decide +kernel
theorem dWa_go_98 : decode cWa_go 98 = .ok (.lload 6, 2) := by decide +kernel
theorem dWa_go_100 : decode cWa_go 100 = .ok (.lcmp, 1) := by decide +kernel
theorem dWa_go_101 : decode cWa_go 101 = .ok (.ifCond .ge 12, 3) := by decide +kernel
theorem dWa_go_104 : decode cWa_go 104 = .ok (.lload 4, 2) := by decide +kernel
theorem dWa_go_106 : decode cWa_go 106 = .ok (.lstore 6, 2) := by decide +kernel
theorem dWa_go_108 : decode cWa_go 108 = .ok (.aload_n 0, 1) := by decide +kernel
theorem dWa_go_109 : decode cWa_go 109 = .ok (.iload_n 3, 1) := by decide +kernel
theorem dWa_go_110 : decode cWa_go 110 = .ok (.putfield 15, 3) := by decide +kernel
theorem dWa_go_113 : decode cWa_go 113 = .ok (.iinc 8 1, 3) := by decide +kernel
theorem dWa_go_116 : decode cWa_go 116 = .ok (.goto (-87), 3) := by decide +kernel
theorem dWa_go_119 : decode cWa_go 119 = .ok (.iload_n 3, 1) := by decide +kernel
theorem dWa_go_120 : decode cWa_go 120 = .ok (.ireturn, 1) := by decide +kernel
theorem dWa_drawNear_0 : decode cWa_drawNear 0 = .ok (.aload_n 0, 1) := by decide +kernel
theorem dWa_drawNear_1 : decode cWa_drawNear 1 = .ok (.ldc 46, 2) := by decide +kernel
theorem dWa_drawNear_3 : decode cWa_drawNear 3 = .ok (.aload_n 0, 1) := by decide +kernel
theorem dWa_drawNear_4 : decode cWa_drawNear 4 = .ok (.getfield 29, 3) := by decide +kernel
theorem dWa_drawNear_7 : decode cWa_drawNear 7 = .ok (.imul, 1) := by decide +kernel
theorem dWa_drawNear_8 : decode cWa_drawNear 8 = .ok (.sipush 12345, 3) := by decide +kernel
theorem dWa_drawNear_11 : decode cWa_drawNear 11 = .ok (.iadd, 1) := by decide +kernel
theorem dWa_drawNear_12 : decode cWa_drawNear 12 = .ok (.ldc 47, 2) := by decide +kernel
theorem dWa_drawNear_14 : decode cWa_drawNear 14 = .ok (.iand, 1) := by decide +kernel
theorem dWa_drawNear_15 : decode cWa_drawNear 15 = .ok (.putfield 29, 3) := by decide +kernel
theorem dWa_drawNear_18 : decode cWa_drawNear 18 = .ok (.aload_n 0, 1) := by decide +kernel
theorem dWa_drawNear_19 : decode cWa_drawNear 19 = .ok (.getfield 21, 3) := by decide +kernel
theorem dWa_drawNear_22 : decode cWa_drawNear 22 = .ok (.invokevirtual 48, 3) := by decide +kernel
