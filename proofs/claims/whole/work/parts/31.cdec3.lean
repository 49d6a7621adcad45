theorem dFr_headFor_16 : decode cFr_headFor 16 = .ok (.istore_n 3, 1) := by decide +kernel
theorem dFr_headFor_17 : decode cFr_headFor 17 = .ok (.aload_n 0, 1) := by decide +kernel
theorem dFr_headFor_18 : decode cFr_headFor 18 = .ok (.getfield 30, 3) := by decide +kernel
theorem dFr_headFor_21 : decode cFr_headFor 21 = .ok (.iload_n 3, 1) := by decide +kernel
theorem dFr_headFor_22 : decode cFr_headFor 22 = .ok (.iload_n 1, 1) := by decide +kernel
theorem dFr_headFor_23 : decode cFr_headFor 23 = .ok (.invokevirtual 59, 3) := by decide +kernel
theorem dFr_headFor_26 : decode cFr_headFor 26 = .ok (.ifCond .eq 21, 3) := by decide +kernel
theorem dFr_headFor_29 : decode cFr_headFor 29 = .ok (.aload_n 0, 1) := by decide +kernel
theorem dFr_headFor_30 : decode cFr_headFor 30 = .ok (.getfield 30, 3) := by decide +kernel
theorem dFr_headFor_33 : decode cFr_headFor 33 = .ok (.iload_n 1, 1) := by decide +kernel
theorem dFr_headFor_34 : decode cFr_headFor 34 = .ok (.iload_n 3, 1) := by decide +kernel
theorem dFr_headFor_35 : decode cFr_headFor 35 = .ok (.invokevirtual 59, 3) := by decide +kernel
theorem dFr_headFor_38 : decode cFr_headFor 38 = .ok (.ifCond .eq 7, 3) := by decide +kernel
theorem dFr_headFor_41 : decode cFr_headFor 41 = .ok (.iload_n 3, 1) := by decide +kernel
theorem dFr_headFor_42 : decode cFr_headFor 42 = .ok (.goto 4, 3) := by decide +kernel
theorem dFr_headFor_45 : decode cFr_headFor 45 = .ok (.iconst (-1), 1) := by decide +kernel
theorem dFr_headFor_46 : decode cFr_headFor 46 = .ok (.ireturn, 1) := by decide +kernel
theorem dFr_headFor_47 : decode cFr_headFor 47 = .ok (.iinc 2 1, 3) := by decide +kernel
theorem dFr_headFor_50 : decode cFr_headFor 50 = .ok (.goto (-48), 3) := by decide +kernel
theorem dFr_headFor_53 : decode cFr_headFor 53 = .ok (.iload_n 1, 1) := by decide +kernel
theorem dFr_headFor_54 : decode cFr_headFor 54 = .ok (.ireturn, 1) := by decide +kernel
theorem dFr_dropBeatenBy_0 : decode cFr_dropBeatenBy 0 = .ok (.iconst 0, 1) := by decide +kernel
theorem dFr_dropBeatenBy_1 : decode cFr_dropBeatenBy 1 = .ok (.istore_n 2, 1) := by decide +kernel
theorem dFr_dropBeatenBy_2 : decode cFr_dropBeatenBy 2 = .ok (.iconst 0, 1) := by decide +kernel
theorem dFr_dropBeatenBy_3 : decode cFr_dropBeatenBy 3 = .ok (.istore_n 3, 1) := by decide +kernel
theorem dFr_dropBeatenBy_4 : decode cFr_dropBeatenBy 4 = .ok (.iload_n 3, 1) := by decide +kernel
theorem dFr_dropBeatenBy_5 : decode cFr_dropBeatenBy 5 = .ok (.aload_n 0, 1) := by decide +kernel
theorem dFr_dropBeatenBy_6 : decode cFr_dropBeatenBy 6 = .ok (.getfield 18, 3) := by decide +kernel
theorem dFr_dropBeatenBy_9 : decode cFr_dropBeatenBy 9 = .ok (.if_icmp .ge 52, 3) := by decide +kernel
theorem dFr_dropBeatenBy_12 : decode cFr_dropBeatenBy 12 = .ok (.aload_n 0, 1) := by decide +kernel
theorem dFr_dropBeatenBy_13 : decode cFr_dropBeatenBy 13 = .ok (.getfield 9, 3) := by decide +kernel
theorem dFr_dropBeatenBy_16 : decode cFr_dropBeatenBy 16 = .ok (.iload_n 3, 1) := by decide +kernel
theorem dFr_dropBeatenBy_17 : decode cFr_dropBeatenBy 17 = .ok (.iaload, 1) := by decide +kernel
theorem dFr_dropBeatenBy_18 : decode cFr_dropBeatenBy 18 = .ok (.istore 4, 2) := by decide +kernel
theorem dFr_dropBeatenBy_20 : decode cFr_dropBeatenBy 20 = .ok (.aload_n 0, 1) := by decide +kernel
theorem dFr_dropBeatenBy_21 : decode cFr_dropBeatenBy 21 = .ok (.getfield 30, 3) := by decide +kernel
theorem dFr_dropBeatenBy_24 : decode cFr_dropBeatenBy 24 = .ok (.iload_n 1, 1) := by decide +kernel
theorem dFr_dropBeatenBy_25 : decode cFr_dropBeatenBy 25 = .ok (.iload 4, 2) := by decide +kernel
theorem dFr_dropBeatenBy_27 : decode cFr_dropBeatenBy 27 = .ok (.invokevirtual 59, 3) := by decide +kernel
theorem dFr_dropBeatenBy_30 : decode cFr_dropBeatenBy 30 = .ok (.ifCond .eq 14, 3) := by decide +kernel
theorem dFr_dropBeatenBy_33 : decode cFr_dropBeatenBy 33 = .ok (.aload_n 0, 1) := by decide +kernel
theorem dFr_dropBeatenBy_34 : decode cFr_dropBeatenBy 34 = .ok (.getfield 15, 3) := by decide +kernel
theorem dFr_dropBeatenBy_37 : decode cFr_dropBeatenBy 37 = .ok (.iload 4, 2) := by decide +kernel
theorem dFr_dropBeatenBy_39 : decode cFr_dropBeatenBy 39 = .ok (.iconst (-1), 1) := by decide +kernel
theorem dFr_dropBeatenBy_40 : decode cFr_dropBeatenBy 40 = .ok (.iastore, 1) := by decide +kernel
theorem dFr_dropBeatenBy_41 : decode cFr_dropBeatenBy 41 = .ok (.goto 14, 3) := by decide +kernel
theorem dFr_dropBeatenBy_44 : decode cFr_dropBeatenBy 44 = .ok (.aload_n 0, 1) := by decide +kernel
theorem dFr_dropBeatenBy_45 : decode cFr_dropBeatenBy 45 = .ok (.getfield 9, 3) := by decide +kernel
theorem dFr_dropBeatenBy_48 : decode cFr_dropBeatenBy 48 = .ok (.iload_n 2, 1) := by decide +kernel
theorem dFr_dropBeatenBy_49 : decode cFr_dropBeatenBy 49 = .ok (.iload 4, 2) := by decide +kernel
theorem dFr_dropBeatenBy_51 : decode cFr_dropBeatenBy 51 = .ok (.iastore, 1) := by decide +kernel
theorem dFr_dropBeatenBy_52 : decode cFr_dropBeatenBy 52 = .ok (.iinc 2 1, 3) := by decide +kernel
theorem dFr_dropBeatenBy_55 : decode cFr_dropBeatenBy 55 = .ok (.iinc 3 1, 3) := by decide +kernel
theorem dFr_dropBeatenBy_58 : decode cFr_dropBeatenBy 58 = .ok (.goto (-54), 3) := by decide +kernel
theorem dFr_dropBeatenBy_61 : decode cFr_dropBeatenBy 61 = .ok (.aload_n 0, 1) := by decide +kernel
theorem dFr_dropBeatenBy_62 : decode cFr_dropBeatenBy 62 = .ok (.iload_n 2, 1) := by decide +kernel
theorem dFr_dropBeatenBy_63 : decode cFr_dropBeatenBy 63 = .ok (.putfield 18, 3) := by decide +kernel
theorem dFr_dropBeatenBy_66 : decode cFr_dropBeatenBy 66 = .ok (.return_, 1) := by decide +kernel
theorem dFr_collectMembers_0 : decode cFr_collectMembers 0 = .ok (.aload_n 0, 1) := by decide +kernel
theorem dFr_collectMembers_1 : decode cFr_collectMembers 1 = .ok (.iconst 0, 1) := by decide +kernel
theorem dFr_collectMembers_2 : decode cFr_collectMembers 2 = .ok (.putfield 18, 3) := by decide +kernel
theorem dFr_collectMembers_5 : decode cFr_collectMembers 5 = .ok (.iconst 0, 1) := by decide +kernel
theorem dFr_collectMembers_6 : decode cFr_collectMembers 6 = .ok (.istore_n 1, 1) := by decide +kernel
theorem dFr_collectMembers_7 : decode cFr_collectMembers 7 = .ok (.iload_n 1, 1) := by decide +kernel
theorem dFr_collectMembers_8 : decode cFr_collectMembers 8 = .ok (.aload_n 0, 1) := by decide +kernel
theorem dFr_collectMembers_9 : decode cFr_collectMembers 9 = .ok (.getfield 26, 3) := by decide +kernel
theorem dFr_collectMembers_12 : decode cFr_collectMembers 12 = .ok (.getfield 40, 3) := by decide +kernel
theorem dFr_collectMembers_15 : decode cFr_collectMembers 15 = .ok (.if_icmp .ge 51, 3) := by decide +kernel
theorem dFr_collectMembers_18 : decode cFr_collectMembers 18 = .ok (.aload_n 0, 1) := by decide +kernel
theorem dFr_collectMembers_19 : decode cFr_collectMembers 19 = .ok (.getfield 15, 3) := by decide +kernel
theorem dFr_collectMembers_22 : decode cFr_collectMembers 22 = .ok (.iload_n 1, 1) := by decide +kernel
theorem dFr_collectMembers_23 : decode cFr_collectMembers 23 = .ok (.iaload, 1) := by decide +kernel
theorem dFr_collectMembers_24 : decode cFr_collectMembers 24 = .ok (.istore_n 2, 1) := by decide +kernel
theorem dFr_collectMembers_25 : decode cFr_collectMembers 25 = .ok (.iload_n 2, 1) := by decide +kernel
theorem dFr_collectMembers_26 : decode cFr_collectMembers 26 = .ok (.iconst (-1), 1) := by decide +kernel
theorem dFr_collectMembers_27 : decode cFr_collectMembers 27 = .ok (.if_icmp .eq 33, 3) := by decide +kernel
theorem dFr_collectMembers_30 : decode cFr_collectMembers 30 = .ok (.aload_n 0, 1) := by decide +kernel
theorem dFr_collectMembers_31 : decode cFr_collectMembers 31 = .ok (.getfield 15, 3) := by decide +kernel
theorem dFr_collectMembers_34 : decode cFr_collectMembers 34 = .ok (.iload_n 2, 1) := by decide +kernel
theorem dFr_collectMembers_35 : decode cFr_collectMembers 35 = .ok (.iaload, 1) := by decide +kernel
theorem dFr_collectMembers_36 : decode cFr_collectMembers 36 = .ok (.iconst (-1), 1) := by decide +kernel
theorem dFr_collectMembers_37 : decode cFr_collectMembers 37 = .ok (.if_icmp .eq 23, 3) := by decide +kernel
theorem dFr_collectMembers_40 : decode cFr_collectMembers 40 = .ok (.aload_n 0, 1) := by decide +kernel
theorem dFr_collectMembers_41 : decode cFr_collectMembers 41 = .ok (.getfield 9, 3) := by decide +kernel
theorem dFr_collectMembers_44 : decode cFr_collectMembers 44 = .ok (.aload_n 0, 1) := by decide +kernel
theorem dFr_collectMembers_45 : decode cFr_collectMembers 45 = .ok (.getfield 18, 3) := by decide +kernel
theorem dFr_collectMembers_48 : decode cFr_collectMembers 48 = .ok (.iload_n 1, 1) := by decide +kernel
theorem dFr_collectMembers_49 : decode cFr_collectMembers 49 = .ok (.iastore, 1) := by decide +kernel
theorem dFr_collectMembers_50 : decode cFr_collectMembers 50 = .ok (.aload_n 0, 1) := by decide +kernel
theorem dFr_collectMembers_51 : decode cFr_collectMembers 51 = .ok (.dup, 1) := by decide +kernel
theorem dFr_collectMembers_52 : decode cFr_collectMembers 52 = .ok (.getfield 18, 3) := by decide +kernel
theorem dFr_collectMembers_55 : decode cFr_collectMembers 55 = .ok (.iconst 1, 1) := by decide +kernel
theorem dFr_collectMembers_56 : decode cFr_collectMembers 56 = .ok (.iadd, 1) := by decide +kernel
theorem dFr_collectMembers_57 : decode cFr_collectMembers 57 = .ok (.putfield 18, 3) := by decide +kernel
theorem dFr_collectMembers_60 : decode cFr_collectMembers 60 = .ok (.iinc 1 1, 3) := by decide +kernel
theorem dFr_collectMembers_63 : decode cFr_collectMembers 63 = .ok (.goto (-56), 3) := by decide +kernel
theorem dFr_collectMembers_66 : decode cFr_collectMembers 66 = .ok (.return_, 1) := by decide +kernel
theorem dMa_init_0 : decode cMa_init 0 = .ok (.aload_n 0, 1) := by decide +kernel
theorem dMa_init_1 : decode cMa_init 1 = .ok (.invokespecial 3, 3) := by decide +kernel
theorem dMa_init_4 : decode cMa_init 4 = .ok (.aload_n 0, 1) := by decide +kernel
theorem dMa_init_5 : decode cMa_init 5 = .ok (.sipush 440, 3) := by decide +kernel
theorem dMa_init_8 : decode cMa_init 8 = .ok (.newarray .int, 2) := by decide +kernel
theorem dMa_init_10 : decode cMa_init 10 = .ok (.putfield 9, 3) := by decide +kernel
theorem dMa_init_13 : decode cMa_init 13 = .ok (.aload_n 0, 1) := by decide +kernel
theorem dMa_init_14 : decode cMa_init 14 = .ok (.sipush 440, 3) := by decide +kernel
theorem dMa_init_17 : decode cMa_init 17 = .ok (.newarray .int, 2) := by decide +kernel
theorem dMa_init_19 : decode cMa_init 19 = .ok (.putfield 15, 3) := by decide +kernel
theorem dMa_init_22 : decode cMa_init 22 = .ok (.aload_n 0, 1) := by decide +kernel
theorem dMa_init_23 : decode cMa_init 23 = .ok (.sipush 440, 3) := by decide +kernel
theorem dMa_init_26 : decode cMa_init 26 = .ok (.newarray .int, 2) := by decide +kernel
theorem dMa_init_28 : decode cMa_init 28 = .ok (.putfield 18, 3) := by decide +kernel
theorem dMa_init_31 : decode cMa_init 31 = .ok (.aload_n 0, 1) := by decide +kernel
theorem dMa_init_32 : decode cMa_init 32 = .ok (.sipush 440, 3) := by decide +kernel
theorem dMa_init_35 : decode cMa_init 35 = .ok (.newarray .int, 2) := by decide +kernel
theorem dMa_init_37 : decode cMa_init 37 = .ok (.putfield 21, 3) := by decide +kernel
theorem dMa_init_40 : decode cMa_init 40 = .ok (.aload_n 0, 1) := by decide +kernel
theorem dMa_init_41 : decode cMa_init 41 = .ok (.aload_n 1, 1) := by decide +kernel
theorem dMa_init_42 : decode cMa_init 42 = .ok (.putfield 24, 3) := by decide +kernel
theorem dMa_init_45 : decode cMa_init 45 = .ok (.return_, 1) := by decide +kernel
theorem dMa_put_0 : decode cMa_put 0 = .ok (.aload_n 0, 1) := by decide +kernel
theorem dMa_put_1 : decode cMa_put 1 = .ok (.getfield 9, 3) := by decide +kernel
theorem dMa_put_4 : decode cMa_put 4 = .ok (.iload_n 1, 1) := by decide +kernel
theorem dMa_put_5 : decode cMa_put 5 = .ok (.iload_n 2, 1) := by decide +kernel
theorem dMa_put_6 : decode cMa_put 6 = .ok (.iastore, 1) := by decide +kernel
theorem dMa_put_7 : decode cMa_put 7 = .ok (.aload_n 0, 1) := by decide +kernel
theorem dMa_put_8 : decode cMa_put 8 = .ok (.getfield 15, 3) := by decide +kernel
theorem dMa_put_11 : decode cMa_put 11 = .ok (.iload_n 1, 1) := by decide +kernel
theorem dMa_put_12 : decode cMa_put 12 = .ok (.iload_n 3, 1) := by decide +kernel
theorem dMa_put_13 : decode cMa_put 13 = .ok (.iastore, 1) := by decide +kernel
theorem dMa_put_14 : decode cMa_put 14 = .ok (.aload_n 0, 1) := by decide +kernel
theorem dMa_put_15 : decode cMa_put 15 = .ok (.getfield 18, 3) := by decide +kernel
theorem dMa_put_18 : decode cMa_put 18 = .ok (.iload_n 1, 1) := by decide +kernel
theorem dMa_put_19 : decode cMa_put 19 = .ok (.iload 4, 2) := by decide +kernel
theorem dMa_put_21 : decode cMa_put 21 = .ok (.iastore, 1) := by decide +kernel
theorem dMa_put_22 : decode cMa_put 22 = .ok (.aload_n 0, 1) := by decide +kernel
theorem dMa_put_23 : decode cMa_put 23 = .ok (.getfield 21, 3) := by decide +kernel
theorem dMa_put_26 : decode cMa_put 26 = .ok (.iload_n 1, 1) := by decide +kernel
theorem dMa_put_27 : decode cMa_put 27 = .ok (.iload 5, 2) := by decide +kernel
theorem dMa_put_29 : decode cMa_put 29 = .ok (.iastore, 1) := by decide +kernel
theorem dMa_put_30 : decode cMa_put 30 = .ok (.return_, 1) := by decide +kernel
theorem dMa_fits_0 : decode cMa_fits 0 = .ok (.aload_n 0, 1) := by decide +kernel
theorem dMa_fits_1 : decode cMa_fits 1 = .ok (.getfield 24, 3) := by decide +kernel
theorem dMa_fits_4 : decode cMa_fits 4 = .ok (.iload_n 2, 1) := by decide +kernel
theorem dMa_fits_5 : decode cMa_fits 5 = .ok (.aload_n 0, 1) := by decide +kernel
theorem dMa_fits_6 : decode cMa_fits 6 = .ok (.getfield 9, 3) := by decide +kernel
theorem dMa_fits_9 : decode cMa_fits 9 = .ok (.iload_n 1, 1) := by decide +kernel
theorem dMa_fits_10 : decode cMa_fits 10 = .ok (.iaload, 1) := by decide +kernel
theorem dMa_fits_11 : decode cMa_fits 11 = .ok (.invokevirtual 28, 3) := by decide +kernel
theorem dMa_fits_14 : decode cMa_fits 14 = .ok (.aload_n 0, 1) := by decide +kernel
theorem dMa_fits_15 : decode cMa_fits 15 = .ok (.getfield 15, 3) := by decide +kernel
theorem dMa_fits_18 : decode cMa_fits 18 = .ok (.iload_n 1, 1) := by decide +kernel
theorem dMa_fits_19 : decode cMa_fits 19 = .ok (.iaload, 1) := by decide +kernel
theorem dMa_fits_20 : decode cMa_fits 20 = .ok (.if_icmp .ne 40, 3) := by decide +kernel
theorem dMa_fits_23 : decode cMa_fits 23 = .ok (.aload_n 0, 1) := by decide +kernel
theorem dMa_fits_24 : decode cMa_fits 24 = .ok (.getfield 18, 3) := by decide +kernel
theorem dMa_fits_27 : decode cMa_fits 27 = .ok (.iload_n 1, 1) := by decide +kernel
theorem dMa_fits_28 : decode cMa_fits 28 = .ok (.iaload, 1) := by decide +kernel
theorem dMa_fits_29 : decode cMa_fits 29 = .ok (.iconst (-1), 1) := by decide +kernel
theorem dMa_fits_30 : decode cMa_fits 30 = .ok (.if_icmp .eq 26, 3) := by decide +kernel
theorem dMa_fits_33 : decode cMa_fits 33 = .ok (.aload_n 0, 1) := by decide +kernel
theorem dMa_fits_34 : decode cMa_fits 34 = .ok (.getfield 24, 3) := by decide +kernel
theorem dMa_fits_37 : decode cMa_fits 37 = .ok (.iload_n 2, 1) := by decide +kernel
theorem dMa_fits_38 : decode cMa_fits 38 = .ok (.aload_n 0, 1) := by decide +kernel
theorem dMa_fits_39 : decode cMa_fits 39 = .ok (.getfield 18, 3) := by decide +kernel
theorem dMa_fits_42 : decode cMa_fits 42 = .ok (.iload_n 1, 1) := by decide +kernel
theorem dMa_fits_43 : decode cMa_fits 43 = .ok (.iaload, 1) := by decide +kernel
theorem dMa_fits_44 : decode cMa_fits 44 = .ok (.invokevirtual 28, 3) := by decide +kernel
theorem dMa_fits_47 : decode cMa_fits 47 = .ok (.aload_n 0, 1) := by decide +kernel
theorem dMa_fits_48 : decode cMa_fits 48 = .ok (.getfield 21, 3) := by decide +kernel
theorem dMa_fits_51 : decode cMa_fits 51 = .ok (.iload_n 1, 1) := by decide +kernel
theorem dMa_fits_52 : decode cMa_fits 52 = .ok (.iaload, 1) := by decide +kernel
theorem dMa_fits_53 : decode cMa_fits 53 = .ok (.if_icmp .ne 7, 3) := by decide +kernel
theorem dMa_fits_56 : decode cMa_fits 56 = .ok (.iconst 1, 1) := by decide +kernel
theorem dMa_fits_57 : decode cMa_fits 57 = .ok (.goto 4, 3) := by decide +kernel
theorem dMa_fits_60 : decode cMa_fits 60 = .ok (.iconst 0, 1) := by decide +kernel
theorem dMa_fits_61 : decode cMa_fits 61 = .ok (.ireturn, 1) := by decide +kernel
theorem dMa_isOpen_0 : decode cMa_isOpen 0 = .ok (.aload_n 0, 1) := by decide +kernel
theorem dMa_isOpen_1 : decode cMa_isOpen 1 = .ok (.getfield 9, 3) := by decide +kernel
theorem dMa_isOpen_4 : decode cMa_isOpen 4 = .ok (.iload_n 1, 1) := by decide +kernel
theorem dMa_isOpen_5 : decode cMa_isOpen 5 = .ok (.iaload, 1) := by decide +kernel
theorem dMa_isOpen_6 : decode cMa_isOpen 6 = .ok (.istore 4, 2) := by decide +kernel
theorem dMa_isOpen_8 : decode cMa_isOpen 8 = .ok (.aload_n 0, 1) := by decide +kernel
theorem dMa_isOpen_9 : decode cMa_isOpen 9 = .ok (.getfield 18, 3) := by decide +kernel
theorem dMa_isOpen_12 : decode cMa_isOpen 12 = .ok (.iload_n 1, 1) := by decide +kernel
theorem dMa_isOpen_13 : decode cMa_isOpen 13 = .ok (.iaload, 1) := by decide +kernel
theorem dMa_isOpen_14 : decode cMa_isOpen 14 = .ok (.istore 5, 2) := by decide +kernel
theorem dMa_isOpen_16 : decode cMa_isOpen 16 = .ok (.iload 4, 2) := by decide +kernel
theorem dMa_isOpen_18 : decode cMa_isOpen 18 = .ok (.iload_n 3, 1) := by decide +kernel
theorem dMa_isOpen_19 : decode cMa_isOpen 19 = .ok (.if_icmp .ge 16, 3) := by decide +kernel
theorem dMa_isOpen_22 : decode cMa_isOpen 22 = .ok (.aload_n 2, 1) := by decide +kernel
theorem dMa_isOpen_23 : decode cMa_isOpen 23 = .ok (.iload 4, 2) := by decide +kernel
theorem dMa_isOpen_25 : decode cMa_isOpen 25 = .ok (.iaload, 1) := by decide +kernel
theorem dMa_isOpen_26 : decode cMa_isOpen 26 = .ok (.aload_n 0, 1) := by decide +kernel
theorem dMa_isOpen_27 : decode cMa_isOpen 27 = .ok (.getfield 15, 3) := by decide +kernel
theorem dMa_isOpen_30 : decode cMa_isOpen 30 = .ok (.iload_n 1, 1) := by decide +kernel
theorem dMa_isOpen_31 : decode cMa_isOpen 31 = .ok (.iaload, 1) := by decide +kernel
theorem dMa_isOpen_32 : decode cMa_isOpen 32 = .ok (.if_icmp .ne 32, 3) := by decide +kernel
theorem dMa_isOpen_35 : decode cMa_isOpen 35 = .ok (.iload 5, 2) := by decide +kernel
theorem dMa_isOpen_37 : decode cMa_isOpen 37 = .ok (.iconst (-1), 1) := by decide +kernel
theorem dMa_isOpen_38 : decode cMa_isOpen 38 = .ok (.if_icmp .eq 22, 3) := by decide +kernel
theorem dMa_isOpen_41 : decode cMa_isOpen 41 = .ok (.iload 5, 2) := by decide +kernel
theorem dMa_isOpen_43 : decode cMa_isOpen 43 = .ok (.iload_n 3, 1) := by decide +kernel
theorem dMa_isOpen_44 : decode cMa_isOpen 44 = .ok (.if_icmp .ge 16, 3) := by decide +kernel
theorem dMa_isOpen_47 : decode cMa_isOpen 47 = .ok (.aload_n 2, 1) := by decide +kernel
theorem dMa_isOpen_48 : decode cMa_isOpen 48 = .ok (.iload 5, 2) := by decide +kernel
theorem dMa_isOpen_50 : decode cMa_isOpen 50 = .ok (.iaload, 1) := by decide +kernel
theorem dMa_isOpen_51 : decode cMa_isOpen 51 = .ok (.aload_n 0, 1) := by decide +kernel
theorem dMa_isOpen_52 : decode cMa_isOpen 52 = .ok (.getfield 21, 3) := by decide +kernel
theorem dMa_isOpen_55 : decode cMa_isOpen 55 = .ok (.iload_n 1, 1) := by decide +kernel
theorem dMa_isOpen_56 : decode cMa_isOpen 56 = .ok (.iaload, 1) := by decide +kernel
theorem dMa_isOpen_57 : decode cMa_isOpen 57 = .ok (.if_icmp .ne 7, 3) := by decide +kernel
theorem dMa_isOpen_60 : decode cMa_isOpen 60 = .ok (.iconst 1, 1) := by decide +kernel
theorem dMa_isOpen_61 : decode cMa_isOpen 61 = .ok (.goto 4, 3) := by decide +kernel
theorem dMa_isOpen_64 : decode cMa_isOpen 64 = .ok (.iconst 0, 1) := by decide +kernel
theorem dMa_isOpen_65 : decode cMa_isOpen 65 = .ok (.ireturn, 1) := by decide +kernel
theorem dMa_isSettled_0 : decode cMa_isSettled 0 = .ok (.aload_n 0, 1) := by decide +kernel
theorem dMa_isSettled_1 : decode cMa_isSettled 1 = .ok (.getfield 9, 3) := by decide +kernel
theorem dMa_isSettled_4 : decode cMa_isSettled 4 = .ok (.iload_n 1, 1) := by decide +kernel
theorem dMa_isSettled_5 : decode cMa_isSettled 5 = .ok (.iaload, 1) := by decide +kernel
theorem dMa_isSettled_6 : decode cMa_isSettled 6 = .ok (.iload_n 2, 1) := by decide +kernel
theorem dMa_isSettled_7 : decode cMa_isSettled 7 = .ok (.if_icmp .ge 17, 3) := by decide +kernel
theorem dMa_isSettled_10 : decode cMa_isSettled 10 = .ok (.aload_n 0, 1) := by decide +kernel
theorem dMa_isSettled_11 : decode cMa_isSettled 11 = .ok (.getfield 18, 3) := by decide +kernel
theorem dMa_isSettled_14 : decode cMa_isSettled 14 = .ok (.iload_n 1, 1) := by decide +kernel
theorem dMa_isSettled_15 : decode cMa_isSettled 15 = .ok (.iaload, 1) := by decide +kernel
theorem dMa_isSettled_16 : decode cMa_isSettled 16 = .ok (.iload_n 2, 1) := by decide +kernel
theorem dMa_isSettled_17 : decode cMa_isSettled 17 = .ok (.if_icmp .ge 7, 3) := by decide +kernel
theorem dMa_isSettled_20 : decode cMa_isSettled 20 = .ok (.iconst 1, 1) := by decide +kernel
theorem dMa_isSettled_21 : decode cMa_isSettled 21 = .ok (.goto 4, 3) := by decide +kernel
theorem dMa_isSettled_24 : decode cMa_isSettled 24 = .ok (.iconst 0, 1) := by decide +kernel
theorem dMa_isSettled_25 : decode cMa_isSettled 25 = .ok (.ireturn, 1) := by decide +kernel
theorem dSe_init_0 : decode cSe_init 0 = .ok (.aload_n 0, 1) := by decide +kernel
theorem dSe_init_1 : decode cSe_init 1 = .ok (.invokespecial 3, 3) := by decide +kernel
theorem dSe_init_4 : decode cSe_init 4 = .ok (.aload_n 0, 1) := by decide +kernel
theorem dSe_init_5 : decode cSe_init 5 = .ok (.bipush 8, 2) := by decide +kernel
theorem dSe_init_7 : decode cSe_init 7 = .ok (.newarray .int, 2) := by decide +kernel
theorem dSe_init_9 : decode cSe_init 9 = .ok (.putfield 9, 3) := by decide +kernel
theorem dSe_init_12 : decode cSe_init 12 = .ok (.aload_n 0, 1) := by decide +kernel
theorem dSe_init_13 : decode cSe_init 13 = .ok (.iconst 0, 1) := by decide +kernel
theorem dSe_init_14 : decode cSe_init 14 = .ok (.putfield 15, 3) := by decide +kernel
theorem dSe_init_17 : decode cSe_init 17 = .ok (.aload_n 0, 1) := by decide +kernel
theorem dSe_init_18 : decode cSe_init 18 = .ok (.iconst (-1), 1) := by decide +kernel
theorem dSe_init_19 : decode cSe_init 19 = .ok (.putfield 19, 3) := by decide +kernel
theorem dSe_init_22 : decode cSe_init 22 = .ok (.aload_n 0, 1) := by decide +kernel
theorem dSe_init_23 : decode cSe_init 23 = .ok (.iconst 0, 1) := by decide +kernel
theorem dSe_init_24 : decode cSe_init 24 = .ok (.putfield 22, 3) := by decide +kernel
theorem dSe_init_27 : decode cSe_init 27 = .ok (.aload_n 0, 1) := by decide +kernel
theorem dSe_init_28 : decode cSe_init 28 = .ok (.aload_n 1, 1) := by decide +kernel
theorem dSe_init_29 : decode cSe_init 29 = .ok (.putfield 25, 3) := by decide +kernel
theorem dSe_init_32 : decode cSe_init 32 = .ok (.aload_n 0, 1) := by decide +kernel
theorem dSe_init_33 : decode cSe_init 33 = .ok (.aload_n 2, 1) := by decide +kernel
theorem dSe_init_34 : decode cSe_init 34 = .ok (.putfield 29, 3) := by decide +kernel
theorem dSe_init_37 : decode cSe_init 37 = .ok (.return_, 1) := by decide +kernel
theorem dSe_leastOf_0 : decode cSe_leastOf 0 = .ok (.aload_n 0, 1) := by decide +kernel
theorem dSe_leastOf_1 : decode cSe_leastOf 1 = .ok (.iconst (-1), 1) := by decide +kernel
theorem dSe_leastOf_2 : decode cSe_leastOf 2 = .ok (.putfield 19, 3) := by decide +kernel
theorem dSe_leastOf_5 : decode cSe_leastOf 5 = .ok (.iconst 0, 1) := by decide +kernel
theorem dSe_leastOf_6 : decode cSe_leastOf 6 = .ok (.istore_n 2, 1) := by decide +kernel
theorem dSe_leastOf_7 : decode cSe_leastOf 7 = .ok (.iconst 1, 1) := by decide +kernel
theorem dSe_leastOf_8 : decode cSe_leastOf 8 = .ok (.istore_n 3, 1) := by decide +kernel
theorem dSe_leastOf_9 : decode cSe_leastOf 9 = .ok (.iload_n 2, 1) := by decide +kernel
theorem dSe_leastOf_10 : decode cSe_leastOf 10 = .ok (.iconst (-1), 1) := by decide +kernel
theorem dSe_leastOf_11 : decode cSe_leastOf 11 = .ok (.if_icmp .eq 74, 3) := by decide +kernel
theorem dSe_leastOf_14 : decode cSe_leastOf 14 = .ok (.iload_n 3, 1) := by decide +kernel
theorem dSe_leastOf_15 : decode cSe_leastOf 15 = .ok (.sipush 8192, 3) := by decide +kernel
theorem dSe_leastOf_18 : decode cSe_leastOf 18 = .ok (.if_icmp .gt 67, 3) := by decide +kernel
theorem dSe_leastOf_21 : decode cSe_leastOf 21 = .ok (.aload_n 0, 1) := by decide +kernel
theorem dSe_leastOf_22 : decode cSe_leastOf 22 = .ok (.iload_n 3, 1) := by decide +kernel
theorem dSe_leastOf_23 : decode cSe_leastOf 23 = .ok (.putfield 15, 3) := by decide +kernel
theorem dSe_leastOf_26 : decode cSe_leastOf 26 = .ok (.aload_n 0, 1) := by decide +kernel
theorem dSe_leastOf_27 : decode cSe_leastOf 27 = .ok (.iload_n 1, 1) := by decide +kernel
theorem dSe_leastOf_28 : decode cSe_leastOf 28 = .ok (.iload_n 2, 1) := by decide +kernel
theorem dSe_leastOf_29 : decode cSe_leastOf 29 = .ok (.invokevirtual 33, 3) := by decide +kernel
theorem dSe_leastOf_32 : decode cSe_leastOf 32 = .ok (.istore 4, 2) := by decide +kernel
theorem dSe_leastOf_34 : decode cSe_leastOf 34 = .ok (.iload 4, 2) := by decide +kernel
theorem dSe_leastOf_36 : decode cSe_leastOf 36 = .ok (.ifCond .ne 27, 3) := by decide +kernel
theorem dSe_leastOf_39 : decode cSe_leastOf 39 = .ok (.iload_n 2, 1) := by decide +kernel
theorem dSe_leastOf_40 : decode cSe_leastOf 40 = .ok (.aload_n 0, 1) := by decide +kernel
theorem dSe_leastOf_41 : decode cSe_leastOf 41 = .ok (.getfield 25, 3) := by decide +kernel
theorem dSe_leastOf_44 : decode cSe_leastOf 44 = .ok (.getfield 37, 3) := by decide +kernel
theorem dSe_leastOf_47 : decode cSe_leastOf 47 = .ok (.if_icmp .ge 16, 3) := by decide +kernel
theorem dSe_leastOf_50 : decode cSe_leastOf 50 = .ok (.aload_n 0, 1) := by decide +kernel
theorem dSe_leastOf_51 : decode cSe_leastOf 51 = .ok (.getfield 9, 3) := by decide +kernel
theorem dSe_leastOf_54 : decode cSe_leastOf 54 = .ok (.iload_n 2, 1) := by decide +kernel
theorem dSe_leastOf_55 : decode cSe_leastOf 55 = .ok (.iconst 0, 1) := by decide +kernel
theorem dSe_leastOf_56 : decode cSe_leastOf 56 = .ok (.iastore, 1) := by decide +kernel
theorem dSe_leastOf_57 : decode cSe_leastOf 57 = .ok (.iinc 2 1, 3) := by decide +kernel
theorem dSe_leastOf_60 : decode cSe_leastOf 60 = .ok (.goto 19, 3) := by decide +kernel
theorem dSe_leastOf_63 : decode cSe_leastOf 63 = .ok (.iload 4, 2) := by decide +kernel
theorem dSe_leastOf_65 : decode cSe_leastOf 65 = .ok (.ifCond .ne 8, 3) := by decide +kernel
theorem dSe_leastOf_68 : decode cSe_leastOf 68 = .ok (.aload_n 0, 1) := by decide +kernel
theorem dSe_leastOf_69 : decode cSe_leastOf 69 = .ok (.iload_n 1, 1) := by decide +kernel
theorem dSe_leastOf_70 : decode cSe_leastOf 70 = .ok (.invokevirtual 42, 3) := by decide +kernel
theorem dSe_leastOf_73 : decode cSe_leastOf 73 = .ok (.aload_n 0, 1) := by decide +kernel
theorem dSe_leastOf_74 : decode cSe_leastOf 74 = .ok (.iload_n 2, 1) := by decide +kernel
theorem dSe_leastOf_75 : decode cSe_leastOf 75 = .ok (.invokevirtual 46, 3) := by decide +kernel
theorem dSe_leastOf_78 : decode cSe_leastOf 78 = .ok (.istore_n 2, 1) := by decide +kernel
theorem dSe_leastOf_79 : decode cSe_leastOf 79 = .ok (.iinc 3 1, 3) := by decide +kernel
theorem dSe_leastOf_82 : decode cSe_leastOf 82 = .ok (.goto (-73), 3) := by decide +kernel
theorem dSe_leastOf_85 : decode cSe_leastOf 85 = .ok (.aload_n 0, 1) := by decide +kernel
theorem dSe_leastOf_86 : decode cSe_leastOf 86 = .ok (.getfield 19, 3) := by decide +kernel
theorem dSe_leastOf_89 : decode cSe_leastOf 89 = .ok (.ireturn, 1) := by decide +kernel
theorem dSe_keepRow_0 : decode cSe_keepRow 0 = .ok (.aload_n 0, 1) := by decide +kernel
theorem dSe_keepRow_1 : decode cSe_keepRow 1 = .ok (.aload_n 0, 1) := by decide +kernel
theorem dSe_keepRow_2 : decode cSe_keepRow 2 = .ok (.getfield 25, 3) := by decide +kernel
theorem dSe_keepRow_5 : decode cSe_keepRow 5 = .ok (.aload_n 0, 1) := by decide +kernel
theorem dSe_keepRow_6 : decode cSe_keepRow 6 = .ok (.getfield 9, 3) := by decide +kernel
theorem dSe_keepRow_9 : decode cSe_keepRow 9 = .ok (.invokevirtual 50, 3) := by decide +kernel
theorem dSe_keepRow_12 : decode cSe_keepRow 12 = .ok (.putfield 19, 3) := by decide +kernel
theorem dSe_keepRow_15 : decode cSe_keepRow 15 = .ok (.aload_n 0, 1) := by decide +kernel
theorem dSe_keepRow_16 : decode cSe_keepRow 16 = .ok (.aload_n 0, 1) := by decide +kernel
theorem dSe_keepRow_17 : decode cSe_keepRow 17 = .ok (.getfield 29, 3) := by decide +kernel
theorem dSe_keepRow_20 : decode cSe_keepRow 20 = .ok (.aload_n 0, 1) := by decide +kernel
theorem dSe_keepRow_21 : decode cSe_keepRow 21 = .ok (.getfield 19, 3) := by decide +kernel
theorem dSe_keepRow_24 : decode cSe_keepRow 24 = .ok (.iload_n 1, 1) := by decide +kernel
theorem dSe_keepRow_25 : decode cSe_keepRow 25 = .ok (.invokevirtual 54, 3) := by decide +kernel
theorem dSe_keepRow_28 : decode cSe_keepRow 28 = .ok (.putfield 22, 3) := by decide +kernel
theorem dSe_keepRow_31 : decode cSe_keepRow 31 = .ok (.return_, 1) := by decide +kernel
theorem dSe_goBehind_0 : decode cSe_goBehind 0 = .ok (.iload_n 1, 1) := by decide +kernel
theorem dSe_goBehind_1 : decode cSe_goBehind 1 = .ok (.iconst 1, 1) := by decide +kernel
theorem dSe_goBehind_2 : decode cSe_goBehind 2 = .ok (.isub, 1) := by decide +kernel
theorem dSe_goBehind_3 : decode cSe_goBehind 3 = .ok (.istore_n 2, 1) := by decide +kernel
theorem dSe_goBehind_4 : decode cSe_goBehind 4 = .ok (.iload_n 2, 1) := by decide +kernel
theorem dSe_goBehind_5 : decode cSe_goBehind 5 = .ok (.ifCond .lt 43, 3) := by decide +kernel
theorem dSe_goBehind_8 : decode cSe_goBehind 8 = .ok (.aload_n 0, 1) := by decide +kernel
theorem dSe_goBehind_9 : decode cSe_goBehind 9 = .ok (.getfield 9, 3) := by decide +kernel
theorem dSe_goBehind_12 : decode cSe_goBehind 12 = .ok (.iload_n 2, 1) := by decide +kernel
theorem dSe_goBehind_13 : decode cSe_goBehind 13 = .ok (.iaload, 1) := by decide +kernel
theorem dSe_goBehind_14 : decode cSe_goBehind 14 = .ok (.aload_n 0, 1) := by decide +kernel
theorem dSe_goBehind_15 : decode cSe_goBehind 15 = .ok (.getfield 25, 3) := by decide +kernel
theorem dSe_goBehind_18 : decode cSe_goBehind 18 = .ok (.getfield 60, 3) := by decide +kernel
theorem dSe_goBehind_21 : decode cSe_goBehind 21 = .ok (.iload_n 2, 1) := by decide +kernel
theorem dSe_goBehind_22 : decode cSe_goBehind 22 = .ok (.iaload, 1) := by decide +kernel
theorem dSe_goBehind_23 : decode cSe_goBehind 23 = .ok (.iconst 1, 1) := by decide +kernel
theorem dSe_goBehind_24 : decode cSe_goBehind 24 = .ok (.isub, 1) := by decide +kernel
theorem dSe_goBehind_25 : decode cSe_goBehind 25 = .ok (.if_icmp .ge 17, 3) := by decide +kernel
theorem dSe_goBehind_28 : decode cSe_goBehind 28 = .ok (.aload_n 0, 1) := by decide +kernel
theorem dSe_goBehind_29 : decode cSe_goBehind 29 = .ok (.getfield 9, 3) := by decide +kernel
theorem dSe_goBehind_32 : decode cSe_goBehind 32 = .ok (.iload_n 2, 1) := by decide +kernel
theorem dSe_goBehind_33 : decode cSe_goBehind 33 = .ok (.dup2, 1) := by decide +kernel
theorem dSe_goBehind_34 : decode cSe_goBehind 34 = .ok (.iaload, 1) := by decide +kernel
theorem dSe_goBehind_35 : decode cSe_goBehind 35 = .ok (.iconst 1, 1) := by decide +kernel
theorem dSe_goBehind_36 : decode cSe_goBehind 36 = .ok (.iadd, 1) := by decide +kernel
theorem dSe_goBehind_37 : decode cSe_goBehind 37 = .ok (.iastore, 1) := by decide +kernel
theorem dSe_goBehind_38 : decode cSe_goBehind 38 = .ok (.iload_n 2, 1) := by decide +kernel
theorem dSe_goBehind_39 : decode cSe_goBehind 39 = .ok (.iconst 1, 1) := by decide +kernel
theorem dSe_goBehind_40 : decode cSe_goBehind 40 = .ok (.iadd, 1) := by decide +kernel
theorem dSe_goBehind_41 : decode cSe_goBehind 41 = .ok (.ireturn, 1) := by decide +kernel
theorem dSe_goBehind_42 : decode cSe_goBehind 42 = .ok (.iinc 2 (-1), 3) := by decide +kernel
theorem dSe_goBehind_45 : decode cSe_goBehind 45 = .ok (.goto (-41), 3) := by decide +kernel
theorem dSe_goBehind_48 : decode cSe_goBehind 48 = .ok (.iconst (-1), 1) := by decide +kernel
theorem dSe_goBehind_49 : decode cSe_goBehind 49 = .ok (.ireturn, 1) := by decide +kernel
theorem dSe_isPassedBy_0 : decode cSe_isPassedBy 0 = .ok (.aload_n 0, 1) := by decide +kernel
theorem dSe_isPassedBy_1 : decode cSe_isPassedBy 1 = .ok (.getfield 29, 3) := by decide +kernel
theorem dSe_isPassedBy_4 : decode cSe_isPassedBy 4 = .ok (.aload_n 0, 1) := by decide +kernel
theorem dSe_isPassedBy_5 : decode cSe_isPassedBy 5 = .ok (.getfield 9, 3) := by decide +kernel
theorem dSe_isPassedBy_8 : decode cSe_isPassedBy 8 = .ok (.iload_n 2, 1) := by decide +kernel
theorem dSe_isPassedBy_9 : decode cSe_isPassedBy 9 = .ok (.invokevirtual 63, 3) := by decide +kernel
theorem dSe_isPassedBy_12 : decode cSe_isPassedBy 12 = .ok (.ifCond .ne 46, 3) := by decide +kernel
theorem dSe_isPassedBy_15 : decode cSe_isPassedBy 15 = .ok (.aload_n 0, 1) := by decide +kernel
theorem dSe_isPassedBy_16 : decode cSe_isPassedBy 16 = .ok (.getfield 29, 3) := by decide +kernel
theorem dSe_isPassedBy_19 : decode cSe_isPassedBy 19 = .ok (.aload_n 0, 1) := by decide +kernel
theorem dSe_isPassedBy_20 : decode cSe_isPassedBy 20 = .ok (.getfield 9, 3) := by decide +kernel
theorem dSe_isPassedBy_23 : decode cSe_isPassedBy 23 = .ok (.iload_n 2, 1) := by decide +kernel
theorem dSe_isPassedBy_24 : decode cSe_isPassedBy 24 = .ok (.invokevirtual 67, 3) := by decide +kernel
theorem dSe_isPassedBy_27 : decode cSe_isPassedBy 27 = .ok (.ifCond .ne 31, 3) := by decide +kernel
theorem dSe_isPassedBy_30 : decode cSe_isPassedBy 30 = .ok (.aload_n 0, 1) := by decide +kernel
theorem dSe_isPassedBy_31 : decode cSe_isPassedBy 31 = .ok (.getfield 19, 3) := by decide +kernel
theorem dSe_isPassedBy_34 : decode cSe_isPassedBy 34 = .ok (.iconst (-1), 1) := by decide +kernel
theorem dSe_isPassedBy_35 : decode cSe_isPassedBy 35 = .ok (.if_icmp .eq 27, 3) := by decide +kernel
theorem dSe_isPassedBy_38 : decode cSe_isPassedBy 38 = .ok (.aload_n 0, 1) := by decide +kernel
theorem dSe_isPassedBy_39 : decode cSe_isPassedBy 39 = .ok (.getfield 29, 3) := by decide +kernel
theorem dSe_isPassedBy_42 : decode cSe_isPassedBy 42 = .ok (.iload_n 1, 1) := by decide +kernel
theorem dSe_isPassedBy_43 : decode cSe_isPassedBy 43 = .ok (.aload_n 0, 1) := by decide +kernel
theorem dSe_isPassedBy_44 : decode cSe_isPassedBy 44 = .ok (.getfield 9, 3) := by decide +kernel
theorem dSe_isPassedBy_47 : decode cSe_isPassedBy 47 = .ok (.iload_n 2, 1) := by decide +kernel
theorem dSe_isPassedBy_48 : decode cSe_isPassedBy 48 = .ok (.invokevirtual 70, 3) := by decide +kernel
theorem dSe_isPassedBy_51 : decode cSe_isPassedBy 51 = .ok (.aload_n 0, 1) := by decide +kernel
theorem dSe_isPassedBy_52 : decode cSe_isPassedBy 52 = .ok (.getfield 22, 3) := by decide +kernel
theorem dSe_isPassedBy_55 : decode cSe_isPassedBy 55 = .ok (.if_icmp .lt 7, 3) := by decide +kernel
theorem dSe_isPassedBy_58 : decode cSe_isPassedBy 58 = .ok (.iconst 1, 1) := by decide +kernel
theorem dSe_isPassedBy_59 : decode cSe_isPassedBy 59 = .ok (.goto 4, 3) := by decide +kernel
theorem dSe_isPassedBy_62 : decode cSe_isPassedBy 62 = .ok (.iconst 0, 1) := by decide +kernel
theorem dSe_isPassedBy_63 : decode cSe_isPassedBy 63 = .ok (.ireturn, 1) := by decide +kernel
theorem dSe_boundFor_0 : decode cSe_boundFor 0 = .ok (.iconst 0, 1) := by decide +kernel
theorem dSe_boundFor_1 : decode cSe_boundFor 1 = .ok (.istore 4, 2) := by decide +kernel
theorem dSe_boundFor_3 : decode cSe_boundFor 3 = .ok (.iload 4, 2) := by decide +kernel
theorem dSe_boundFor_5 : decode cSe_boundFor 5 = .ok (.iload_n 3, 1) := by decide +kernel
theorem dSe_boundFor_6 : decode cSe_boundFor 6 = .ok (.if_icmp .ge 26, 3) := by decide +kernel
theorem dSe_boundFor_9 : decode cSe_boundFor 9 = .ok (.aload_n 0, 1) := by decide +kernel
theorem dSe_boundFor_10 : decode cSe_boundFor 10 = .ok (.getfield 9, 3) := by decide +kernel
theorem dSe_boundFor_13 : decode cSe_boundFor 13 = .ok (.iload 4, 2) := by decide +kernel
theorem dSe_boundFor_15 : decode cSe_boundFor 15 = .ok (.aload_n 0, 1) := by decide +kernel
theorem dSe_boundFor_16 : decode cSe_boundFor 16 = .ok (.getfield 25, 3) := by decide +kernel
theorem dSe_boundFor_19 : decode cSe_boundFor 19 = .ok (.iload_n 2, 1) := by decide +kernel
theorem dSe_boundFor_20 : decode cSe_boundFor 20 = .ok (.iload 4, 2) := by decide +kernel
theorem dSe_boundFor_22 : decode cSe_boundFor 22 = .ok (.invokevirtual 74, 3) := by decide +kernel
theorem dSe_boundFor_25 : decode cSe_boundFor 25 = .ok (.iastore, 1) := by decide +kernel
theorem dSe_boundFor_26 : decode cSe_boundFor 26 = .ok (.iinc 4 1, 3) := by decide +kernel
theorem dSe_boundFor_29 : decode cSe_boundFor 29 = .ok (.goto (-26), 3) := by decide +kernel
