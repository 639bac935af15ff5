theorem dX0_init_0 : decode cX0_init 0 = .ok (.aload_n 0, 1) := by decide +kernel
theorem dX0_init_1 : decode cX0_init 1 = .ok (.invokespecial 3, 3) := by decide +kernel
theorem dX0_init_4 : decode cX0_init 4 = .ok (.aload_n 0, 1) := by decide +kernel
theorem dX0_init_5 : decode cX0_init 5 = .ok (.sipush 280, 3) := by decide +kernel
theorem dX0_init_8 : decode cX0_init 8 = .ok (.newarray .int, 2) := by decide +kernel
theorem dX0_init_10 : decode cX0_init 10 = .ok (.putfield 11, 3) := by decide +kernel
theorem dX0_init_13 : decode cX0_init 13 = .ok (.return_, 1) := by decide +kernel
theorem dX0_remember_0 : decode cX0_remember 0 = .ok (.aload_n 1, 1) := by decide +kernel
theorem dX0_remember_1 : decode cX0_remember 1 = .ok (.aload_n 0, 1) := by decide +kernel
theorem dX0_remember_2 : decode cX0_remember 2 = .ok (.getfield 11, 3) := by decide +kernel
theorem dX0_remember_5 : decode cX0_remember 5 = .ok (.aload_n 0, 1) := by decide +kernel
theorem dX0_remember_6 : decode cX0_remember 6 = .ok (.getfield 17, 3) := by decide +kernel
theorem dX0_remember_9 : decode cX0_remember 9 = .ok (.invokevirtual 21, 3) := by decide +kernel
theorem dX0_remember_12 : decode cX0_remember 12 = .ok (.aload_n 0, 1) := by decide +kernel
theorem dX0_remember_13 : decode cX0_remember 13 = .ok (.aload_n 0, 1) := by decide +kernel
theorem dX0_remember_14 : decode cX0_remember 14 = .ok (.getfield 17, 3) := by decide +kernel
theorem dX0_remember_17 : decode cX0_remember 17 = .ok (.iconst 1, 1) := by decide +kernel
theorem dX0_remember_18 : decode cX0_remember 18 = .ok (.iadd, 1) := by decide +kernel
theorem dX0_remember_19 : decode cX0_remember 19 = .ok (.bipush 14, 2) := by decide +kernel
theorem dX0_remember_21 : decode cX0_remember 21 = .ok (.if_icmp .ge 12, 3) := by decide +kernel
theorem dX0_remember_24 : decode cX0_remember 24 = .ok (.aload_n 0, 1) := by decide +kernel
theorem dX0_remember_25 : decode cX0_remember 25 = .ok (.getfield 17, 3) := by decide +kernel
theorem dX0_remember_28 : decode cX0_remember 28 = .ok (.iconst 1, 1) := by decide +kernel
theorem dX0_remember_29 : decode cX0_remember 29 = .ok (.iadd, 1) := by decide +kernel
theorem dX0_remember_30 : decode cX0_remember 30 = .ok (.goto 4, 3) := by decide +kernel
theorem dX0_remember_33 : decode cX0_remember 33 = .ok (.iconst 0, 1) := by decide +kernel
theorem dX0_remember_34 : decode cX0_remember 34 = .ok (.putfield 17, 3) := by decide +kernel
theorem dX0_remember_37 : decode cX0_remember 37 = .ok (.aload_n 0, 1) := by decide +kernel
theorem dX0_remember_38 : decode cX0_remember 38 = .ok (.aload_n 0, 1) := by decide +kernel
theorem dX0_remember_39 : decode cX0_remember 39 = .ok (.getfield 25, 3) := by decide +kernel
theorem dX0_remember_42 : decode cX0_remember 42 = .ok (.bipush 14, 2) := by decide +kernel
theorem dX0_remember_44 : decode cX0_remember 44 = .ok (.if_icmp .ge 12, 3) := by decide +kernel
theorem dX0_remember_47 : decode cX0_remember 47 = .ok (.aload_n 0, 1) := by decide +kernel
theorem dX0_remember_48 : decode cX0_remember 48 = .ok (.getfield 25, 3) := by decide +kernel
theorem dX0_remember_51 : decode cX0_remember 51 = .ok (.iconst 1, 1) := by decide +kernel
theorem dX0_remember_52 : decode cX0_remember 52 = .ok (.iadd, 1) := by decide +kernel
theorem dX0_remember_53 : decode cX0_remember 53 = .ok (.goto 5, 3) := by decide +kernel
theorem dX0_remember_56 : decode cX0_remember 56 = .ok (.bipush 14, 2) := by decide +kernel
theorem dX0_remember_58 : decode cX0_remember 58 = .ok (.putfield 25, 3) := by decide +kernel
theorem dX0_remember_61 : decode cX0_remember 61 = .ok (.return_, 1) := by decide +kernel
theorem dX0_takeBack_0 : decode cX0_takeBack 0 = .ok (.aload_n 0, 1) := by decide +kernel
theorem dX0_takeBack_1 : decode cX0_takeBack 1 = .ok (.aload_n 0, 1) := by decide +kernel
theorem dX0_takeBack_2 : decode cX0_takeBack 2 = .ok (.getfield 17, 3) := by decide +kernel
theorem dX0_takeBack_5 : decode cX0_takeBack 5 = .ok (.ifCond .le 12, 3) := by decide +kernel
theorem dX0_takeBack_8 : decode cX0_takeBack 8 = .ok (.aload_n 0, 1) := by decide +kernel
theorem dX0_takeBack_9 : decode cX0_takeBack 9 = .ok (.getfield 17, 3) := by decide +kernel
theorem dX0_takeBack_12 : decode cX0_takeBack 12 = .ok (.iconst 1, 1) := by decide +kernel
theorem dX0_takeBack_13 : decode cX0_takeBack 13 = .ok (.isub, 1) := by decide +kernel
theorem dX0_takeBack_14 : decode cX0_takeBack 14 = .ok (.goto 5, 3) := by decide +kernel
theorem dX0_takeBack_17 : decode cX0_takeBack 17 = .ok (.bipush 13, 2) := by decide +kernel
theorem dX0_takeBack_19 : decode cX0_takeBack 19 = .ok (.putfield 17, 3) := by decide +kernel
theorem dX0_takeBack_22 : decode cX0_takeBack 22 = .ok (.aload_n 0, 1) := by decide +kernel
theorem dX0_takeBack_23 : decode cX0_takeBack 23 = .ok (.dup, 1) := by decide +kernel
theorem dX0_takeBack_24 : decode cX0_takeBack 24 = .ok (.getfield 25, 3) := by decide +kernel
theorem dX0_takeBack_27 : decode cX0_takeBack 27 = .ok (.iconst 1, 1) := by decide +kernel
theorem dX0_takeBack_28 : decode cX0_takeBack 28 = .ok (.isub, 1) := by decide +kernel
theorem dX0_takeBack_29 : decode cX0_takeBack 29 = .ok (.putfield 25, 3) := by decide +kernel
theorem dX0_takeBack_32 : decode cX0_takeBack 32 = .ok (.aload_n 1, 1) := by decide +kernel
theorem dX0_takeBack_33 : decode cX0_takeBack 33 = .ok (.aload_n 0, 1) := by decide +kernel
theorem dX0_takeBack_34 : decode cX0_takeBack 34 = .ok (.getfield 11, 3) := by decide +kernel
theorem dX0_takeBack_37 : decode cX0_takeBack 37 = .ok (.aload_n 0, 1) := by decide +kernel
theorem dX0_takeBack_38 : decode cX0_takeBack 38 = .ok (.getfield 17, 3) := by decide +kernel
theorem dX0_takeBack_41 : decode cX0_takeBack 41 = .ok (.invokevirtual 28, 3) := by decide +kernel
theorem dX0_takeBack_44 : decode cX0_takeBack 44 = .ok (.return_, 1) := by decide +kernel
theorem dX0_forget_0 : decode cX0_forget 0 = .ok (.aload_n 0, 1) := by decide +kernel
theorem dX0_forget_1 : decode cX0_forget 1 = .ok (.iconst 0, 1) := by decide +kernel
theorem dX0_forget_2 : decode cX0_forget 2 = .ok (.putfield 25, 3) := by decide +kernel
theorem dX0_forget_5 : decode cX0_forget 5 = .ok (.return_, 1) := by decide +kernel
theorem dX1_init_0 : decode cX1_init 0 = .ok (.aload_n 0, 1) := by decide +kernel
theorem dX1_init_1 : decode cX1_init 1 = .ok (.invokespecial 3, 3) := by decide +kernel
theorem dX1_init_4 : decode cX1_init 4 = .ok (.aload_n 0, 1) := by decide +kernel
theorem dX1_init_5 : decode cX1_init 5 = .ok (.bipush 6, 2) := by decide +kernel
theorem dX1_init_7 : decode cX1_init 7 = .ok (.newarray .int, 2) := by decide +kernel
theorem dX1_init_9 : decode cX1_init 9 = .ok (.putfield 9, 3) := by decide +kernel
theorem dX1_init_12 : decode cX1_init 12 = .ok (.aload_n 0, 1) := by decide +kernel
theorem dX1_init_13 : decode cX1_init 13 = .ok (.bipush 6, 2) := by decide +kernel
theorem dX1_init_15 : decode cX1_init 15 = .ok (.newarray .int, 2) := by decide +kernel
theorem dX1_init_17 : decode cX1_init 17 = .ok (.putfield 15, 3) := by decide +kernel
theorem dX1_init_20 : decode cX1_init 20 = .ok (.return_, 1) := by decide +kernel
theorem dX1_add_0 : decode cX1_add 0 = .ok (.aload_n 0, 1) := by decide +kernel
theorem dX1_add_1 : decode cX1_add 1 = .ok (.getfield 9, 3) := by decide +kernel
theorem dX1_add_4 : decode cX1_add 4 = .ok (.aload_n 0, 1) := by decide +kernel
theorem dX1_add_5 : decode cX1_add 5 = .ok (.getfield 18, 3) := by decide +kernel
theorem dX1_add_8 : decode cX1_add 8 = .ok (.iload_n 1, 1) := by decide +kernel
theorem dX1_add_9 : decode cX1_add 9 = .ok (.invokestatic 22, 3) := by decide +kernel
theorem dX1_add_12 : decode cX1_add 12 = .ok (.aload_n 0, 1) := by decide +kernel
theorem dX1_add_13 : decode cX1_add 13 = .ok (.getfield 15, 3) := by decide +kernel
theorem dX1_add_16 : decode cX1_add 16 = .ok (.aload_n 0, 1) := by decide +kernel
theorem dX1_add_17 : decode cX1_add 17 = .ok (.getfield 18, 3) := by decide +kernel
theorem dX1_add_20 : decode cX1_add 20 = .ok (.iload_n 2, 1) := by decide +kernel
theorem dX1_add_21 : decode cX1_add 21 = .ok (.invokestatic 22, 3) := by decide +kernel
theorem dX1_add_24 : decode cX1_add 24 = .ok (.aload_n 0, 1) := by decide +kernel
theorem dX1_add_25 : decode cX1_add 25 = .ok (.dup, 1) := by decide +kernel
theorem dX1_add_26 : decode cX1_add 26 = .ok (.getfield 18, 3) := by decide +kernel
theorem dX1_add_29 : decode cX1_add 29 = .ok (.iconst 1, 1) := by decide +kernel
theorem dX1_add_30 : decode cX1_add 30 = .ok (.iadd, 1) := by decide +kernel
theorem dX1_add_31 : decode cX1_add 31 = .ok (.putfield 18, 3) := by decide +kernel
theorem dX1_add_34 : decode cX1_add 34 = .ok (.return_, 1) := by decide +kernel
theorem dX1_fits_0 : decode cX1_fits 0 = .ok (.iconst 0, 1) := by decide +kernel
theorem dX1_fits_1 : decode cX1_fits 1 = .ok (.istore_n 3, 1) := by decide +kernel
theorem dX1_fits_2 : decode cX1_fits 2 = .ok (.iload_n 3, 1) := by decide +kernel
theorem dX1_fits_3 : decode cX1_fits 3 = .ok (.aload_n 0, 1) := by decide +kernel
theorem dX1_fits_4 : decode cX1_fits 4 = .ok (.getfield 18, 3) := by decide +kernel
theorem dX1_fits_7 : decode cX1_fits 7 = .ok (.if_icmp .ge 41, 3) := by decide +kernel
theorem dX1_fits_10 : decode cX1_fits 10 = .ok (.aload_n 0, 1) := by decide +kernel
theorem dX1_fits_11 : decode cX1_fits 11 = .ok (.getfield 9, 3) := by decide +kernel
theorem dX1_fits_14 : decode cX1_fits 14 = .ok (.iload_n 3, 1) := by decide +kernel
theorem dX1_fits_15 : decode cX1_fits 15 = .ok (.invokestatic 26, 3) := by decide +kernel
theorem dX1_fits_18 : decode cX1_fits 18 = .ok (.istore 4, 2) := by decide +kernel
theorem dX1_fits_20 : decode cX1_fits 20 = .ok (.iload_n 1, 1) := by decide +kernel
theorem dX1_fits_21 : decode cX1_fits 21 = .ok (.iload_n 2, 1) := by decide +kernel
theorem dX1_fits_22 : decode cX1_fits 22 = .ok (.iload 4, 2) := by decide +kernel
theorem dX1_fits_24 : decode cX1_fits 24 = .ok (.iload 4, 2) := by decide +kernel
theorem dX1_fits_26 : decode cX1_fits 26 = .ok (.invokestatic 30, 3) := by decide +kernel
theorem dX1_fits_29 : decode cX1_fits 29 = .ok (.aload_n 0, 1) := by decide +kernel
theorem dX1_fits_30 : decode cX1_fits 30 = .ok (.getfield 15, 3) := by decide +kernel
theorem dX1_fits_33 : decode cX1_fits 33 = .ok (.iload_n 3, 1) := by decide +kernel
theorem dX1_fits_34 : decode cX1_fits 34 = .ok (.invokestatic 26, 3) := by decide +kernel
theorem dX1_fits_37 : decode cX1_fits 37 = .ok (.if_icmp .eq 5, 3) := by decide +kernel
theorem dX1_fits_40 : decode cX1_fits 40 = .ok (.iconst 0, 1) := by decide +kernel
theorem dX1_fits_41 : decode cX1_fits 41 = .ok (.ireturn, 1) := by decide +kernel
theorem dX1_fits_42 : decode cX1_fits 42 = .ok (.iinc 3 1, 3) := by decide +kernel
theorem dX1_fits_45 : decode cX1_fits 45 = .ok (.goto (-43), 3) := by decide +kernel
theorem dX1_fits_48 : decode cX1_fits 48 = .ok (.iconst 1, 1) := by decide +kernel
theorem dX1_fits_49 : decode cX1_fits 49 = .ok (.ireturn, 1) := by decide +kernel
theorem dX2_init_0 : decode cX2_init 0 = .ok (.aload_n 0, 1) := by decide +kernel
theorem dX2_init_1 : decode cX2_init 1 = .ok (.invokespecial 3, 3) := by decide +kernel
theorem dX2_init_4 : decode cX2_init 4 = .ok (.aload_n 0, 1) := by decide +kernel
theorem dX2_init_5 : decode cX2_init 5 = .ok (.iconst 3, 1) := by decide +kernel
theorem dX2_init_6 : decode cX2_init 6 = .ok (.newarray .int, 2) := by decide +kernel
theorem dX2_init_8 : decode cX2_init 8 = .ok (.putfield 9, 3) := by decide +kernel
theorem dX2_init_11 : decode cX2_init 11 = .ok (.aload_n 0, 1) := by decide +kernel
theorem dX2_init_12 : decode cX2_init 12 = .ok (.iconst 5, 1) := by decide +kernel
theorem dX2_init_13 : decode cX2_init 13 = .ok (.newarray .int, 2) := by decide +kernel
theorem dX2_init_15 : decode cX2_init 15 = .ok (.putfield 15, 3) := by decide +kernel
theorem dX2_init_18 : decode cX2_init 18 = .ok (.aload_n 0, 1) := by decide +kernel
theorem dX2_init_19 : decode cX2_init 19 = .ok (.iconst 5, 1) := by decide +kernel
theorem dX2_init_20 : decode cX2_init 20 = .ok (.newarray .int, 2) := by decide +kernel
theorem dX2_init_22 : decode cX2_init 22 = .ok (.putfield 18, 3) := by decide +kernel
theorem dX2_init_25 : decode cX2_init 25 = .ok (.aload_n 0, 1) := by decide +kernel
theorem dX2_init_26 : decode cX2_init 26 = .ok (.iconst 5, 1) := by decide +kernel
theorem dX2_init_27 : decode cX2_init 27 = .ok (.newarray .int, 2) := by decide +kernel
theorem dX2_init_29 : decode cX2_init 29 = .ok (.putfield 21, 3) := by decide +kernel
theorem dX2_init_32 : decode cX2_init 32 = .ok (.aload_n 0, 1) := by decide +kernel
theorem dX2_init_33 : decode cX2_init 33 = .ok (.iconst 5, 1) := by decide +kernel
theorem dX2_init_34 : decode cX2_init 34 = .ok (.newarray .int, 2) := by decide +kernel
theorem dX2_init_36 : decode cX2_init 36 = .ok (.putfield 24, 3) := by decide +kernel
theorem dX2_init_39 : decode cX2_init 39 = .ok (.aload_n 0, 1) := by decide +kernel
theorem dX2_init_40 : decode cX2_init 40 = .ok (.iconst 5, 1) := by decide +kernel
theorem dX2_init_41 : decode cX2_init 41 = .ok (.newarray .int, 2) := by decide +kernel
theorem dX2_init_43 : decode cX2_init 43 = .ok (.putfield 27, 3) := by decide +kernel
theorem dX2_init_46 : decode cX2_init 46 = .ok (.aload_n 0, 1) := by decide +kernel
theorem dX2_init_47 : decode cX2_init 47 = .ok (.iconst 5, 1) := by decide +kernel
theorem dX2_init_48 : decode cX2_init 48 = .ok (.newarray .int, 2) := by decide +kernel
theorem dX2_init_50 : decode cX2_init 50 = .ok (.putfield 30, 3) := by decide +kernel
theorem dX2_init_53 : decode cX2_init 53 = .ok (.return_, 1) := by decide +kernel
theorem dX2_clear_0 : decode cX2_clear 0 = .ok (.aload_n 0, 1) := by decide +kernel
theorem dX2_clear_1 : decode cX2_clear 1 = .ok (.iconst 0, 1) := by decide +kernel
theorem dX2_clear_2 : decode cX2_clear 2 = .ok (.putfield 33, 3) := by decide +kernel
theorem dX2_clear_5 : decode cX2_clear 5 = .ok (.aload_n 0, 1) := by decide +kernel
theorem dX2_clear_6 : decode cX2_clear 6 = .ok (.iconst 0, 1) := by decide +kernel
theorem dX2_clear_7 : decode cX2_clear 7 = .ok (.putfield 37, 3) := by decide +kernel
theorem dX2_clear_10 : decode cX2_clear 10 = .ok (.aload_n 0, 1) := by decide +kernel
theorem dX2_clear_11 : decode cX2_clear 11 = .ok (.iconst 0, 1) := by decide +kernel
theorem dX2_clear_12 : decode cX2_clear 12 = .ok (.putfield 40, 3) := by decide +kernel
theorem dX2_clear_15 : decode cX2_clear 15 = .ok (.aload_n 0, 1) := by decide +kernel
theorem dX2_clear_16 : decode cX2_clear 16 = .ok (.iconst 0, 1) := by decide +kernel
theorem dX2_clear_17 : decode cX2_clear 17 = .ok (.putfield 43, 3) := by decide +kernel
theorem dX2_clear_20 : decode cX2_clear 20 = .ok (.return_, 1) := by decide +kernel
theorem dX2_addPerson_0 : decode cX2_addPerson 0 = .ok (.aload_n 0, 1) := by decide +kernel
theorem dX2_addPerson_1 : decode cX2_addPerson 1 = .ok (.getfield 9, 3) := by decide +kernel
theorem dX2_addPerson_4 : decode cX2_addPerson 4 = .ok (.aload_n 0, 1) := by decide +kernel
theorem dX2_addPerson_5 : decode cX2_addPerson 5 = .ok (.getfield 37, 3) := by decide +kernel
theorem dX2_addPerson_8 : decode cX2_addPerson 8 = .ok (.iload_n 1, 1) := by decide +kernel
theorem dX2_addPerson_9 : decode cX2_addPerson 9 = .ok (.invokestatic 46, 3) := by decide +kernel
theorem dX2_addPerson_12 : decode cX2_addPerson 12 = .ok (.aload_n 0, 1) := by decide +kernel
theorem dX2_addPerson_13 : decode cX2_addPerson 13 = .ok (.dup, 1) := by decide +kernel
theorem dX2_addPerson_14 : decode cX2_addPerson 14 = .ok (.getfield 37, 3) := by decide +kernel
theorem dX2_addPerson_17 : decode cX2_addPerson 17 = .ok (.iconst 1, 1) := by decide +kernel
theorem dX2_addPerson_18 : decode cX2_addPerson 18 = .ok (.iadd, 1) := by decide +kernel
theorem dX2_addPerson_19 : decode cX2_addPerson 19 = .ok (.putfield 37, 3) := by decide +kernel
theorem dX2_addPerson_22 : decode cX2_addPerson 22 = .ok (.return_, 1) := by decide +kernel
theorem dX2_addQuality_0 : decode cX2_addQuality 0 = .ok (.aload_n 0, 1) := by decide +kernel
theorem dX2_addQuality_1 : decode cX2_addQuality 1 = .ok (.getfield 15, 3) := by decide +kernel
theorem dX2_addQuality_4 : decode cX2_addQuality 4 = .ok (.aload_n 0, 1) := by decide +kernel
theorem dX2_addQuality_5 : decode cX2_addQuality 5 = .ok (.getfield 40, 3) := by decide +kernel
theorem dX2_addQuality_8 : decode cX2_addQuality 8 = .ok (.iload_n 1, 1) := by decide +kernel
theorem dX2_addQuality_9 : decode cX2_addQuality 9 = .ok (.invokestatic 46, 3) := by decide +kernel
theorem dX2_addQuality_12 : decode cX2_addQuality 12 = .ok (.aload_n 0, 1) := by decide +kernel
theorem dX2_addQuality_13 : decode cX2_addQuality 13 = .ok (.getfield 18, 3) := by decide +kernel
theorem dX2_addQuality_16 : decode cX2_addQuality 16 = .ok (.aload_n 0, 1) := by decide +kernel
theorem dX2_addQuality_17 : decode cX2_addQuality 17 = .ok (.getfield 40, 3) := by decide +kernel
theorem dX2_addQuality_20 : decode cX2_addQuality 20 = .ok (.iload_n 2, 1) := by decide +kernel
theorem dX2_addQuality_21 : decode cX2_addQuality 21 = .ok (.invokestatic 46, 3) := by decide +kernel
theorem dX2_addQuality_24 : decode cX2_addQuality 24 = .ok (.aload_n 0, 1) := by decide +kernel
theorem dX2_addQuality_25 : decode cX2_addQuality 25 = .ok (.getfield 21, 3) := by decide +kernel
theorem dX2_addQuality_28 : decode cX2_addQuality 28 = .ok (.aload_n 0, 1) := by decide +kernel
theorem dX2_addQuality_29 : decode cX2_addQuality 29 = .ok (.getfield 40, 3) := by decide +kernel
theorem dX2_addQuality_32 : decode cX2_addQuality 32 = .ok (.iload_n 3, 1) := by decide +kernel
theorem dX2_addQuality_33 : decode cX2_addQuality 33 = .ok (.invokestatic 46, 3) := by decide +kernel
theorem dX2_addQuality_36 : decode cX2_addQuality 36 = .ok (.aload_n 0, 1) := by decide +kernel
theorem dX2_addQuality_37 : decode cX2_addQuality 37 = .ok (.dup, 1) := by decide +kernel
theorem dX2_addQuality_38 : decode cX2_addQuality 38 = .ok (.getfield 40, 3) := by decide +kernel
theorem dX2_addQuality_41 : decode cX2_addQuality 41 = .ok (.iconst 1, 1) := by decide +kernel
theorem dX2_addQuality_42 : decode cX2_addQuality 42 = .ok (.iadd, 1) := by decide +kernel
theorem dX2_addQuality_43 : decode cX2_addQuality 43 = .ok (.putfield 40, 3) := by decide +kernel
theorem dX2_addQuality_46 : decode cX2_addQuality 46 = .ok (.return_, 1) := by decide +kernel
theorem dX2_addDeed_0 : decode cX2_addDeed 0 = .ok (.aload_n 0, 1) := by decide +kernel
theorem dX2_addDeed_1 : decode cX2_addDeed 1 = .ok (.getfield 24, 3) := by decide +kernel
theorem dX2_addDeed_4 : decode cX2_addDeed 4 = .ok (.aload_n 0, 1) := by decide +kernel
theorem dX2_addDeed_5 : decode cX2_addDeed 5 = .ok (.getfield 43, 3) := by decide +kernel
theorem dX2_addDeed_8 : decode cX2_addDeed 8 = .ok (.iload_n 1, 1) := by decide +kernel
theorem dX2_addDeed_9 : decode cX2_addDeed 9 = .ok (.invokestatic 46, 3) := by decide +kernel
theorem dX2_addDeed_12 : decode cX2_addDeed 12 = .ok (.aload_n 0, 1) := by decide +kernel
theorem dX2_addDeed_13 : decode cX2_addDeed 13 = .ok (.getfield 27, 3) := by decide +kernel
theorem dX2_addDeed_16 : decode cX2_addDeed 16 = .ok (.aload_n 0, 1) := by decide +kernel
theorem dX2_addDeed_17 : decode cX2_addDeed 17 = .ok (.getfield 43, 3) := by decide +kernel
theorem dX2_addDeed_20 : decode cX2_addDeed 20 = .ok (.iload_n 2, 1) := by decide +kernel
theorem dX2_addDeed_21 : decode cX2_addDeed 21 = .ok (.invokestatic 46, 3) := by decide +kernel
theorem dX2_addDeed_24 : decode cX2_addDeed 24 = .ok (.aload_n 0, 1) := by decide +kernel
theorem dX2_addDeed_25 : decode cX2_addDeed 25 = .ok (.getfield 30, 3) := by decide +kernel
theorem dX2_addDeed_28 : decode cX2_addDeed 28 = .ok (.aload_n 0, 1) := by decide +kernel
theorem dX2_addDeed_29 : decode cX2_addDeed 29 = .ok (.getfield 43, 3) := by decide +kernel
theorem dX2_addDeed_32 : decode cX2_addDeed 32 = .ok (.iload_n 3, 1) := by decide +kernel
theorem dX2_addDeed_33 : decode cX2_addDeed 33 = .ok (.invokestatic 46, 3) := by decide +kernel
theorem dX2_addDeed_36 : decode cX2_addDeed 36 = .ok (.aload_n 0, 1) := by decide +kernel
theorem dX2_addDeed_37 : decode cX2_addDeed 37 = .ok (.dup, 1) := by decide +kernel
theorem dX2_addDeed_38 : decode cX2_addDeed 38 = .ok (.getfield 43, 3) := by decide +kernel
theorem dX2_addDeed_41 : decode cX2_addDeed 41 = .ok (.iconst 1, 1) := by decide +kernel
theorem dX2_addDeed_42 : decode cX2_addDeed 42 = .ok (.iadd, 1) := by decide +kernel
theorem dX2_addDeed_43 : decode cX2_addDeed 43 = .ok (.putfield 43, 3) := by decide +kernel
theorem dX2_addDeed_46 : decode cX2_addDeed 46 = .ok (.return_, 1) := by decide +kernel
theorem dX2_hasPerson_0 : decode cX2_hasPerson 0 = .ok (.iload_n 1, 1) := by decide +kernel
theorem dX2_hasPerson_1 : decode cX2_hasPerson 1 = .ok (.ifCond .lt 15, 3) := by decide +kernel
theorem dX2_hasPerson_4 : decode cX2_hasPerson 4 = .ok (.iload_n 1, 1) := by decide +kernel
theorem dX2_hasPerson_5 : decode cX2_hasPerson 5 = .ok (.aload_n 0, 1) := by decide +kernel
theorem dX2_hasPerson_6 : decode cX2_hasPerson 6 = .ok (.getfield 37, 3) := by decide +kernel
theorem dX2_hasPerson_9 : decode cX2_hasPerson 9 = .ok (.if_icmp .ge 7, 3) := by decide +kernel
theorem dX2_hasPerson_12 : decode cX2_hasPerson 12 = .ok (.iconst 1, 1) := by decide +kernel
theorem dX2_hasPerson_13 : decode cX2_hasPerson 13 = .ok (.goto 4, 3) := by decide +kernel
theorem dX2_hasPerson_16 : decode cX2_hasPerson 16 = .ok (.iconst 0, 1) := by decide +kernel
theorem dX2_hasPerson_17 : decode cX2_hasPerson 17 = .ok (.ireturn, 1) := by decide +kernel
theorem dX2_hasQuality_0 : decode cX2_hasQuality 0 = .ok (.iload_n 1, 1) := by decide +kernel
theorem dX2_hasQuality_1 : decode cX2_hasQuality 1 = .ok (.ifCond .lt 15, 3) := by decide +kernel
theorem dX2_hasQuality_4 : decode cX2_hasQuality 4 = .ok (.iload_n 1, 1) := by decide +kernel
theorem dX2_hasQuality_5 : decode cX2_hasQuality 5 = .ok (.aload_n 0, 1) := by decide +kernel
theorem dX2_hasQuality_6 : decode cX2_hasQuality 6 = .ok (.getfield 40, 3) := by decide +kernel
theorem dX2_hasQuality_9 : decode cX2_hasQuality 9 = .ok (.if_icmp .ge 7, 3) := by decide +kernel
theorem dX2_hasQuality_12 : decode cX2_hasQuality 12 = .ok (.iconst 1, 1) := by decide +kernel
theorem dX2_hasQuality_13 : decode cX2_hasQuality 13 = .ok (.goto 4, 3) := by decide +kernel
theorem dX2_hasQuality_16 : decode cX2_hasQuality 16 = .ok (.iconst 0, 1) := by decide +kernel
theorem dX2_hasQuality_17 : decode cX2_hasQuality 17 = .ok (.ireturn, 1) := by decide +kernel
theorem dX2_hasDeed_0 : decode cX2_hasDeed 0 = .ok (.iload_n 1, 1) := by decide +kernel
theorem dX2_hasDeed_1 : decode cX2_hasDeed 1 = .ok (.ifCond .lt 15, 3) := by decide +kernel
theorem dX2_hasDeed_4 : decode cX2_hasDeed 4 = .ok (.iload_n 1, 1) := by decide +kernel
theorem dX2_hasDeed_5 : decode cX2_hasDeed 5 = .ok (.aload_n 0, 1) := by decide +kernel
theorem dX2_hasDeed_6 : decode cX2_hasDeed 6 = .ok (.getfield 43, 3) := by decide +kernel
theorem dX2_hasDeed_9 : decode cX2_hasDeed 9 = .ok (.if_icmp .ge 7, 3) := by decide +kernel
theorem dX2_hasDeed_12 : decode cX2_hasDeed 12 = .ok (.iconst 1, 1) := by decide +kernel
theorem dX2_hasDeed_13 : decode cX2_hasDeed 13 = .ok (.goto 4, 3) := by decide +kernel
theorem dX2_hasDeed_16 : decode cX2_hasDeed 16 = .ok (.iconst 0, 1) := by decide +kernel
theorem dX2_hasDeed_17 : decode cX2_hasDeed 17 = .ok (.ireturn, 1) := by decide +kernel
theorem dX2_firstPurseOf_0 : decode cX2_firstPurseOf 0 = .ok (.aload_n 0, 1) := by decide +kernel
theorem dX2_firstPurseOf_1 : decode cX2_firstPurseOf 1 = .ok (.getfield 9, 3) := by decide +kernel
theorem dX2_firstPurseOf_4 : decode cX2_firstPurseOf 4 = .ok (.iload_n 1, 1) := by decide +kernel
theorem dX2_firstPurseOf_5 : decode cX2_firstPurseOf 5 = .ok (.invokestatic 50, 3) := by decide +kernel
theorem dX2_firstPurseOf_8 : decode cX2_firstPurseOf 8 = .ok (.ireturn, 1) := by decide +kernel
theorem dX2_ownerOf_0 : decode cX2_ownerOf 0 = .ok (.aload_n 0, 1) := by decide +kernel
theorem dX2_ownerOf_1 : decode cX2_ownerOf 1 = .ok (.getfield 15, 3) := by decide +kernel
theorem dX2_ownerOf_4 : decode cX2_ownerOf 4 = .ok (.iload_n 1, 1) := by decide +kernel
theorem dX2_ownerOf_5 : decode cX2_ownerOf 5 = .ok (.invokestatic 50, 3) := by decide +kernel
theorem dX2_ownerOf_8 : decode cX2_ownerOf 8 = .ok (.ireturn, 1) := by decide +kernel
theorem dX2_worthOf_0 : decode cX2_worthOf 0 = .ok (.aload_n 0, 1) := by decide +kernel
theorem dX2_worthOf_1 : decode cX2_worthOf 1 = .ok (.getfield 18, 3) := by decide +kernel
theorem dX2_worthOf_4 : decode cX2_worthOf 4 = .ok (.iload_n 1, 1) := by decide +kernel
theorem dX2_worthOf_5 : decode cX2_worthOf 5 = .ok (.invokestatic 50, 3) := by decide +kernel
theorem dX2_worthOf_8 : decode cX2_worthOf 8 = .ok (.ireturn, 1) := by decide +kernel
theorem dX2_kindOf_0 : decode cX2_kindOf 0 = .ok (.aload_n 0, 1) := by decide +kernel
theorem dX2_kindOf_1 : decode cX2_kindOf 1 = .ok (.getfield 21, 3) := by decide +kernel
theorem dX2_kindOf_4 : decode cX2_kindOf 4 = .ok (.iload_n 1, 1) := by decide +kernel
theorem dX2_kindOf_5 : decode cX2_kindOf 5 = .ok (.invokestatic 50, 3) := by decide +kernel
theorem dX2_kindOf_8 : decode cX2_kindOf 8 = .ok (.ireturn, 1) := by decide +kernel
theorem dX2_wantedBy_0 : decode cX2_wantedBy 0 = .ok (.aload_n 0, 1) := by decide +kernel
theorem dX2_wantedBy_1 : decode cX2_wantedBy 1 = .ok (.getfield 24, 3) := by decide +kernel
theorem dX2_wantedBy_4 : decode cX2_wantedBy 4 = .ok (.iload_n 1, 1) := by decide +kernel
theorem dX2_wantedBy_5 : decode cX2_wantedBy 5 = .ok (.invokestatic 50, 3) := by decide +kernel
theorem dX2_wantedBy_8 : decode cX2_wantedBy 8 = .ok (.ireturn, 1) := by decide +kernel
theorem dX2_dayOf_0 : decode cX2_dayOf 0 = .ok (.aload_n 0, 1) := by decide +kernel
theorem dX2_dayOf_1 : decode cX2_dayOf 1 = .ok (.getfield 27, 3) := by decide +kernel
theorem dX2_dayOf_4 : decode cX2_dayOf 4 = .ok (.iload_n 1, 1) := by decide +kernel
theorem dX2_dayOf_5 : decode cX2_dayOf 5 = .ok (.invokestatic 50, 3) := by decide +kernel
theorem dX2_dayOf_8 : decode cX2_dayOf 8 = .ok (.ireturn, 1) := by decide +kernel
theorem dX2_rewardOf_0 : decode cX2_rewardOf 0 = .ok (.aload_n 0, 1) := by decide +kernel
theorem dX2_rewardOf_1 : decode cX2_rewardOf 1 = .ok (.getfield 30, 3) := by decide +kernel
theorem dX2_rewardOf_4 : decode cX2_rewardOf 4 = .ok (.iload_n 1, 1) := by decide +kernel
theorem dX2_rewardOf_5 : decode cX2_rewardOf 5 = .ok (.invokestatic 50, 3) := by decide +kernel
theorem dX2_rewardOf_8 : decode cX2_rewardOf 8 = .ok (.ireturn, 1) := by decide +kernel
theorem dX2_qualitiesOf_0 : decode cX2_qualitiesOf 0 = .ok (.iconst 0, 1) := by decide +kernel
theorem dX2_qualitiesOf_1 : decode cX2_qualitiesOf 1 = .ok (.istore_n 2, 1) := by decide +kernel
theorem dX2_qualitiesOf_2 : decode cX2_qualitiesOf 2 = .ok (.iconst 0, 1) := by decide +kernel
theorem dX2_qualitiesOf_3 : decode cX2_qualitiesOf 3 = .ok (.istore_n 3, 1) := by decide +kernel
theorem dX2_qualitiesOf_4 : decode cX2_qualitiesOf 4 = .ok (.iload_n 3, 1) := by decide +kernel
theorem dX2_qualitiesOf_5 : decode cX2_qualitiesOf 5 = .ok (.aload_n 0, 1) := by decide +kernel
theorem dX2_qualitiesOf_6 : decode cX2_qualitiesOf 6 = .ok (.getfield 40, 3) := by decide +kernel
theorem dX2_qualitiesOf_9 : decode cX2_qualitiesOf 9 = .ok (.if_icmp .ge 28, 3) := by decide +kernel
theorem dX2_qualitiesOf_12 : decode cX2_qualitiesOf 12 = .ok (.iload_n 2, 1) := by decide +kernel
theorem dX2_qualitiesOf_13 : decode cX2_qualitiesOf 13 = .ok (.aload_n 0, 1) := by decide +kernel
theorem dX2_qualitiesOf_14 : decode cX2_qualitiesOf 14 = .ok (.iload_n 3, 1) := by decide +kernel
theorem dX2_qualitiesOf_15 : decode cX2_qualitiesOf 15 = .ok (.invokevirtual 54, 3) := by decide +kernel
theorem dX2_qualitiesOf_18 : decode cX2_qualitiesOf 18 = .ok (.iload_n 1, 1) := by decide +kernel
theorem dX2_qualitiesOf_19 : decode cX2_qualitiesOf 19 = .ok (.if_icmp .ne 9, 3) := by decide +kernel
theorem dX2_qualitiesOf_22 : decode cX2_qualitiesOf 22 = .ok (.iconst 1, 1) := by decide +kernel
theorem dX2_qualitiesOf_23 : decode cX2_qualitiesOf 23 = .ok (.iload_n 3, 1) := by decide +kernel
theorem dX2_qualitiesOf_24 : decode cX2_qualitiesOf 24 = .ok (.ishl, 1) := by decide +kernel
theorem dX2_qualitiesOf_25 : decode cX2_qualitiesOf 25 = .ok (.goto 4, 3) := by decide +kernel
theorem dX2_qualitiesOf_28 : decode cX2_qualitiesOf 28 = .ok (.iconst 0, 1) := by decide +kernel
theorem dX2_qualitiesOf_29 : decode cX2_qualitiesOf 29 = .ok (.ior, 1) := by decide +kernel
theorem dX2_qualitiesOf_30 : decode cX2_qualitiesOf 30 = .ok (.istore_n 2, 1) := by decide +kernel
theorem dX2_qualitiesOf_31 : decode cX2_qualitiesOf 31 = .ok (.iinc 3 1, 3) := by decide +kernel
theorem dX2_qualitiesOf_34 : decode cX2_qualitiesOf 34 = .ok (.goto (-30), 3) := by decide +kernel
theorem dX2_qualitiesOf_37 : decode cX2_qualitiesOf 37 = .ok (.iload_n 2, 1) := by decide +kernel
theorem dX2_qualitiesOf_38 : decode cX2_qualitiesOf 38 = .ok (.ireturn, 1) := by decide +kernel
theorem dX2_deedsOf_0 : decode cX2_deedsOf 0 = .ok (.iconst 0, 1) := by decide +kernel
theorem dX2_deedsOf_1 : decode cX2_deedsOf 1 = .ok (.istore_n 2, 1) := by decide +kernel
theorem dX2_deedsOf_2 : decode cX2_deedsOf 2 = .ok (.iconst 0, 1) := by decide +kernel
theorem dX2_deedsOf_3 : decode cX2_deedsOf 3 = .ok (.istore_n 3, 1) := by decide +kernel
theorem dX2_deedsOf_4 : decode cX2_deedsOf 4 = .ok (.iload_n 3, 1) := by decide +kernel
theorem dX2_deedsOf_5 : decode cX2_deedsOf 5 = .ok (.aload_n 0, 1) := by decide +kernel
theorem dX2_deedsOf_6 : decode cX2_deedsOf 6 = .ok (.getfield 43, 3) := by decide +kernel
theorem dX2_deedsOf_9 : decode cX2_deedsOf 9 = .ok (.if_icmp .ge 32, 3) := by decide +kernel
theorem dX2_deedsOf_12 : decode cX2_deedsOf 12 = .ok (.iload_n 2, 1) := by decide +kernel
theorem dX2_deedsOf_13 : decode cX2_deedsOf 13 = .ok (.aload_n 0, 1) := by decide +kernel
theorem dX2_deedsOf_14 : decode cX2_deedsOf 14 = .ok (.aload_n 0, 1) := by decide +kernel
theorem dX2_deedsOf_15 : decode cX2_deedsOf 15 = .ok (.iload_n 3, 1) := by decide +kernel
theorem dX2_deedsOf_16 : decode cX2_deedsOf 16 = .ok (.invokevirtual 58, 3) := by decide +kernel
theorem dX2_deedsOf_19 : decode cX2_deedsOf 19 = .ok (.invokevirtual 54, 3) := by decide +kernel
theorem dX2_deedsOf_22 : decode cX2_deedsOf 22 = .ok (.iload_n 1, 1) := by decide +kernel
theorem dX2_deedsOf_23 : decode cX2_deedsOf 23 = .ok (.if_icmp .ne 9, 3) := by decide +kernel
theorem dX2_deedsOf_26 : decode cX2_deedsOf 26 = .ok (.iconst 1, 1) := by decide +kernel
theorem dX2_deedsOf_27 : decode cX2_deedsOf 27 = .ok (.iload_n 3, 1) := by decide +kernel
theorem dX2_deedsOf_28 : decode cX2_deedsOf 28 = .ok (.ishl, 1) := by decide +kernel
theorem dX2_deedsOf_29 : decode cX2_deedsOf 29 = .ok (.goto 4, 3) := by decide +kernel
theorem dX2_deedsOf_32 : decode cX2_deedsOf 32 = .ok (.iconst 0, 1) := by decide +kernel
theorem dX2_deedsOf_33 : decode cX2_deedsOf 33 = .ok (.ior, 1) := by decide +kernel
theorem dX2_deedsOf_34 : decode cX2_deedsOf 34 = .ok (.istore_n 2, 1) := by decide +kernel
theorem dX2_deedsOf_35 : decode cX2_deedsOf 35 = .ok (.iinc 3 1, 3) := by decide +kernel
theorem dX2_deedsOf_38 : decode cX2_deedsOf 38 = .ok (.goto (-34), 3) := by decide +kernel
theorem dX2_deedsOf_41 : decode cX2_deedsOf 41 = .ok (.iload_n 2, 1) := by decide +kernel
theorem dX2_deedsOf_42 : decode cX2_deedsOf 42 = .ok (.ireturn, 1) := by decide +kernel
theorem dX3_init_0 : decode cX3_init 0 = .ok (.aload_n 0, 1) := by decide +kernel
theorem dX3_init_1 : decode cX3_init 1 = .ok (.invokespecial 5, 3) := by decide +kernel
theorem dX3_init_4 : decode cX3_init 4 = .ok (.aload_n 0, 1) := by decide +kernel
theorem dX3_init_5 : decode cX3_init 5 = .ok (.bipush 20, 2) := by decide +kernel
theorem dX3_init_7 : decode cX3_init 7 = .ok (.newarray .int, 2) := by decide +kernel
theorem dX3_init_9 : decode cX3_init 9 = .ok (.putfield 11, 3) := by decide +kernel
theorem dX3_init_12 : decode cX3_init 12 = .ok (.aload_n 0, 1) := by decide +kernel
theorem dX3_init_13 : decode cX3_init 13 = .ok (.aload_n 1, 1) := by decide +kernel
theorem dX3_init_14 : decode cX3_init 14 = .ok (.putfield 15, 3) := by decide +kernel
theorem dX3_init_17 : decode cX3_init 17 = .ok (.return_, 1) := by decide +kernel
theorem dX3_begin_0 : decode cX3_begin 0 = .ok (.iconst 0, 1) := by decide +kernel
theorem dX3_begin_1 : decode cX3_begin 1 = .ok (.istore_n 1, 1) := by decide +kernel
theorem dX3_begin_2 : decode cX3_begin 2 = .ok (.iload_n 1, 1) := by decide +kernel
theorem dX3_begin_3 : decode cX3_begin 3 = .ok (.aload_n 0, 1) := by decide +kernel
theorem dX3_begin_4 : decode cX3_begin 4 = .ok (.getfield 11, 3) := by decide +kernel
theorem dX3_begin_7 : decode cX3_begin 7 = .ok (.arraylength, 1) := by decide +kernel
theorem dX3_begin_8 : decode cX3_begin 8 = .ok (.if_icmp .ge 16, 3) := by decide +kernel
theorem dX3_begin_11 : decode cX3_begin 11 = .ok (.aload_n 0, 1) := by decide +kernel
theorem dX3_begin_12 : decode cX3_begin 12 = .ok (.getfield 11, 3) := by decide +kernel
theorem dX3_begin_15 : decode cX3_begin 15 = .ok (.iload_n 1, 1) := by decide +kernel
theorem dX3_begin_16 : decode cX3_begin 16 = .ok (.iconst 0, 1) := by decide +kernel
theorem dX3_begin_17 : decode cX3_begin 17 = .ok (.iastore, 1) := by decide +kernel
theorem dX3_begin_18 : decode cX3_begin 18 = .ok (.iinc 1 1, 3) := by decide +kernel
theorem dX3_begin_21 : decode cX3_begin 21 = .ok (.goto (-19), 3) := by decide +kernel
theorem dX3_begin_24 : decode cX3_begin 24 = .ok (.aload_n 0, 1) := by decide +kernel
theorem dX3_begin_25 : decode cX3_begin 25 = .ok (.getfield 11, 3) := by decide +kernel
theorem dX3_begin_28 : decode cX3_begin 28 = .ok (.iconst 0, 1) := by decide +kernel
theorem dX3_begin_29 : decode cX3_begin 29 = .ok (.iconst 4, 1) := by decide +kernel
theorem dX3_begin_30 : decode cX3_begin 30 = .ok (.aload_n 0, 1) := by decide +kernel
theorem dX3_begin_31 : decode cX3_begin 31 = .ok (.getfield 15, 3) := by decide +kernel
theorem dX3_begin_34 : decode cX3_begin 34 = .ok (.getfield 19, 3) := by decide +kernel
theorem dX3_begin_37 : decode cX3_begin 37 = .ok (.imul, 1) := by decide +kernel
theorem dX3_begin_38 : decode cX3_begin 38 = .ok (.invokestatic 25, 3) := by decide +kernel
theorem dX3_begin_41 : decode cX3_begin 41 = .ok (.iconst 0, 1) := by decide +kernel
theorem dX3_begin_42 : decode cX3_begin 42 = .ok (.istore_n 1, 1) := by decide +kernel
theorem dX3_begin_43 : decode cX3_begin 43 = .ok (.iload_n 1, 1) := by decide +kernel
theorem dX3_begin_44 : decode cX3_begin 44 = .ok (.aload_n 0, 1) := by decide +kernel
theorem dX3_begin_45 : decode cX3_begin 45 = .ok (.getfield 15, 3) := by decide +kernel
theorem dX3_begin_48 : decode cX3_begin 48 = .ok (.getfield 29, 3) := by decide +kernel
theorem dX3_begin_51 : decode cX3_begin 51 = .ok (.if_icmp .ge 27, 3) := by decide +kernel
theorem dX3_begin_54 : decode cX3_begin 54 = .ok (.aload_n 0, 1) := by decide +kernel
theorem dX3_begin_55 : decode cX3_begin 55 = .ok (.getfield 11, 3) := by decide +kernel
theorem dX3_begin_58 : decode cX3_begin 58 = .ok (.iconst 2, 1) := by decide +kernel
theorem dX3_begin_59 : decode cX3_begin 59 = .ok (.iload_n 1, 1) := by decide +kernel
theorem dX3_begin_60 : decode cX3_begin 60 = .ok (.iadd, 1) := by decide +kernel
theorem dX3_begin_61 : decode cX3_begin 61 = .ok (.aload_n 0, 1) := by decide +kernel
theorem dX3_begin_62 : decode cX3_begin 62 = .ok (.getfield 15, 3) := by decide +kernel
theorem dX3_begin_65 : decode cX3_begin 65 = .ok (.iload_n 1, 1) := by decide +kernel
theorem dX3_begin_66 : decode cX3_begin 66 = .ok (.invokevirtual 32, 3) := by decide +kernel
theorem dX3_begin_69 : decode cX3_begin 69 = .ok (.invokestatic 25, 3) := by decide +kernel
theorem dX3_begin_72 : decode cX3_begin 72 = .ok (.iinc 1 1, 3) := by decide +kernel
theorem dX3_begin_75 : decode cX3_begin 75 = .ok (.goto (-32), 3) := by decide +kernel
theorem dX3_begin_78 : decode cX3_begin 78 = .ok (.return_, 1) := by decide +kernel
theorem dX3_copy_0 : decode cX3_copy 0 = .ok (.aload_n 1, 1) := by decide +kernel
theorem dX3_copy_1 : decode cX3_copy 1 = .ok (.aload_n 0, 1) := by decide +kernel
theorem dX3_copy_2 : decode cX3_copy 2 = .ok (.getfield 11, 3) := by decide +kernel
theorem dX3_copy_5 : decode cX3_copy 5 = .ok (.iconst 0, 1) := by decide +kernel
theorem dX3_copy_6 : decode cX3_copy 6 = .ok (.invokevirtual 36, 3) := by decide +kernel
theorem dX3_copy_9 : decode cX3_copy 9 = .ok (.return_, 1) := by decide +kernel
theorem dX3_saveTo_0 : decode cX3_saveTo 0 = .ok (.iconst 0, 1) := by decide +kernel
theorem dX3_saveTo_1 : decode cX3_saveTo 1 = .ok (.istore_n 3, 1) := by decide +kernel
theorem dX3_saveTo_2 : decode cX3_saveTo 2 = .ok (.iload_n 3, 1) := by decide +kernel
theorem dX3_saveTo_3 : decode cX3_saveTo 3 = .ok (.aload_n 0, 1) := by decide +kernel
theorem dX3_saveTo_4 : decode cX3_saveTo 4 = .ok (.getfield 11, 3) := by decide +kernel
theorem dX3_saveTo_7 : decode cX3_saveTo 7 = .ok (.arraylength, 1) := by decide +kernel
theorem dX3_saveTo_8 : decode cX3_saveTo 8 = .ok (.if_icmp .ge 25, 3) := by decide +kernel
theorem dX3_saveTo_11 : decode cX3_saveTo 11 = .ok (.aload_n 1, 1) := by decide +kernel
theorem dX3_saveTo_12 : decode cX3_saveTo 12 = .ok (.iload_n 2, 1) := by decide +kernel
theorem dX3_saveTo_13 : decode cX3_saveTo 13 = .ok (.bipush 20, 2) := by decide +kernel
theorem dX3_saveTo_15 : decode cX3_saveTo 15 = .ok (.imul, 1) := by decide +kernel
theorem dX3_saveTo_16 : decode cX3_saveTo 16 = .ok (.iload_n 3, 1) := by decide +kernel
theorem dX3_saveTo_17 : decode cX3_saveTo 17 = .ok (.iadd, 1) := by decide +kernel
theorem dX3_saveTo_18 : decode cX3_saveTo 18 = .ok (.aload_n 0, 1) := by decide +kernel
theorem dX3_saveTo_19 : decode cX3_saveTo 19 = .ok (.getfield 11, 3) := by decide +kernel
theorem dX3_saveTo_22 : decode cX3_saveTo 22 = .ok (.iload_n 3, 1) := by decide +kernel
theorem dX3_saveTo_23 : decode cX3_saveTo 23 = .ok (.iaload, 1) := by decide +kernel
theorem dX3_saveTo_24 : decode cX3_saveTo 24 = .ok (.invokestatic 25, 3) := by decide +kernel
theorem dX3_saveTo_27 : decode cX3_saveTo 27 = .ok (.iinc 3 1, 3) := by decide +kernel
theorem dX3_saveTo_30 : decode cX3_saveTo 30 = .ok (.goto (-28), 3) := by decide +kernel
theorem dX3_saveTo_33 : decode cX3_saveTo 33 = .ok (.return_, 1) := by decide +kernel
theorem dX3_loadFrom_0 : decode cX3_loadFrom 0 = .ok (.iconst 0, 1) := by decide +kernel
theorem dX3_loadFrom_1 : decode cX3_loadFrom 1 = .ok (.istore_n 3, 1) := by decide +kernel
theorem dX3_loadFrom_2 : decode cX3_loadFrom 2 = .ok (.iload_n 3, 1) := by decide +kernel
theorem dX3_loadFrom_3 : decode cX3_loadFrom 3 = .ok (.aload_n 0, 1) := by decide +kernel
theorem dX3_loadFrom_4 : decode cX3_loadFrom 4 = .ok (.getfield 11, 3) := by decide +kernel
theorem dX3_loadFrom_7 : decode cX3_loadFrom 7 = .ok (.arraylength, 1) := by decide +kernel
theorem dX3_loadFrom_8 : decode cX3_loadFrom 8 = .ok (.if_icmp .ge 25, 3) := by decide +kernel
theorem dX3_loadFrom_11 : decode cX3_loadFrom 11 = .ok (.aload_n 0, 1) := by decide +kernel
theorem dX3_loadFrom_12 : decode cX3_loadFrom 12 = .ok (.getfield 11, 3) := by decide +kernel
theorem dX3_loadFrom_15 : decode cX3_loadFrom 15 = .ok (.iload_n 3, 1) := by decide +kernel
theorem dX3_loadFrom_16 : decode cX3_loadFrom 16 = .ok (.aload_n 1, 1) := by decide +kernel
theorem dX3_loadFrom_17 : decode cX3_loadFrom 17 = .ok (.iload_n 2, 1) := by decide +kernel
theorem dX3_loadFrom_18 : decode cX3_loadFrom 18 = .ok (.bipush 20, 2) := by decide +kernel
theorem dX3_loadFrom_20 : decode cX3_loadFrom 20 = .ok (.imul, 1) := by decide +kernel
theorem dX3_loadFrom_21 : decode cX3_loadFrom 21 = .ok (.iload_n 3, 1) := by decide +kernel
theorem dX3_loadFrom_22 : decode cX3_loadFrom 22 = .ok (.iadd, 1) := by decide +kernel
theorem dX3_loadFrom_23 : decode cX3_loadFrom 23 = .ok (.invokestatic 40, 3) := by decide +kernel
theorem dX3_loadFrom_26 : decode cX3_loadFrom 26 = .ok (.iastore, 1) := by decide +kernel
theorem dX3_loadFrom_27 : decode cX3_loadFrom 27 = .ok (.iinc 3 1, 3) := by decide +kernel
theorem dX3_loadFrom_30 : decode cX3_loadFrom 30 = .ok (.goto (-28), 3) := by decide +kernel
theorem dX3_loadFrom_33 : decode cX3_loadFrom 33 = .ok (.return_, 1) := by decide +kernel
theorem dX3_inTill_0 : decode cX3_inTill 0 = .ok (.aload_n 0, 1) := by decide +kernel
theorem dX3_inTill_1 : decode cX3_inTill 1 = .ok (.getfield 11, 3) := by decide +kernel
theorem dX3_inTill_4 : decode cX3_inTill 4 = .ok (.iconst 0, 1) := by decide +kernel
theorem dX3_inTill_5 : decode cX3_inTill 5 = .ok (.invokestatic 40, 3) := by decide +kernel
theorem dX3_inTill_8 : decode cX3_inTill 8 = .ok (.ireturn, 1) := by decide +kernel
theorem dX3_today_0 : decode cX3_today 0 = .ok (.aload_n 0, 1) := by decide +kernel
theorem dX3_today_1 : decode cX3_today 1 = .ok (.getfield 11, 3) := by decide +kernel
theorem dX3_today_4 : decode cX3_today 4 = .ok (.iconst 1, 1) := by decide +kernel
theorem dX3_today_5 : decode cX3_today 5 = .ok (.invokestatic 40, 3) := by decide +kernel
theorem dX3_today_8 : decode cX3_today 8 = .ok (.ireturn, 1) := by decide +kernel
theorem dX3_purseOf_0 : decode cX3_purseOf 0 = .ok (.aload_n 0, 1) := by decide +kernel
theorem dX3_purseOf_1 : decode cX3_purseOf 1 = .ok (.getfield 11, 3) := by decide +kernel
theorem dX3_purseOf_4 : decode cX3_purseOf 4 = .ok (.iconst 2, 1) := by decide +kernel
theorem dX3_purseOf_5 : decode cX3_purseOf 5 = .ok (.iload_n 1, 1) := by decide +kernel
theorem dX3_purseOf_6 : decode cX3_purseOf 6 = .ok (.iadd, 1) := by decide +kernel
theorem dX3_purseOf_7 : decode cX3_purseOf 7 = .ok (.invokestatic 40, 3) := by decide +kernel
theorem dX3_purseOf_10 : decode cX3_purseOf 10 = .ok (.ireturn, 1) := by decide +kernel
theorem dX3_standingOf_0 : decode cX3_standingOf 0 = .ok (.aload_n 0, 1) := by decide +kernel
theorem dX3_standingOf_1 : decode cX3_standingOf 1 = .ok (.getfield 11, 3) := by decide +kernel
theorem dX3_standingOf_4 : decode cX3_standingOf 4 = .ok (.iconst 5, 1) := by decide +kernel
theorem dX3_standingOf_5 : decode cX3_standingOf 5 = .ok (.iload_n 1, 1) := by decide +kernel
theorem dX3_standingOf_6 : decode cX3_standingOf 6 = .ok (.iadd, 1) := by decide +kernel
theorem dX3_standingOf_7 : decode cX3_standingOf 7 = .ok (.invokestatic 40, 3) := by decide +kernel
theorem dX3_standingOf_10 : decode cX3_standingOf 10 = .ok (.ireturn, 1) := by decide +kernel
theorem dX3_pledgedOn_0 : decode cX3_pledgedOn 0 = .ok (.aload_n 0, 1) := by decide +kernel
theorem dX3_pledgedOn_1 : decode cX3_pledgedOn 1 = .ok (.getfield 11, 3) := by decide +kernel
theorem dX3_pledgedOn_4 : decode cX3_pledgedOn 4 = .ok (.bipush 10, 2) := by decide +kernel
theorem dX3_pledgedOn_6 : decode cX3_pledgedOn 6 = .ok (.iload_n 1, 1) := by decide +kernel
theorem dX3_pledgedOn_7 : decode cX3_pledgedOn 7 = .ok (.iadd, 1) := by decide +kernel
theorem dX3_pledgedOn_8 : decode cX3_pledgedOn 8 = .ok (.invokestatic 40, 3) := by decide +kernel
theorem dX3_pledgedOn_11 : decode cX3_pledgedOn 11 = .ok (.ireturn, 1) := by decide +kernel
theorem dX3_outcomeOf_0 : decode cX3_outcomeOf 0 = .ok (.aload_n 0, 1) := by decide +kernel
theorem dX3_outcomeOf_1 : decode cX3_outcomeOf 1 = .ok (.getfield 11, 3) := by decide +kernel
theorem dX3_outcomeOf_4 : decode cX3_outcomeOf 4 = .ok (.bipush 15, 2) := by decide +kernel
theorem dX3_outcomeOf_6 : decode cX3_outcomeOf 6 = .ok (.iload_n 1, 1) := by decide +kernel
theorem dX3_outcomeOf_7 : decode cX3_outcomeOf 7 = .ok (.iadd, 1) := by decide +kernel
theorem dX3_outcomeOf_8 : decode cX3_outcomeOf 8 = .ok (.invokestatic 40, 3) := by decide +kernel
theorem dX3_outcomeOf_11 : decode cX3_outcomeOf 11 = .ok (.ireturn, 1) := by decide +kernel
theorem dX3_inAllPurses_0 : decode cX3_inAllPurses 0 = .ok (.iconst 0, 1) := by decide +kernel
theorem dX3_inAllPurses_1 : decode cX3_inAllPurses 1 = .ok (.istore_n 1, 1) := by decide +kernel
theorem dX3_inAllPurses_2 : decode cX3_inAllPurses 2 = .ok (.iconst 0, 1) := by decide +kernel
theorem dX3_inAllPurses_3 : decode cX3_inAllPurses 3 = .ok (.istore_n 2, 1) := by decide +kernel
theorem dX3_inAllPurses_4 : decode cX3_inAllPurses 4 = .ok (.iload_n 2, 1) := by decide +kernel
theorem dX3_inAllPurses_5 : decode cX3_inAllPurses 5 = .ok (.aload_n 0, 1) := by decide +kernel
theorem dX3_inAllPurses_6 : decode cX3_inAllPurses 6 = .ok (.getfield 15, 3) := by decide +kernel
theorem dX3_inAllPurses_9 : decode cX3_inAllPurses 9 = .ok (.getfield 29, 3) := by decide +kernel
theorem dX3_inAllPurses_12 : decode cX3_inAllPurses 12 = .ok (.if_icmp .ge 17, 3) := by decide +kernel
theorem dX3_inAllPurses_15 : decode cX3_inAllPurses 15 = .ok (.iload_n 1, 1) := by decide +kernel
theorem dX3_inAllPurses_16 : decode cX3_inAllPurses 16 = .ok (.aload_n 0, 1) := by decide +kernel
theorem dX3_inAllPurses_17 : decode cX3_inAllPurses 17 = .ok (.iload_n 2, 1) := by decide +kernel
theorem dX3_inAllPurses_18 : decode cX3_inAllPurses 18 = .ok (.invokevirtual 44, 3) := by decide +kernel
theorem dX3_inAllPurses_21 : decode cX3_inAllPurses 21 = .ok (.iadd, 1) := by decide +kernel
theorem dX3_inAllPurses_22 : decode cX3_inAllPurses 22 = .ok (.istore_n 1, 1) := by decide +kernel
theorem dX3_inAllPurses_23 : decode cX3_inAllPurses 23 = .ok (.iinc 2 1, 3) := by decide +kernel
theorem dX3_inAllPurses_26 : decode cX3_inAllPurses 26 = .ok (.goto (-22), 3) := by decide +kernel
theorem dX3_inAllPurses_29 : decode cX3_inAllPurses 29 = .ok (.iload_n 1, 1) := by decide +kernel
theorem dX3_inAllPurses_30 : decode cX3_inAllPurses 30 = .ok (.ireturn, 1) := by decide +kernel
theorem dX3_qualitiesThatAre_0 : decode cX3_qualitiesThatAre 0 = .ok (.iconst 0, 1) := by decide +kernel
theorem dX3_qualitiesThatAre_1 : decode cX3_qualitiesThatAre 1 = .ok (.istore_n 2, 1) := by decide +kernel
theorem dX3_qualitiesThatAre_2 : decode cX3_qualitiesThatAre 2 = .ok (.iconst 0, 1) := by decide +kernel
theorem dX3_qualitiesThatAre_3 : decode cX3_qualitiesThatAre 3 = .ok (.istore_n 3, 1) := by decide +kernel
theorem dX3_qualitiesThatAre_4 : decode cX3_qualitiesThatAre 4 = .ok (.iload_n 3, 1) := by decide +kernel
theorem dX3_qualitiesThatAre_5 : decode cX3_qualitiesThatAre 5 = .ok (.aload_n 0, 1) := by decide +kernel
theorem dX3_qualitiesThatAre_6 : decode cX3_qualitiesThatAre 6 = .ok (.getfield 15, 3) := by decide +kernel
theorem dX3_qualitiesThatAre_9 : decode cX3_qualitiesThatAre 9 = .ok (.getfield 47, 3) := by decide +kernel
theorem dX3_qualitiesThatAre_12 : decode cX3_qualitiesThatAre 12 = .ok (.if_icmp .ge 28, 3) := by decide +kernel
theorem dX3_qualitiesThatAre_15 : decode cX3_qualitiesThatAre 15 = .ok (.iload_n 2, 1) := by decide +kernel
theorem dX3_qualitiesThatAre_16 : decode cX3_qualitiesThatAre 16 = .ok (.aload_n 0, 1) := by decide +kernel
theorem dX3_qualitiesThatAre_17 : decode cX3_qualitiesThatAre 17 = .ok (.iload_n 3, 1) := by decide +kernel
theorem dX3_qualitiesThatAre_18 : decode cX3_qualitiesThatAre 18 = .ok (.invokevirtual 50, 3) := by decide +kernel
theorem dX3_qualitiesThatAre_21 : decode cX3_qualitiesThatAre 21 = .ok (.iload_n 1, 1) := by decide +kernel
theorem dX3_qualitiesThatAre_22 : decode cX3_qualitiesThatAre 22 = .ok (.if_icmp .ne 9, 3) := by decide +kernel
theorem dX3_qualitiesThatAre_25 : decode cX3_qualitiesThatAre 25 = .ok (.iconst 1, 1) := by decide +kernel
theorem dX3_qualitiesThatAre_26 : decode cX3_qualitiesThatAre 26 = .ok (.iload_n 3, 1) := by decide +kernel
theorem dX3_qualitiesThatAre_27 : decode cX3_qualitiesThatAre 27 = .ok (.ishl, 1) := by decide +kernel
theorem dX3_qualitiesThatAre_28 : decode cX3_qualitiesThatAre 28 = .ok (.goto 4, 3) := by decide +kernel
theorem dX3_qualitiesThatAre_31 : decode cX3_qualitiesThatAre 31 = .ok (.iconst 0, 1) := by decide +kernel
theorem dX3_qualitiesThatAre_32 : decode cX3_qualitiesThatAre 32 = .ok (.ior, 1) := by decide +kernel
theorem dX3_qualitiesThatAre_33 : decode cX3_qualitiesThatAre 33 = .ok (.istore_n 2, 1) := by decide +kernel
theorem dX3_qualitiesThatAre_34 : decode cX3_qualitiesThatAre 34 = .ok (.iinc 3 1, 3) := by decide +kernel
theorem dX3_qualitiesThatAre_37 : decode cX3_qualitiesThatAre 37 = .ok (.goto (-33), 3) := by decide +kernel
theorem dX3_qualitiesThatAre_40 : decode cX3_qualitiesThatAre 40 = .ok (.iload_n 2, 1) := by decide +kernel
theorem dX3_qualitiesThatAre_41 : decode cX3_qualitiesThatAre 41 = .ok (.ireturn, 1) := by decide +kernel
theorem dX3_deedsThatAre_0 : decode cX3_deedsThatAre 0 = .ok (.iconst 0, 1) := by decide +kernel
theorem dX3_deedsThatAre_1 : decode cX3_deedsThatAre 1 = .ok (.istore_n 2, 1) := by decide +kernel
theorem dX3_deedsThatAre_2 : decode cX3_deedsThatAre 2 = .ok (.iconst 0, 1) := by decide +kernel
theorem dX3_deedsThatAre_3 : decode cX3_deedsThatAre 3 = .ok (.istore_n 3, 1) := by decide +kernel
theorem dX3_deedsThatAre_4 : decode cX3_deedsThatAre 4 = .ok (.iload_n 3, 1) := by decide +kernel
theorem dX3_deedsThatAre_5 : decode cX3_deedsThatAre 5 = .ok (.aload_n 0, 1) := by decide +kernel
theorem dX3_deedsThatAre_6 : decode cX3_deedsThatAre 6 = .ok (.getfield 15, 3) := by decide +kernel
theorem dX3_deedsThatAre_9 : decode cX3_deedsThatAre 9 = .ok (.getfield 53, 3) := by decide +kernel
theorem dX3_deedsThatAre_12 : decode cX3_deedsThatAre 12 = .ok (.if_icmp .ge 28, 3) := by decide +kernel
theorem dX3_deedsThatAre_15 : decode cX3_deedsThatAre 15 = .ok (.iload_n 2, 1) := by decide +kernel
theorem dX3_deedsThatAre_16 : decode cX3_deedsThatAre 16 = .ok (.aload_n 0, 1) := by decide +kernel
theorem dX3_deedsThatAre_17 : decode cX3_deedsThatAre 17 = .ok (.iload_n 3, 1) := by decide +kernel
theorem dX3_deedsThatAre_18 : decode cX3_deedsThatAre 18 = .ok (.invokevirtual 56, 3) := by decide +kernel
theorem dX3_deedsThatAre_21 : decode cX3_deedsThatAre 21 = .ok (.iload_n 1, 1) := by decide +kernel
theorem dX3_deedsThatAre_22 : decode cX3_deedsThatAre 22 = .ok (.if_icmp .ne 9, 3) := by decide +kernel
theorem dX3_deedsThatAre_25 : decode cX3_deedsThatAre 25 = .ok (.iconst 1, 1) := by decide +kernel
theorem dX3_deedsThatAre_26 : decode cX3_deedsThatAre 26 = .ok (.iload_n 3, 1) := by decide +kernel
theorem dX3_deedsThatAre_27 : decode cX3_deedsThatAre 27 = .ok (.ishl, 1) := by decide +kernel
theorem dX3_deedsThatAre_28 : decode cX3_deedsThatAre 28 = .ok (.goto 4, 3) := by decide +kernel
theorem dX3_deedsThatAre_31 : decode cX3_deedsThatAre 31 = .ok (.iconst 0, 1) := by decide +kernel
theorem dX3_deedsThatAre_32 : decode cX3_deedsThatAre 32 = .ok (.ior, 1) := by decide +kernel
theorem dX3_deedsThatAre_33 : decode cX3_deedsThatAre 33 = .ok (.istore_n 2, 1) := by decide +kernel
theorem dX3_deedsThatAre_34 : decode cX3_deedsThatAre 34 = .ok (.iinc 3 1, 3) := by decide +kernel
theorem dX3_deedsThatAre_37 : decode cX3_deedsThatAre 37 = .ok (.goto (-33), 3) := by decide +kernel
theorem dX3_deedsThatAre_40 : decode cX3_deedsThatAre 40 = .ok (.iload_n 2, 1) := by decide +kernel
theorem dX3_deedsThatAre_41 : decode cX3_deedsThatAre 41 = .ok (.ireturn, 1) := by decide +kernel
theorem dX3_owedFor_0 : decode cX3_owedFor 0 = .ok (.aload_n 0, 1) := by decide +kernel
theorem dX3_owedFor_1 : decode cX3_owedFor 1 = .ok (.iload_n 1, 1) := by decide +kernel
theorem dX3_owedFor_2 : decode cX3_owedFor 2 = .ok (.invokevirtual 50, 3) := by decide +kernel
theorem dX3_owedFor_5 : decode cX3_owedFor 5 = .ok (.iconst 1, 1) := by decide +kernel
theorem dX3_owedFor_6 : decode cX3_owedFor 6 = .ok (.if_icmp .eq 5, 3) := by decide +kernel
theorem dX3_owedFor_9 : decode cX3_owedFor 9 = .ok (.iconst 0, 1) := by decide +kernel
theorem dX3_owedFor_10 : decode cX3_owedFor 10 = .ok (.ireturn, 1) := by decide +kernel
theorem dX3_owedFor_11 : decode cX3_owedFor 11 = .ok (.aload_n 0, 1) := by decide +kernel
theorem dX3_owedFor_12 : decode cX3_owedFor 12 = .ok (.getfield 15, 3) := by decide +kernel
theorem dX3_owedFor_15 : decode cX3_owedFor 15 = .ok (.iload_n 1, 1) := by decide +kernel
theorem dX3_owedFor_16 : decode cX3_owedFor 16 = .ok (.invokevirtual 59, 3) := by decide +kernel
theorem dX3_owedFor_19 : decode cX3_owedFor 19 = .ok (.aload_n 0, 1) := by decide +kernel
theorem dX3_owedFor_20 : decode cX3_owedFor 20 = .ok (.getfield 15, 3) := by decide +kernel
theorem dX3_owedFor_23 : decode cX3_owedFor 23 = .ok (.iload_n 1, 1) := by decide +kernel
theorem dX3_owedFor_24 : decode cX3_owedFor 24 = .ok (.invokevirtual 62, 3) := by decide +kernel
theorem dX3_owedFor_27 : decode cX3_owedFor 27 = .ok (.aload_n 0, 1) := by decide +kernel
theorem dX3_owedFor_28 : decode cX3_owedFor 28 = .ok (.invokevirtual 65, 3) := by decide +kernel
theorem dX3_owedFor_31 : decode cX3_owedFor 31 = .ok (.aload_n 0, 1) := by decide +kernel
theorem dX3_owedFor_32 : decode cX3_owedFor 32 = .ok (.iload_n 1, 1) := by decide +kernel
theorem dX3_owedFor_33 : decode cX3_owedFor 33 = .ok (.invokevirtual 69, 3) := by decide +kernel
theorem dX3_owedFor_36 : decode cX3_owedFor 36 = .ok (.isub, 1) := by decide +kernel
theorem dX3_owedFor_37 : decode cX3_owedFor 37 = .ok (.aload_n 0, 1) := by decide +kernel
theorem dX3_owedFor_38 : decode cX3_owedFor 38 = .ok (.invokevirtual 65, 3) := by decide +kernel
theorem dX3_owedFor_41 : decode cX3_owedFor 41 = .ok (.invokestatic 72, 3) := by decide +kernel
theorem dX3_owedFor_44 : decode cX3_owedFor 44 = .ok (.ireturn, 1) := by decide +kernel
theorem dX3_dearestOf_0 : decode cX3_dearestOf 0 = .ok (.bipush (-9), 2) := by decide +kernel
theorem dX3_dearestOf_2 : decode cX3_dearestOf 2 = .ok (.istore_n 2, 1) := by decide +kernel
theorem dX3_dearestOf_3 : decode cX3_dearestOf 3 = .ok (.iconst 0, 1) := by decide +kernel
theorem dX3_dearestOf_4 : decode cX3_dearestOf 4 = .ok (.istore_n 3, 1) := by decide +kernel
theorem dX3_dearestOf_5 : decode cX3_dearestOf 5 = .ok (.iload_n 3, 1) := by decide +kernel
theorem dX3_dearestOf_6 : decode cX3_dearestOf 6 = .ok (.aload_n 0, 1) := by decide +kernel
theorem dX3_dearestOf_7 : decode cX3_dearestOf 7 = .ok (.getfield 15, 3) := by decide +kernel
theorem dX3_dearestOf_10 : decode cX3_dearestOf 10 = .ok (.getfield 47, 3) := by decide +kernel
theorem dX3_dearestOf_13 : decode cX3_dearestOf 13 = .ok (.if_icmp .ge 68, 3) := by decide +kernel
theorem dX3_dearestOf_16 : decode cX3_dearestOf 16 = .ok (.aload_n 0, 1) := by decide +kernel
theorem dX3_dearestOf_17 : decode cX3_dearestOf 17 = .ok (.getfield 15, 3) := by decide +kernel
theorem dX3_dearestOf_20 : decode cX3_dearestOf 20 = .ok (.iload_n 3, 1) := by decide +kernel
theorem dX3_dearestOf_21 : decode cX3_dearestOf 21 = .ok (.invokevirtual 76, 3) := by decide +kernel
theorem dX3_dearestOf_24 : decode cX3_dearestOf 24 = .ok (.iload_n 1, 1) := by decide +kernel
theorem dX3_dearestOf_25 : decode cX3_dearestOf 25 = .ok (.if_icmp .ne 15, 3) := by decide +kernel
theorem dX3_dearestOf_28 : decode cX3_dearestOf 28 = .ok (.aload_n 0, 1) := by decide +kernel
theorem dX3_dearestOf_29 : decode cX3_dearestOf 29 = .ok (.iload_n 3, 1) := by decide +kernel
theorem dX3_dearestOf_30 : decode cX3_dearestOf 30 = .ok (.invokevirtual 50, 3) := by decide +kernel
theorem dX3_dearestOf_33 : decode cX3_dearestOf 33 = .ok (.ifCond .ne 7, 3) := by decide +kernel
theorem dX3_dearestOf_36 : decode cX3_dearestOf 36 = .ok (.iconst 1, 1) := by decide +kernel
theorem dX3_dearestOf_37 : decode cX3_dearestOf 37 = .ok (.goto 4, 3) := by decide +kernel
theorem dX3_dearestOf_40 : decode cX3_dearestOf 40 = .ok (.iconst 0, 1) := by decide +kernel
theorem dX3_dearestOf_41 : decode cX3_dearestOf 41 = .ok (.istore 4, 2) := by decide +kernel
theorem dX3_dearestOf_43 : decode cX3_dearestOf 43 = .ok (.iload 4, 2) := by decide +kernel
theorem dX3_dearestOf_45 : decode cX3_dearestOf 45 = .ok (.ifCond .eq 30, 3) := by decide +kernel
theorem dX3_dearestOf_48 : decode cX3_dearestOf 48 = .ok (.iload_n 2, 1) := by decide +kernel
theorem dX3_dearestOf_49 : decode cX3_dearestOf 49 = .ok (.bipush (-9), 2) := by decide +kernel
theorem dX3_dearestOf_51 : decode cX3_dearestOf 51 = .ok (.if_icmp .eq 22, 3) := by decide +kernel
theorem dX3_dearestOf_54 : decode cX3_dearestOf 54 = .ok (.aload_n 0, 1) := by decide +kernel
theorem dX3_dearestOf_55 : decode cX3_dearestOf 55 = .ok (.getfield 15, 3) := by decide +kernel
theorem dX3_dearestOf_58 : decode cX3_dearestOf 58 = .ok (.iload_n 3, 1) := by decide +kernel
theorem dX3_dearestOf_59 : decode cX3_dearestOf 59 = .ok (.invokevirtual 62, 3) := by decide +kernel
theorem dX3_dearestOf_62 : decode cX3_dearestOf 62 = .ok (.aload_n 0, 1) := by decide +kernel
theorem dX3_dearestOf_63 : decode cX3_dearestOf 63 = .ok (.getfield 15, 3) := by decide +kernel
theorem dX3_dearestOf_66 : decode cX3_dearestOf 66 = .ok (.iload_n 2, 1) := by decide +kernel
theorem dX3_dearestOf_67 : decode cX3_dearestOf 67 = .ok (.invokevirtual 62, 3) := by decide +kernel
theorem dX3_dearestOf_70 : decode cX3_dearestOf 70 = .ok (.if_icmp .le 5, 3) := by decide +kernel
theorem dX3_dearestOf_73 : decode cX3_dearestOf 73 = .ok (.iload_n 3, 1) := by decide +kernel
theorem dX3_dearestOf_74 : decode cX3_dearestOf 74 = .ok (.istore_n 2, 1) := by decide +kernel
theorem dX3_dearestOf_75 : decode cX3_dearestOf 75 = .ok (.iinc 3 1, 3) := by decide +kernel
theorem dX3_dearestOf_78 : decode cX3_dearestOf 78 = .ok (.goto (-73), 3) := by decide +kernel
theorem dX3_dearestOf_81 : decode cX3_dearestOf 81 = .ok (.iload_n 2, 1) := by decide +kernel
theorem dX3_dearestOf_82 : decode cX3_dearestOf 82 = .ok (.ireturn, 1) := by decide +kernel
theorem dX3_canPledge_0 : decode cX3_canPledge 0 = .ok (.aload_n 0, 1) := by decide +kernel
theorem dX3_canPledge_1 : decode cX3_canPledge 1 = .ok (.getfield 15, 3) := by decide +kernel
theorem dX3_canPledge_4 : decode cX3_canPledge 4 = .ok (.iload_n 1, 1) := by decide +kernel
theorem dX3_canPledge_5 : decode cX3_canPledge 5 = .ok (.invokevirtual 79, 3) := by decide +kernel
theorem dX3_canPledge_8 : decode cX3_canPledge 8 = .ok (.ifCond .eq 30, 3) := by decide +kernel
theorem dX3_canPledge_11 : decode cX3_canPledge 11 = .ok (.aload_n 0, 1) := by decide +kernel
theorem dX3_canPledge_12 : decode cX3_canPledge 12 = .ok (.iload_n 1, 1) := by decide +kernel
theorem dX3_canPledge_13 : decode cX3_canPledge 13 = .ok (.invokevirtual 50, 3) := by decide +kernel
theorem dX3_canPledge_16 : decode cX3_canPledge 16 = .ok (.ifCond .ne 22, 3) := by decide +kernel
theorem dX3_canPledge_19 : decode cX3_canPledge 19 = .ok (.aload_n 0, 1) := by decide +kernel
theorem dX3_canPledge_20 : decode cX3_canPledge 20 = .ok (.invokevirtual 83, 3) := by decide +kernel
theorem dX3_canPledge_23 : decode cX3_canPledge 23 = .ok (.aload_n 0, 1) := by decide +kernel
theorem dX3_canPledge_24 : decode cX3_canPledge 24 = .ok (.getfield 15, 3) := by decide +kernel
theorem dX3_canPledge_27 : decode cX3_canPledge 27 = .ok (.iload_n 1, 1) := by decide +kernel
theorem dX3_canPledge_28 : decode cX3_canPledge 28 = .ok (.invokevirtual 62, 3) := by decide +kernel
theorem dX3_canPledge_31 : decode cX3_canPledge 31 = .ok (.if_icmp .lt 7, 3) := by decide +kernel
theorem dX3_canPledge_34 : decode cX3_canPledge 34 = .ok (.iconst 1, 1) := by decide +kernel
theorem dX3_canPledge_35 : decode cX3_canPledge 35 = .ok (.goto 4, 3) := by decide +kernel
theorem dX3_canPledge_38 : decode cX3_canPledge 38 = .ok (.iconst 0, 1) := by decide +kernel
theorem dX3_canPledge_39 : decode cX3_canPledge 39 = .ok (.ireturn, 1) := by decide +kernel
theorem dX3_canRedeem_0 : decode cX3_canRedeem 0 = .ok (.aload_n 0, 1) := by decide +kernel
theorem dX3_canRedeem_1 : decode cX3_canRedeem 1 = .ok (.getfield 15, 3) := by decide +kernel
theorem dX3_canRedeem_4 : decode cX3_canRedeem 4 = .ok (.iload_n 1, 1) := by decide +kernel
theorem dX3_canRedeem_5 : decode cX3_canRedeem 5 = .ok (.invokevirtual 79, 3) := by decide +kernel
theorem dX3_canRedeem_8 : decode cX3_canRedeem 8 = .ok (.ifCond .eq 36, 3) := by decide +kernel
theorem dX3_canRedeem_11 : decode cX3_canRedeem 11 = .ok (.aload_n 0, 1) := by decide +kernel
theorem dX3_canRedeem_12 : decode cX3_canRedeem 12 = .ok (.iload_n 1, 1) := by decide +kernel
theorem dX3_canRedeem_13 : decode cX3_canRedeem 13 = .ok (.invokevirtual 50, 3) := by decide +kernel
theorem dX3_canRedeem_16 : decode cX3_canRedeem 16 = .ok (.iconst 1, 1) := by decide +kernel
theorem dX3_canRedeem_17 : decode cX3_canRedeem 17 = .ok (.if_icmp .ne 27, 3) := by decide +kernel
theorem dX3_canRedeem_20 : decode cX3_canRedeem 20 = .ok (.aload_n 0, 1) := by decide +kernel
theorem dX3_canRedeem_21 : decode cX3_canRedeem 21 = .ok (.aload_n 0, 1) := by decide +kernel
theorem dX3_canRedeem_22 : decode cX3_canRedeem 22 = .ok (.getfield 15, 3) := by decide +kernel
theorem dX3_canRedeem_25 : decode cX3_canRedeem 25 = .ok (.iload_n 1, 1) := by decide +kernel
theorem dX3_canRedeem_26 : decode cX3_canRedeem 26 = .ok (.invokevirtual 76, 3) := by decide +kernel
theorem dX3_canRedeem_29 : decode cX3_canRedeem 29 = .ok (.invokevirtual 44, 3) := by decide +kernel
theorem dX3_canRedeem_32 : decode cX3_canRedeem 32 = .ok (.aload_n 0, 1) := by decide +kernel
theorem dX3_canRedeem_33 : decode cX3_canRedeem 33 = .ok (.iload_n 1, 1) := by decide +kernel
theorem dX3_canRedeem_34 : decode cX3_canRedeem 34 = .ok (.invokevirtual 86, 3) := by decide +kernel
theorem dX3_canRedeem_37 : decode cX3_canRedeem 37 = .ok (.if_icmp .lt 7, 3) := by decide +kernel
theorem dX3_canRedeem_40 : decode cX3_canRedeem 40 = .ok (.iconst 1, 1) := by decide +kernel
theorem dX3_canRedeem_41 : decode cX3_canRedeem 41 = .ok (.goto 4, 3) := by decide +kernel
theorem dX3_canRedeem_44 : decode cX3_canRedeem 44 = .ok (.iconst 0, 1) := by decide +kernel
theorem dX3_canRedeem_45 : decode cX3_canRedeem 45 = .ok (.ireturn, 1) := by decide +kernel
theorem dX3_tryPledge_0 : decode cX3_tryPledge 0 = .ok (.aload_n 0, 1) := by decide +kernel
theorem dX3_tryPledge_1 : decode cX3_tryPledge 1 = .ok (.iload_n 1, 1) := by decide +kernel
theorem dX3_tryPledge_2 : decode cX3_tryPledge 2 = .ok (.invokevirtual 89, 3) := by decide +kernel
theorem dX3_tryPledge_5 : decode cX3_tryPledge 5 = .ok (.ifCond .ne 5, 3) := by decide +kernel
theorem dX3_tryPledge_8 : decode cX3_tryPledge 8 = .ok (.iconst 0, 1) := by decide +kernel
theorem dX3_tryPledge_9 : decode cX3_tryPledge 9 = .ok (.ireturn, 1) := by decide +kernel
theorem dX3_tryPledge_10 : decode cX3_tryPledge 10 = .ok (.aload_n 0, 1) := by decide +kernel
theorem dX3_tryPledge_11 : decode cX3_tryPledge 11 = .ok (.aload_n 0, 1) := by decide +kernel
theorem dX3_tryPledge_12 : decode cX3_tryPledge 12 = .ok (.getfield 15, 3) := by decide +kernel
theorem dX3_tryPledge_15 : decode cX3_tryPledge 15 = .ok (.iload_n 1, 1) := by decide +kernel
theorem dX3_tryPledge_16 : decode cX3_tryPledge 16 = .ok (.invokevirtual 76, 3) := by decide +kernel
theorem dX3_tryPledge_19 : decode cX3_tryPledge 19 = .ok (.aload_n 0, 1) := by decide +kernel
theorem dX3_tryPledge_20 : decode cX3_tryPledge 20 = .ok (.getfield 15, 3) := by decide +kernel
theorem dX3_tryPledge_23 : decode cX3_tryPledge 23 = .ok (.iload_n 1, 1) := by decide +kernel
theorem dX3_tryPledge_24 : decode cX3_tryPledge 24 = .ok (.invokevirtual 62, 3) := by decide +kernel
theorem dX3_tryPledge_27 : decode cX3_tryPledge 27 = .ok (.invokevirtual 92, 3) := by decide +kernel
theorem dX3_tryPledge_30 : decode cX3_tryPledge 30 = .ok (.aload_n 0, 1) := by decide +kernel
theorem dX3_tryPledge_31 : decode cX3_tryPledge 31 = .ok (.getfield 11, 3) := by decide +kernel
theorem dX3_tryPledge_34 : decode cX3_tryPledge 34 = .ok (.iconst 0, 1) := by decide +kernel
theorem dX3_tryPledge_35 : decode cX3_tryPledge 35 = .ok (.aload_n 0, 1) := by decide +kernel
theorem dX3_tryPledge_36 : decode cX3_tryPledge 36 = .ok (.invokevirtual 83, 3) := by decide +kernel
theorem dX3_tryPledge_39 : decode cX3_tryPledge 39 = .ok (.aload_n 0, 1) := by decide +kernel
theorem dX3_tryPledge_40 : decode cX3_tryPledge 40 = .ok (.getfield 15, 3) := by decide +kernel
theorem dX3_tryPledge_43 : decode cX3_tryPledge 43 = .ok (.iload_n 1, 1) := by decide +kernel
theorem dX3_tryPledge_44 : decode cX3_tryPledge 44 = .ok (.invokevirtual 62, 3) := by decide +kernel
theorem dX3_tryPledge_47 : decode cX3_tryPledge 47 = .ok (.isub, 1) := by decide +kernel
theorem dX3_tryPledge_48 : decode cX3_tryPledge 48 = .ok (.invokestatic 25, 3) := by decide +kernel
theorem dX3_tryPledge_51 : decode cX3_tryPledge 51 = .ok (.aload_n 0, 1) := by decide +kernel
theorem dX3_tryPledge_52 : decode cX3_tryPledge 52 = .ok (.getfield 11, 3) := by decide +kernel
theorem dX3_tryPledge_55 : decode cX3_tryPledge 55 = .ok (.iconst 5, 1) := by decide +kernel
theorem dX3_tryPledge_56 : decode cX3_tryPledge 56 = .ok (.iload_n 1, 1) := by decide +kernel
theorem dX3_tryPledge_57 : decode cX3_tryPledge 57 = .ok (.iadd, 1) := by decide +kernel
theorem dX3_tryPledge_58 : decode cX3_tryPledge 58 = .ok (.iconst 1, 1) := by decide +kernel
theorem dX3_tryPledge_59 : decode cX3_tryPledge 59 = .ok (.invokestatic 25, 3) := by decide +kernel
theorem dX3_tryPledge_62 : decode cX3_tryPledge 62 = .ok (.aload_n 0, 1) := by decide +kernel
theorem dX3_tryPledge_63 : decode cX3_tryPledge 63 = .ok (.getfield 11, 3) := by decide +kernel
theorem dX3_tryPledge_66 : decode cX3_tryPledge 66 = .ok (.bipush 10, 2) := by decide +kernel
theorem dX3_tryPledge_68 : decode cX3_tryPledge 68 = .ok (.iload_n 1, 1) := by decide +kernel
theorem dX3_tryPledge_69 : decode cX3_tryPledge 69 = .ok (.iadd, 1) := by decide +kernel
theorem dX3_tryPledge_70 : decode cX3_tryPledge 70 = .ok (.aload_n 0, 1) := by decide +kernel
theorem dX3_tryPledge_71 : decode cX3_tryPledge 71 = .ok (.invokevirtual 65, 3) := by decide +kernel
theorem dX3_tryPledge_74 : decode cX3_tryPledge 74 = .ok (.invokestatic 25, 3) := by decide +kernel
theorem dX3_tryPledge_77 : decode cX3_tryPledge 77 = .ok (.iconst 1, 1) := by decide +kernel
theorem dX3_tryPledge_78 : decode cX3_tryPledge 78 = .ok (.ireturn, 1) := by decide +kernel
theorem dX3_tryRedeem_0 : decode cX3_tryRedeem 0 = .ok (.aload_n 0, 1) := by decide +kernel
theorem dX3_tryRedeem_1 : decode cX3_tryRedeem 1 = .ok (.iload_n 1, 1) := by decide +kernel
theorem dX3_tryRedeem_2 : decode cX3_tryRedeem 2 = .ok (.invokevirtual 96, 3) := by decide +kernel
theorem dX3_tryRedeem_5 : decode cX3_tryRedeem 5 = .ok (.ifCond .ne 5, 3) := by decide +kernel
theorem dX3_tryRedeem_8 : decode cX3_tryRedeem 8 = .ok (.iconst 0, 1) := by decide +kernel
theorem dX3_tryRedeem_9 : decode cX3_tryRedeem 9 = .ok (.ireturn, 1) := by decide +kernel
theorem dX3_tryRedeem_10 : decode cX3_tryRedeem 10 = .ok (.aload_n 0, 1) := by decide +kernel
theorem dX3_tryRedeem_11 : decode cX3_tryRedeem 11 = .ok (.iload_n 1, 1) := by decide +kernel
theorem dX3_tryRedeem_12 : decode cX3_tryRedeem 12 = .ok (.invokevirtual 86, 3) := by decide +kernel
theorem dX3_tryRedeem_15 : decode cX3_tryRedeem 15 = .ok (.istore_n 2, 1) := by decide +kernel
theorem dX3_tryRedeem_16 : decode cX3_tryRedeem 16 = .ok (.aload_n 0, 1) := by decide +kernel
theorem dX3_tryRedeem_17 : decode cX3_tryRedeem 17 = .ok (.aload_n 0, 1) := by decide +kernel
theorem dX3_tryRedeem_18 : decode cX3_tryRedeem 18 = .ok (.getfield 15, 3) := by decide +kernel
theorem dX3_tryRedeem_21 : decode cX3_tryRedeem 21 = .ok (.iload_n 1, 1) := by decide +kernel
theorem dX3_tryRedeem_22 : decode cX3_tryRedeem 22 = .ok (.invokevirtual 76, 3) := by decide +kernel
theorem dX3_tryRedeem_25 : decode cX3_tryRedeem 25 = .ok (.iload_n 2, 1) := by decide +kernel
theorem dX3_tryRedeem_26 : decode cX3_tryRedeem 26 = .ok (.ineg, 1) := by decide +kernel
theorem dX3_tryRedeem_27 : decode cX3_tryRedeem 27 = .ok (.invokevirtual 92, 3) := by decide +kernel
theorem dX3_tryRedeem_30 : decode cX3_tryRedeem 30 = .ok (.aload_n 0, 1) := by decide +kernel
theorem dX3_tryRedeem_31 : decode cX3_tryRedeem 31 = .ok (.getfield 11, 3) := by decide +kernel
theorem dX3_tryRedeem_34 : decode cX3_tryRedeem 34 = .ok (.iconst 0, 1) := by decide +kernel
theorem dX3_tryRedeem_35 : decode cX3_tryRedeem 35 = .ok (.aload_n 0, 1) := by decide +kernel
theorem dX3_tryRedeem_36 : decode cX3_tryRedeem 36 = .ok (.invokevirtual 83, 3) := by decide +kernel
theorem dX3_tryRedeem_39 : decode cX3_tryRedeem 39 = .ok (.iload_n 2, 1) := by decide +kernel
theorem dX3_tryRedeem_40 : decode cX3_tryRedeem 40 = .ok (.iadd, 1) := by decide +kernel
theorem dX3_tryRedeem_41 : decode cX3_tryRedeem 41 = .ok (.invokestatic 25, 3) := by decide +kernel
theorem dX3_tryRedeem_44 : decode cX3_tryRedeem 44 = .ok (.aload_n 0, 1) := by decide +kernel
theorem dX3_tryRedeem_45 : decode cX3_tryRedeem 45 = .ok (.getfield 11, 3) := by decide +kernel
theorem dX3_tryRedeem_48 : decode cX3_tryRedeem 48 = .ok (.iconst 5, 1) := by decide +kernel
theorem dX3_tryRedeem_49 : decode cX3_tryRedeem 49 = .ok (.iload_n 1, 1) := by decide +kernel
theorem dX3_tryRedeem_50 : decode cX3_tryRedeem 50 = .ok (.iadd, 1) := by decide +kernel
theorem dX3_tryRedeem_51 : decode cX3_tryRedeem 51 = .ok (.iconst 0, 1) := by decide +kernel
theorem dX3_tryRedeem_52 : decode cX3_tryRedeem 52 = .ok (.invokestatic 25, 3) := by decide +kernel
theorem dX3_tryRedeem_55 : decode cX3_tryRedeem 55 = .ok (.iconst 1, 1) := by decide +kernel
theorem dX3_tryRedeem_56 : decode cX3_tryRedeem 56 = .ok (.ireturn, 1) := by decide +kernel
theorem dX3_tryGive_0 : decode cX3_tryGive 0 = .ok (.aload_n 0, 1) := by decide +kernel
theorem dX3_tryGive_1 : decode cX3_tryGive 1 = .ok (.getfield 15, 3) := by decide +kernel
theorem dX3_tryGive_4 : decode cX3_tryGive 4 = .ok (.iload_n 1, 1) := by decide +kernel
theorem dX3_tryGive_5 : decode cX3_tryGive 5 = .ok (.invokevirtual 99, 3) := by decide +kernel
theorem dX3_tryGive_8 : decode cX3_tryGive 8 = .ok (.ifCond .eq 14, 3) := by decide +kernel
theorem dX3_tryGive_11 : decode cX3_tryGive 11 = .ok (.iload_n 2, 1) := by decide +kernel
theorem dX3_tryGive_12 : decode cX3_tryGive 12 = .ok (.iconst 1, 1) := by decide +kernel
theorem dX3_tryGive_13 : decode cX3_tryGive 13 = .ok (.if_icmp .lt 9, 3) := by decide +kernel
theorem dX3_tryGive_16 : decode cX3_tryGive 16 = .ok (.iload_n 2, 1) := by decide +kernel
theorem dX3_tryGive_17 : decode cX3_tryGive 17 = .ok (.bipush 9, 2) := by decide +kernel
theorem dX3_tryGive_19 : decode cX3_tryGive 19 = .ok (.if_icmp .le 5, 3) := by decide +kernel
theorem dX3_tryGive_22 : decode cX3_tryGive 22 = .ok (.iconst 0, 1) := by decide +kernel
theorem dX3_tryGive_23 : decode cX3_tryGive 23 = .ok (.ireturn, 1) := by decide +kernel
theorem dX3_tryGive_24 : decode cX3_tryGive 24 = .ok (.aload_n 0, 1) := by decide +kernel
theorem dX3_tryGive_25 : decode cX3_tryGive 25 = .ok (.iload_n 1, 1) := by decide +kernel
theorem dX3_tryGive_26 : decode cX3_tryGive 26 = .ok (.iload_n 2, 1) := by decide +kernel
theorem dX3_tryGive_27 : decode cX3_tryGive 27 = .ok (.invokevirtual 92, 3) := by decide +kernel
theorem dX3_tryGive_30 : decode cX3_tryGive 30 = .ok (.iconst 1, 1) := by decide +kernel
theorem dX3_tryGive_31 : decode cX3_tryGive 31 = .ok (.ireturn, 1) := by decide +kernel
theorem dX3_pay_0 : decode cX3_pay 0 = .ok (.aload_n 0, 1) := by decide +kernel
theorem dX3_pay_1 : decode cX3_pay 1 = .ok (.getfield 11, 3) := by decide +kernel
theorem dX3_pay_4 : decode cX3_pay 4 = .ok (.iconst 2, 1) := by decide +kernel
theorem dX3_pay_5 : decode cX3_pay 5 = .ok (.iload_n 1, 1) := by decide +kernel
theorem dX3_pay_6 : decode cX3_pay 6 = .ok (.iadd, 1) := by decide +kernel
theorem dX3_pay_7 : decode cX3_pay 7 = .ok (.aload_n 0, 1) := by decide +kernel
theorem dX3_pay_8 : decode cX3_pay 8 = .ok (.getfield 11, 3) := by decide +kernel
theorem dX3_pay_11 : decode cX3_pay 11 = .ok (.iconst 2, 1) := by decide +kernel
theorem dX3_pay_12 : decode cX3_pay 12 = .ok (.iload_n 1, 1) := by decide +kernel
theorem dX3_pay_13 : decode cX3_pay 13 = .ok (.iadd, 1) := by decide +kernel
theorem dX3_pay_14 : decode cX3_pay 14 = .ok (.invokestatic 40, 3) := by decide +kernel
theorem dX3_pay_17 : decode cX3_pay 17 = .ok (.iload_n 2, 1) := by decide +kernel
theorem dX3_pay_18 : decode cX3_pay 18 = .ok (.iadd, 1) := by decide +kernel
theorem dX3_pay_19 : decode cX3_pay 19 = .ok (.invokestatic 25, 3) := by decide +kernel
theorem dX3_pay_22 : decode cX3_pay 22 = .ok (.return_, 1) := by decide +kernel
theorem dX3_passDay_0 : decode cX3_passDay 0 = .ok (.iconst 0, 1) := by decide +kernel
theorem dX3_passDay_1 : decode cX3_passDay 1 = .ok (.istore_n 1, 1) := by decide +kernel
theorem dX3_passDay_2 : decode cX3_passDay 2 = .ok (.iconst 0, 1) := by decide +kernel
theorem dX3_passDay_3 : decode cX3_passDay 3 = .ok (.istore_n 2, 1) := by decide +kernel
theorem dX3_passDay_4 : decode cX3_passDay 4 = .ok (.iload_n 2, 1) := by decide +kernel
theorem dX3_passDay_5 : decode cX3_passDay 5 = .ok (.aload_n 0, 1) := by decide +kernel
theorem dX3_passDay_6 : decode cX3_passDay 6 = .ok (.getfield 15, 3) := by decide +kernel
theorem dX3_passDay_9 : decode cX3_passDay 9 = .ok (.getfield 53, 3) := by decide +kernel
theorem dX3_passDay_12 : decode cX3_passDay 12 = .ok (.if_icmp .ge 40, 3) := by decide +kernel
theorem dX3_passDay_15 : decode cX3_passDay 15 = .ok (.aload_n 0, 1) := by decide +kernel
theorem dX3_passDay_16 : decode cX3_passDay 16 = .ok (.getfield 15, 3) := by decide +kernel
theorem dX3_passDay_19 : decode cX3_passDay 19 = .ok (.iload_n 2, 1) := by decide +kernel
theorem dX3_passDay_20 : decode cX3_passDay 20 = .ok (.invokevirtual 102, 3) := by decide +kernel
theorem dX3_passDay_23 : decode cX3_passDay 23 = .ok (.aload_n 0, 1) := by decide +kernel
theorem dX3_passDay_24 : decode cX3_passDay 24 = .ok (.invokevirtual 65, 3) := by decide +kernel
theorem dX3_passDay_27 : decode cX3_passDay 27 = .ok (.if_icmp .ne 19, 3) := by decide +kernel
