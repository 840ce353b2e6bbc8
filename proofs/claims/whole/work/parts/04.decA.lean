/-! ===== decode rows ===== -/
theorem dX0_init_0 : decode cX0_init 0 = .ok (.aload_n 0, 1) := by decide +kernel
theorem dX0_init_1 : decode cX0_init 1 = .ok (.invokespecial 3, 3) := by decide +kernel
theorem dX0_init_4 : decode cX0_init 4 = .ok (.aload_n 0, 1) := by decide +kernel
theorem dX0_init_5 : decode cX0_init 5 = .ok (.bipush 6, 2) := by decide +kernel
theorem dX0_init_7 : decode cX0_init 7 = .ok (.newarray .int, 2) := by decide +kernel
theorem dX0_init_9 : decode cX0_init 9 = .ok (.putfield 9, 3) := by decide +kernel
theorem dX0_init_12 : decode cX0_init 12 = .ok (.aload_n 0, 1) := by decide +kernel
theorem dX0_init_13 : decode cX0_init 13 = .ok (.bipush 6, 2) := by decide +kernel
theorem dX0_init_15 : decode cX0_init 15 = .ok (.newarray .int, 2) := by decide +kernel
theorem dX0_init_17 : decode cX0_init 17 = .ok (.putfield 15, 3) := by decide +kernel
theorem dX0_init_20 : decode cX0_init 20 = .ok (.aload_n 0, 1) := by decide +kernel
theorem dX0_init_21 : decode cX0_init 21 = .ok (.bipush 30, 2) := by decide +kernel
theorem dX0_init_23 : decode cX0_init 23 = .ok (.newarray .int, 2) := by decide +kernel
theorem dX0_init_25 : decode cX0_init 25 = .ok (.putfield 18, 3) := by decide +kernel
theorem dX0_init_28 : decode cX0_init 28 = .ok (.aload_n 0, 1) := by decide +kernel
theorem dX0_init_29 : decode cX0_init 29 = .ok (.bipush 25, 2) := by decide +kernel
theorem dX0_init_31 : decode cX0_init 31 = .ok (.newarray .int, 2) := by decide +kernel
theorem dX0_init_33 : decode cX0_init 33 = .ok (.putfield 21, 3) := by decide +kernel
theorem dX0_init_36 : decode cX0_init 36 = .ok (.return_, 1) := by decide +kernel
theorem dX0_becomeBlank_0 : decode cX0_becomeBlank 0 = .ok (.aload_n 0, 1) := by decide +kernel
theorem dX0_becomeBlank_1 : decode cX0_becomeBlank 1 = .ok (.iconst 0, 1) := by decide +kernel
theorem dX0_becomeBlank_2 : decode cX0_becomeBlank 2 = .ok (.putfield 24, 3) := by decide +kernel
theorem dX0_becomeBlank_5 : decode cX0_becomeBlank 5 = .ok (.aload_n 0, 1) := by decide +kernel
theorem dX0_becomeBlank_6 : decode cX0_becomeBlank 6 = .ok (.iconst 3, 1) := by decide +kernel
theorem dX0_becomeBlank_7 : decode cX0_becomeBlank 7 = .ok (.putfield 28, 3) := by decide +kernel
theorem dX0_becomeBlank_10 : decode cX0_becomeBlank 10 = .ok (.aload_n 0, 1) := by decide +kernel
theorem dX0_becomeBlank_11 : decode cX0_becomeBlank 11 = .ok (.getfield 9, 3) := by decide +kernel
theorem dX0_becomeBlank_14 : decode cX0_becomeBlank 14 = .ok (.iconst 0, 1) := by decide +kernel
theorem dX0_becomeBlank_15 : decode cX0_becomeBlank 15 = .ok (.invokestatic 31, 3) := by decide +kernel
theorem dX0_becomeBlank_18 : decode cX0_becomeBlank 18 = .ok (.aload_n 0, 1) := by decide +kernel
theorem dX0_becomeBlank_19 : decode cX0_becomeBlank 19 = .ok (.getfield 15, 3) := by decide +kernel
theorem dX0_becomeBlank_22 : decode cX0_becomeBlank 22 = .ok (.iconst 0, 1) := by decide +kernel
theorem dX0_becomeBlank_23 : decode cX0_becomeBlank 23 = .ok (.invokestatic 31, 3) := by decide +kernel
theorem dX0_becomeBlank_26 : decode cX0_becomeBlank 26 = .ok (.aload_n 0, 1) := by decide +kernel
theorem dX0_becomeBlank_27 : decode cX0_becomeBlank 27 = .ok (.getfield 18, 3) := by decide +kernel
theorem dX0_becomeBlank_30 : decode cX0_becomeBlank 30 = .ok (.iconst 0, 1) := by decide +kernel
theorem dX0_becomeBlank_31 : decode cX0_becomeBlank 31 = .ok (.invokestatic 31, 3) := by decide +kernel
theorem dX0_becomeBlank_34 : decode cX0_becomeBlank 34 = .ok (.aload_n 0, 1) := by decide +kernel
theorem dX0_becomeBlank_35 : decode cX0_becomeBlank 35 = .ok (.getfield 21, 3) := by decide +kernel
theorem dX0_becomeBlank_38 : decode cX0_becomeBlank 38 = .ok (.bipush 100, 2) := by decide +kernel
theorem dX0_becomeBlank_40 : decode cX0_becomeBlank 40 = .ok (.invokestatic 31, 3) := by decide +kernel
theorem dX0_becomeBlank_43 : decode cX0_becomeBlank 43 = .ok (.return_, 1) := by decide +kernel
theorem dX0_becomeLike_0 : decode cX0_becomeLike 0 = .ok (.aload_n 0, 1) := by decide +kernel
theorem dX0_becomeLike_1 : decode cX0_becomeLike 1 = .ok (.aload_n 1, 1) := by decide +kernel
theorem dX0_becomeLike_2 : decode cX0_becomeLike 2 = .ok (.getfield 24, 3) := by decide +kernel
theorem dX0_becomeLike_5 : decode cX0_becomeLike 5 = .ok (.putfield 24, 3) := by decide +kernel
theorem dX0_becomeLike_8 : decode cX0_becomeLike 8 = .ok (.aload_n 0, 1) := by decide +kernel
theorem dX0_becomeLike_9 : decode cX0_becomeLike 9 = .ok (.aload_n 1, 1) := by decide +kernel
theorem dX0_becomeLike_10 : decode cX0_becomeLike 10 = .ok (.getfield 28, 3) := by decide +kernel
theorem dX0_becomeLike_13 : decode cX0_becomeLike 13 = .ok (.putfield 28, 3) := by decide +kernel
theorem dX0_becomeLike_16 : decode cX0_becomeLike 16 = .ok (.aload_n 1, 1) := by decide +kernel
theorem dX0_becomeLike_17 : decode cX0_becomeLike 17 = .ok (.getfield 9, 3) := by decide +kernel
theorem dX0_becomeLike_20 : decode cX0_becomeLike 20 = .ok (.aload_n 0, 1) := by decide +kernel
theorem dX0_becomeLike_21 : decode cX0_becomeLike 21 = .ok (.getfield 9, 3) := by decide +kernel
theorem dX0_becomeLike_24 : decode cX0_becomeLike 24 = .ok (.invokestatic 37, 3) := by decide +kernel
theorem dX0_becomeLike_27 : decode cX0_becomeLike 27 = .ok (.aload_n 1, 1) := by decide +kernel
theorem dX0_becomeLike_28 : decode cX0_becomeLike 28 = .ok (.getfield 15, 3) := by decide +kernel
theorem dX0_becomeLike_31 : decode cX0_becomeLike 31 = .ok (.aload_n 0, 1) := by decide +kernel
theorem dX0_becomeLike_32 : decode cX0_becomeLike 32 = .ok (.getfield 15, 3) := by decide +kernel
theorem dX0_becomeLike_35 : decode cX0_becomeLike 35 = .ok (.invokestatic 37, 3) := by decide +kernel
theorem dX0_becomeLike_38 : decode cX0_becomeLike 38 = .ok (.aload_n 1, 1) := by decide +kernel
theorem dX0_becomeLike_39 : decode cX0_becomeLike 39 = .ok (.getfield 18, 3) := by decide +kernel
theorem dX0_becomeLike_42 : decode cX0_becomeLike 42 = .ok (.aload_n 0, 1) := by decide +kernel
theorem dX0_becomeLike_43 : decode cX0_becomeLike 43 = .ok (.getfield 18, 3) := by decide +kernel
theorem dX0_becomeLike_46 : decode cX0_becomeLike 46 = .ok (.invokestatic 37, 3) := by decide +kernel
theorem dX0_becomeLike_49 : decode cX0_becomeLike 49 = .ok (.aload_n 1, 1) := by decide +kernel
theorem dX0_becomeLike_50 : decode cX0_becomeLike 50 = .ok (.getfield 21, 3) := by decide +kernel
theorem dX0_becomeLike_53 : decode cX0_becomeLike 53 = .ok (.aload_n 0, 1) := by decide +kernel
theorem dX0_becomeLike_54 : decode cX0_becomeLike 54 = .ok (.getfield 21, 3) := by decide +kernel
theorem dX0_becomeLike_57 : decode cX0_becomeLike 57 = .ok (.invokestatic 37, 3) := by decide +kernel
theorem dX0_becomeLike_60 : decode cX0_becomeLike 60 = .ok (.return_, 1) := by decide +kernel
theorem dX0_takeRow_0 : decode cX0_takeRow 0 = .ok (.aload_n 0, 1) := by decide +kernel
theorem dX0_takeRow_1 : decode cX0_takeRow 1 = .ok (.iconst 0, 1) := by decide +kernel
theorem dX0_takeRow_2 : decode cX0_takeRow 2 = .ok (.aload_n 1, 1) := by decide +kernel
theorem dX0_takeRow_3 : decode cX0_takeRow 3 = .ok (.iconst 0, 1) := by decide +kernel
theorem dX0_takeRow_4 : decode cX0_takeRow 4 = .ok (.aload_n 0, 1) := by decide +kernel
theorem dX0_takeRow_5 : decode cX0_takeRow 5 = .ok (.arraylength, 1) := by decide +kernel
theorem dX0_takeRow_6 : decode cX0_takeRow 6 = .ok (.aload_n 1, 1) := by decide +kernel
theorem dX0_takeRow_7 : decode cX0_takeRow 7 = .ok (.arraylength, 1) := by decide +kernel
theorem dX0_takeRow_8 : decode cX0_takeRow 8 = .ok (.invokestatic 41, 3) := by decide +kernel
theorem dX0_takeRow_11 : decode cX0_takeRow 11 = .ok (.invokestatic 47, 3) := by decide +kernel
theorem dX0_takeRow_14 : decode cX0_takeRow 14 = .ok (.return_, 1) := by decide +kernel
theorem dX0_persons_0 : decode cX0_persons 0 = .ok (.aload_n 0, 1) := by decide +kernel
theorem dX0_persons_1 : decode cX0_persons 1 = .ok (.getfield 24, 3) := by decide +kernel
theorem dX0_persons_4 : decode cX0_persons 4 = .ok (.ireturn, 1) := by decide +kernel
theorem dX0_papers_0 : decode cX0_papers 0 = .ok (.aload_n 0, 1) := by decide +kernel
theorem dX0_papers_1 : decode cX0_papers 1 = .ok (.getfield 28, 3) := by decide +kernel
theorem dX0_papers_4 : decode cX0_papers 4 = .ok (.ireturn, 1) := by decide +kernel
theorem dX0_hasPerson_0 : decode cX0_hasPerson 0 = .ok (.iload_n 1, 1) := by decide +kernel
theorem dX0_hasPerson_1 : decode cX0_hasPerson 1 = .ok (.ifCond .lt 15, 3) := by decide +kernel
theorem dX0_hasPerson_4 : decode cX0_hasPerson 4 = .ok (.iload_n 1, 1) := by decide +kernel
theorem dX0_hasPerson_5 : decode cX0_hasPerson 5 = .ok (.aload_n 0, 1) := by decide +kernel
theorem dX0_hasPerson_6 : decode cX0_hasPerson 6 = .ok (.getfield 24, 3) := by decide +kernel
theorem dX0_hasPerson_9 : decode cX0_hasPerson 9 = .ok (.if_icmp .ge 7, 3) := by decide +kernel
theorem dX0_hasPerson_12 : decode cX0_hasPerson 12 = .ok (.iconst 1, 1) := by decide +kernel
theorem dX0_hasPerson_13 : decode cX0_hasPerson 13 = .ok (.goto 4, 3) := by decide +kernel
theorem dX0_hasPerson_16 : decode cX0_hasPerson 16 = .ok (.iconst 0, 1) := by decide +kernel
theorem dX0_hasPerson_17 : decode cX0_hasPerson 17 = .ok (.ireturn, 1) := by decide +kernel
theorem dX0_hasPaper_0 : decode cX0_hasPaper 0 = .ok (.iload_n 1, 1) := by decide +kernel
theorem dX0_hasPaper_1 : decode cX0_hasPaper 1 = .ok (.ifCond .lt 15, 3) := by decide +kernel
theorem dX0_hasPaper_4 : decode cX0_hasPaper 4 = .ok (.iload_n 1, 1) := by decide +kernel
theorem dX0_hasPaper_5 : decode cX0_hasPaper 5 = .ok (.aload_n 0, 1) := by decide +kernel
theorem dX0_hasPaper_6 : decode cX0_hasPaper 6 = .ok (.getfield 28, 3) := by decide +kernel
theorem dX0_hasPaper_9 : decode cX0_hasPaper 9 = .ok (.if_icmp .ge 7, 3) := by decide +kernel
theorem dX0_hasPaper_12 : decode cX0_hasPaper 12 = .ok (.iconst 1, 1) := by decide +kernel
theorem dX0_hasPaper_13 : decode cX0_hasPaper 13 = .ok (.goto 4, 3) := by decide +kernel
theorem dX0_hasPaper_16 : decode cX0_hasPaper 16 = .ok (.iconst 0, 1) := by decide +kernel
theorem dX0_hasPaper_17 : decode cX0_hasPaper 17 = .ok (.ireturn, 1) := by decide +kernel
theorem dX0_tellPerson_0 : decode cX0_tellPerson 0 = .ok (.aload_n 0, 1) := by decide +kernel
theorem dX0_tellPerson_1 : decode cX0_tellPerson 1 = .ok (.getfield 24, 3) := by decide +kernel
theorem dX0_tellPerson_4 : decode cX0_tellPerson 4 = .ok (.bipush 6, 2) := by decide +kernel
theorem dX0_tellPerson_6 : decode cX0_tellPerson 6 = .ok (.if_icmp .ge 19, 3) := by decide +kernel
theorem dX0_tellPerson_9 : decode cX0_tellPerson 9 = .ok (.iload_n 1, 1) := by decide +kernel
theorem dX0_tellPerson_10 : decode cX0_tellPerson 10 = .ok (.iconst 4, 1) := by decide +kernel
theorem dX0_tellPerson_11 : decode cX0_tellPerson 11 = .ok (.invokestatic 53, 3) := by decide +kernel
theorem dX0_tellPerson_14 : decode cX0_tellPerson 14 = .ok (.ifCond .eq 11, 3) := by decide +kernel
theorem dX0_tellPerson_17 : decode cX0_tellPerson 17 = .ok (.iload_n 2, 1) := by decide +kernel
theorem dX0_tellPerson_18 : decode cX0_tellPerson 18 = .ok (.iconst 5, 1) := by decide +kernel
theorem dX0_tellPerson_19 : decode cX0_tellPerson 19 = .ok (.invokestatic 53, 3) := by decide +kernel
theorem dX0_tellPerson_22 : decode cX0_tellPerson 22 = .ok (.ifCond .ne 5, 3) := by decide +kernel
theorem dX0_tellPerson_25 : decode cX0_tellPerson 25 = .ok (.iconst 0, 1) := by decide +kernel
theorem dX0_tellPerson_26 : decode cX0_tellPerson 26 = .ok (.ireturn, 1) := by decide +kernel
theorem dX0_tellPerson_27 : decode cX0_tellPerson 27 = .ok (.aload_n 0, 1) := by decide +kernel
theorem dX0_tellPerson_28 : decode cX0_tellPerson 28 = .ok (.getfield 9, 3) := by decide +kernel
theorem dX0_tellPerson_31 : decode cX0_tellPerson 31 = .ok (.aload_n 0, 1) := by decide +kernel
theorem dX0_tellPerson_32 : decode cX0_tellPerson 32 = .ok (.getfield 24, 3) := by decide +kernel
theorem dX0_tellPerson_35 : decode cX0_tellPerson 35 = .ok (.iload_n 1, 1) := by decide +kernel
theorem dX0_tellPerson_36 : decode cX0_tellPerson 36 = .ok (.invokestatic 57, 3) := by decide +kernel
theorem dX0_tellPerson_39 : decode cX0_tellPerson 39 = .ok (.aload_n 0, 1) := by decide +kernel
theorem dX0_tellPerson_40 : decode cX0_tellPerson 40 = .ok (.getfield 15, 3) := by decide +kernel
theorem dX0_tellPerson_43 : decode cX0_tellPerson 43 = .ok (.aload_n 0, 1) := by decide +kernel
theorem dX0_tellPerson_44 : decode cX0_tellPerson 44 = .ok (.getfield 24, 3) := by decide +kernel
theorem dX0_tellPerson_47 : decode cX0_tellPerson 47 = .ok (.iload_n 2, 1) := by decide +kernel
theorem dX0_tellPerson_48 : decode cX0_tellPerson 48 = .ok (.invokestatic 57, 3) := by decide +kernel
theorem dX0_tellPerson_51 : decode cX0_tellPerson 51 = .ok (.aload_n 0, 1) := by decide +kernel
theorem dX0_tellPerson_52 : decode cX0_tellPerson 52 = .ok (.dup, 1) := by decide +kernel
theorem dX0_tellPerson_53 : decode cX0_tellPerson 53 = .ok (.getfield 24, 3) := by decide +kernel
theorem dX0_tellPerson_56 : decode cX0_tellPerson 56 = .ok (.iconst 1, 1) := by decide +kernel
theorem dX0_tellPerson_57 : decode cX0_tellPerson 57 = .ok (.iadd, 1) := by decide +kernel
theorem dX0_tellPerson_58 : decode cX0_tellPerson 58 = .ok (.putfield 24, 3) := by decide +kernel
theorem dX0_tellPerson_61 : decode cX0_tellPerson 61 = .ok (.iconst 1, 1) := by decide +kernel
theorem dX0_tellPerson_62 : decode cX0_tellPerson 62 = .ok (.ireturn, 1) := by decide +kernel
theorem dX0_tellView_0 : decode cX0_tellView 0 = .ok (.aload_n 0, 1) := by decide +kernel
theorem dX0_tellView_1 : decode cX0_tellView 1 = .ok (.iload_n 1, 1) := by decide +kernel
theorem dX0_tellView_2 : decode cX0_tellView 2 = .ok (.invokevirtual 61, 3) := by decide +kernel
theorem dX0_tellView_5 : decode cX0_tellView 5 = .ok (.ifCond .eq 19, 3) := by decide +kernel
theorem dX0_tellView_8 : decode cX0_tellView 8 = .ok (.iload_n 2, 1) := by decide +kernel
theorem dX0_tellView_9 : decode cX0_tellView 9 = .ok (.invokestatic 65, 3) := by decide +kernel
theorem dX0_tellView_12 : decode cX0_tellView 12 = .ok (.ifCond .eq 12, 3) := by decide +kernel
theorem dX0_tellView_15 : decode cX0_tellView 15 = .ok (.iload_n 3, 1) := by decide +kernel
theorem dX0_tellView_16 : decode cX0_tellView 16 = .ok (.bipush 18, 2) := by decide +kernel
theorem dX0_tellView_18 : decode cX0_tellView 18 = .ok (.invokestatic 53, 3) := by decide +kernel
theorem dX0_tellView_21 : decode cX0_tellView 21 = .ok (.ifCond .ne 5, 3) := by decide +kernel
theorem dX0_tellView_24 : decode cX0_tellView 24 = .ok (.iconst 0, 1) := by decide +kernel
theorem dX0_tellView_25 : decode cX0_tellView 25 = .ok (.ireturn, 1) := by decide +kernel
theorem dX0_tellView_26 : decode cX0_tellView 26 = .ok (.aload_n 0, 1) := by decide +kernel
theorem dX0_tellView_27 : decode cX0_tellView 27 = .ok (.iload_n 1, 1) := by decide +kernel
theorem dX0_tellView_28 : decode cX0_tellView 28 = .ok (.iload_n 2, 1) := by decide +kernel
theorem dX0_tellView_29 : decode cX0_tellView 29 = .ok (.iload_n 3, 1) := by decide +kernel
theorem dX0_tellView_30 : decode cX0_tellView 30 = .ok (.bipush 9, 2) := by decide +kernel
theorem dX0_tellView_32 : decode cX0_tellView 32 = .ok (.isub, 1) := by decide +kernel
theorem dX0_tellView_33 : decode cX0_tellView 33 = .ok (.invokevirtual 68, 3) := by decide +kernel
theorem dX0_tellView_36 : decode cX0_tellView 36 = .ok (.iconst 1, 1) := by decide +kernel
theorem dX0_tellView_37 : decode cX0_tellView 37 = .ok (.ireturn, 1) := by decide +kernel
theorem dX0_tellPapers_0 : decode cX0_tellPapers 0 = .ok (.iload_n 1, 1) := by decide +kernel
theorem dX0_tellPapers_1 : decode cX0_tellPapers 1 = .ok (.iconst 1, 1) := by decide +kernel
theorem dX0_tellPapers_2 : decode cX0_tellPapers 2 = .ok (.if_icmp .lt 8, 3) := by decide +kernel
theorem dX0_tellPapers_5 : decode cX0_tellPapers 5 = .ok (.iload_n 1, 1) := by decide +kernel
theorem dX0_tellPapers_6 : decode cX0_tellPapers 6 = .ok (.iconst 5, 1) := by decide +kernel
theorem dX0_tellPapers_7 : decode cX0_tellPapers 7 = .ok (.if_icmp .le 5, 3) := by decide +kernel
theorem dX0_tellPapers_10 : decode cX0_tellPapers 10 = .ok (.iconst 0, 1) := by decide +kernel
theorem dX0_tellPapers_11 : decode cX0_tellPapers 11 = .ok (.ireturn, 1) := by decide +kernel
theorem dX0_tellPapers_12 : decode cX0_tellPapers 12 = .ok (.aload_n 0, 1) := by decide +kernel
theorem dX0_tellPapers_13 : decode cX0_tellPapers 13 = .ok (.iload_n 1, 1) := by decide +kernel
theorem dX0_tellPapers_14 : decode cX0_tellPapers 14 = .ok (.putfield 28, 3) := by decide +kernel
theorem dX0_tellPapers_17 : decode cX0_tellPapers 17 = .ok (.iconst 1, 1) := by decide +kernel
theorem dX0_tellPapers_18 : decode cX0_tellPapers 18 = .ok (.ireturn, 1) := by decide +kernel
theorem dX0_canBeLaid_0 : decode cX0_canBeLaid 0 = .ok (.iconst 0, 1) := by decide +kernel
theorem dX0_canBeLaid_1 : decode cX0_canBeLaid 1 = .ok (.istore_n 1, 1) := by decide +kernel
theorem dX0_canBeLaid_2 : decode cX0_canBeLaid 2 = .ok (.iload_n 1, 1) := by decide +kernel
theorem dX0_canBeLaid_3 : decode cX0_canBeLaid 3 = .ok (.aload_n 0, 1) := by decide +kernel
theorem dX0_canBeLaid_4 : decode cX0_canBeLaid 4 = .ok (.getfield 24, 3) := by decide +kernel
theorem dX0_canBeLaid_7 : decode cX0_canBeLaid 7 = .ok (.if_icmp .ge 23, 3) := by decide +kernel
theorem dX0_canBeLaid_10 : decode cX0_canBeLaid 10 = .ok (.aload_n 0, 1) := by decide +kernel
theorem dX0_canBeLaid_11 : decode cX0_canBeLaid 11 = .ok (.aload_n 0, 1) := by decide +kernel
theorem dX0_canBeLaid_12 : decode cX0_canBeLaid 12 = .ok (.iload_n 1, 1) := by decide +kernel
theorem dX0_canBeLaid_13 : decode cX0_canBeLaid 13 = .ok (.invokevirtual 72, 3) := by decide +kernel
theorem dX0_canBeLaid_16 : decode cX0_canBeLaid 16 = .ok (.invokevirtual 61, 3) := by decide +kernel
theorem dX0_canBeLaid_19 : decode cX0_canBeLaid 19 = .ok (.ifCond .ne 5, 3) := by decide +kernel
theorem dX0_canBeLaid_22 : decode cX0_canBeLaid 22 = .ok (.iconst 0, 1) := by decide +kernel
theorem dX0_canBeLaid_23 : decode cX0_canBeLaid 23 = .ok (.ireturn, 1) := by decide +kernel
theorem dX0_canBeLaid_24 : decode cX0_canBeLaid 24 = .ok (.iinc 1 1, 3) := by decide +kernel
theorem dX0_canBeLaid_27 : decode cX0_canBeLaid 27 = .ok (.goto (-25), 3) := by decide +kernel
theorem dX0_canBeLaid_30 : decode cX0_canBeLaid 30 = .ok (.aload_n 0, 1) := by decide +kernel
theorem dX0_canBeLaid_31 : decode cX0_canBeLaid 31 = .ok (.getfield 24, 3) := by decide +kernel
theorem dX0_canBeLaid_34 : decode cX0_canBeLaid 34 = .ok (.ifCond .le 7, 3) := by decide +kernel
theorem dX0_canBeLaid_37 : decode cX0_canBeLaid 37 = .ok (.iconst 1, 1) := by decide +kernel
theorem dX0_canBeLaid_38 : decode cX0_canBeLaid 38 = .ok (.goto 4, 3) := by decide +kernel
theorem dX0_canBeLaid_41 : decode cX0_canBeLaid 41 = .ok (.iconst 0, 1) := by decide +kernel
theorem dX0_canBeLaid_42 : decode cX0_canBeLaid 42 = .ok (.ireturn, 1) := by decide +kernel
theorem dX0_kindOf_0 : decode cX0_kindOf 0 = .ok (.aload_n 0, 1) := by decide +kernel
theorem dX0_kindOf_1 : decode cX0_kindOf 1 = .ok (.getfield 9, 3) := by decide +kernel
theorem dX0_kindOf_4 : decode cX0_kindOf 4 = .ok (.iload_n 1, 1) := by decide +kernel
theorem dX0_kindOf_5 : decode cX0_kindOf 5 = .ok (.invokestatic 76, 3) := by decide +kernel
theorem dX0_kindOf_8 : decode cX0_kindOf 8 = .ok (.ireturn, 1) := by decide +kernel
theorem dX0_mindOf_0 : decode cX0_mindOf 0 = .ok (.aload_n 0, 1) := by decide +kernel
theorem dX0_mindOf_1 : decode cX0_mindOf 1 = .ok (.getfield 15, 3) := by decide +kernel
theorem dX0_mindOf_4 : decode cX0_mindOf 4 = .ok (.iload_n 1, 1) := by decide +kernel
theorem dX0_mindOf_5 : decode cX0_mindOf 5 = .ok (.invokestatic 76, 3) := by decide +kernel
theorem dX0_mindOf_8 : decode cX0_mindOf 8 = .ok (.ireturn, 1) := by decide +kernel
theorem dX0_putMind_0 : decode cX0_putMind 0 = .ok (.aload_n 0, 1) := by decide +kernel
theorem dX0_putMind_1 : decode cX0_putMind 1 = .ok (.getfield 15, 3) := by decide +kernel
theorem dX0_putMind_4 : decode cX0_putMind 4 = .ok (.iload_n 1, 1) := by decide +kernel
theorem dX0_putMind_5 : decode cX0_putMind 5 = .ok (.iload_n 2, 1) := by decide +kernel
theorem dX0_putMind_6 : decode cX0_putMind 6 = .ok (.invokestatic 57, 3) := by decide +kernel
theorem dX0_putMind_9 : decode cX0_putMind 9 = .ok (.return_, 1) := by decide +kernel
theorem dX0_viewOf_0 : decode cX0_viewOf 0 = .ok (.aload_n 0, 1) := by decide +kernel
theorem dX0_viewOf_1 : decode cX0_viewOf 1 = .ok (.getfield 18, 3) := by decide +kernel
theorem dX0_viewOf_4 : decode cX0_viewOf 4 = .ok (.iload_n 1, 1) := by decide +kernel
theorem dX0_viewOf_5 : decode cX0_viewOf 5 = .ok (.iconst 5, 1) := by decide +kernel
theorem dX0_viewOf_6 : decode cX0_viewOf 6 = .ok (.imul, 1) := by decide +kernel
theorem dX0_viewOf_7 : decode cX0_viewOf 7 = .ok (.iload_n 2, 1) := by decide +kernel
theorem dX0_viewOf_8 : decode cX0_viewOf 8 = .ok (.iadd, 1) := by decide +kernel
theorem dX0_viewOf_9 : decode cX0_viewOf 9 = .ok (.invokestatic 76, 3) := by decide +kernel
theorem dX0_viewOf_12 : decode cX0_viewOf 12 = .ok (.ireturn, 1) := by decide +kernel
theorem dX0_putView_0 : decode cX0_putView 0 = .ok (.aload_n 0, 1) := by decide +kernel
theorem dX0_putView_1 : decode cX0_putView 1 = .ok (.getfield 18, 3) := by decide +kernel
theorem dX0_putView_4 : decode cX0_putView 4 = .ok (.iload_n 1, 1) := by decide +kernel
theorem dX0_putView_5 : decode cX0_putView 5 = .ok (.iconst 5, 1) := by decide +kernel
theorem dX0_putView_6 : decode cX0_putView 6 = .ok (.imul, 1) := by decide +kernel
theorem dX0_putView_7 : decode cX0_putView 7 = .ok (.iload_n 2, 1) := by decide +kernel
theorem dX0_putView_8 : decode cX0_putView 8 = .ok (.iadd, 1) := by decide +kernel
theorem dX0_putView_9 : decode cX0_putView 9 = .ok (.iload_n 3, 1) := by decide +kernel
theorem dX0_putView_10 : decode cX0_putView 10 = .ok (.invokestatic 57, 3) := by decide +kernel
theorem dX0_putView_13 : decode cX0_putView 13 = .ok (.return_, 1) := by decide +kernel
theorem dX0_lineOf_0 : decode cX0_lineOf 0 = .ok (.aload_n 0, 1) := by decide +kernel
theorem dX0_lineOf_1 : decode cX0_lineOf 1 = .ok (.getfield 21, 3) := by decide +kernel
theorem dX0_lineOf_4 : decode cX0_lineOf 4 = .ok (.iload_n 1, 1) := by decide +kernel
theorem dX0_lineOf_5 : decode cX0_lineOf 5 = .ok (.iconst 5, 1) := by decide +kernel
theorem dX0_lineOf_6 : decode cX0_lineOf 6 = .ok (.imul, 1) := by decide +kernel
theorem dX0_lineOf_7 : decode cX0_lineOf 7 = .ok (.iload_n 2, 1) := by decide +kernel
theorem dX0_lineOf_8 : decode cX0_lineOf 8 = .ok (.iadd, 1) := by decide +kernel
theorem dX0_lineOf_9 : decode cX0_lineOf 9 = .ok (.invokestatic 76, 3) := by decide +kernel
theorem dX0_lineOf_12 : decode cX0_lineOf 12 = .ok (.ireturn, 1) := by decide +kernel
theorem dX0_putLine_0 : decode cX0_putLine 0 = .ok (.aload_n 0, 1) := by decide +kernel
theorem dX0_putLine_1 : decode cX0_putLine 1 = .ok (.getfield 21, 3) := by decide +kernel
theorem dX0_putLine_4 : decode cX0_putLine 4 = .ok (.iload_n 1, 1) := by decide +kernel
theorem dX0_putLine_5 : decode cX0_putLine 5 = .ok (.iconst 5, 1) := by decide +kernel
theorem dX0_putLine_6 : decode cX0_putLine 6 = .ok (.imul, 1) := by decide +kernel
theorem dX0_putLine_7 : decode cX0_putLine 7 = .ok (.iload_n 2, 1) := by decide +kernel
theorem dX0_putLine_8 : decode cX0_putLine 8 = .ok (.iadd, 1) := by decide +kernel
theorem dX0_putLine_9 : decode cX0_putLine 9 = .ok (.iload_n 3, 1) := by decide +kernel
theorem dX0_putLine_10 : decode cX0_putLine 10 = .ok (.invokestatic 57, 3) := by decide +kernel
theorem dX0_putLine_13 : decode cX0_putLine 13 = .ok (.return_, 1) := by decide +kernel
theorem dX0_written_0 : decode cX0_written 0 = .ok (.aload_n 0, 1) := by decide +kernel
theorem dX0_written_1 : decode cX0_written 1 = .ok (.iload_n 1, 1) := by decide +kernel
theorem dX0_written_2 : decode cX0_written 2 = .ok (.aload_n 0, 1) := by decide +kernel
theorem dX0_written_3 : decode cX0_written 3 = .ok (.iload_n 1, 1) := by decide +kernel
theorem dX0_written_4 : decode cX0_written 4 = .ok (.invokevirtual 72, 3) := by decide +kernel
theorem dX0_written_7 : decode cX0_written 7 = .ok (.iload_n 2, 1) := by decide +kernel
theorem dX0_written_8 : decode cX0_written 8 = .ok (.iload_n 3, 1) := by decide +kernel
theorem dX0_written_9 : decode cX0_written 9 = .ok (.invokevirtual 80, 3) := by decide +kernel
theorem dX0_written_12 : decode cX0_written 12 = .ok (.ireturn, 1) := by decide +kernel
theorem dX0_writtenFor_0 : decode cX0_writtenFor 0 = .ok (.aload_n 0, 1) := by decide +kernel
theorem dX0_writtenFor_1 : decode cX0_writtenFor 1 = .ok (.iload_n 1, 1) := by decide +kernel
theorem dX0_writtenFor_2 : decode cX0_writtenFor 2 = .ok (.invokevirtual 84, 3) := by decide +kernel
theorem dX0_writtenFor_5 : decode cX0_writtenFor 5 = .ok (.aload_n 0, 1) := by decide +kernel
theorem dX0_writtenFor_6 : decode cX0_writtenFor 6 = .ok (.iload_n 2, 1) := by decide +kernel
theorem dX0_writtenFor_7 : decode cX0_writtenFor 7 = .ok (.iload_n 3, 1) := by decide +kernel
theorem dX0_writtenFor_8 : decode cX0_writtenFor 8 = .ok (.invokevirtual 87, 3) := by decide +kernel
theorem dX0_writtenFor_11 : decode cX0_writtenFor 11 = .ok (.aload_n 0, 1) := by decide +kernel
theorem dX0_writtenFor_12 : decode cX0_writtenFor 12 = .ok (.iload_n 1, 1) := by decide +kernel
theorem dX0_writtenFor_13 : decode cX0_writtenFor 13 = .ok (.iload_n 3, 1) := by decide +kernel
theorem dX0_writtenFor_14 : decode cX0_writtenFor 14 = .ok (.invokevirtual 87, 3) := by decide +kernel
theorem dX0_writtenFor_17 : decode cX0_writtenFor 17 = .ok (.iload 4, 2) := by decide +kernel
theorem dX0_writtenFor_19 : decode cX0_writtenFor 19 = .ok (.invokestatic 90, 3) := by decide +kernel
theorem dX0_writtenFor_22 : decode cX0_writtenFor 22 = .ok (.ireturn, 1) := by decide +kernel
theorem dX0_copied_0 : decode cX0_copied 0 = .ok (.iload_n 3, 1) := by decide +kernel
theorem dX0_copied_1 : decode cX0_copied 1 = .ok (.bipush 100, 2) := by decide +kernel
theorem dX0_copied_3 : decode cX0_copied 3 = .ok (.if_icmp .ne 8, 3) := by decide +kernel
theorem dX0_copied_6 : decode cX0_copied 6 = .ok (.bipush 100, 2) := by decide +kernel
theorem dX0_copied_8 : decode cX0_copied 8 = .ok (.goto 22, 3) := by decide +kernel
theorem dX0_copied_11 : decode cX0_copied 11 = .ok (.aload_n 0, 1) := by decide +kernel
theorem dX0_copied_12 : decode cX0_copied 12 = .ok (.iload_n 1, 1) := by decide +kernel
theorem dX0_copied_13 : decode cX0_copied 13 = .ok (.invokevirtual 84, 3) := by decide +kernel
theorem dX0_copied_16 : decode cX0_copied 16 = .ok (.iload_n 3, 1) := by decide +kernel
theorem dX0_copied_17 : decode cX0_copied 17 = .ok (.aload_n 0, 1) := by decide +kernel
theorem dX0_copied_18 : decode cX0_copied 18 = .ok (.aload_n 0, 1) := by decide +kernel
theorem dX0_copied_19 : decode cX0_copied 19 = .ok (.iload_n 1, 1) := by decide +kernel
theorem dX0_copied_20 : decode cX0_copied 20 = .ok (.invokevirtual 72, 3) := by decide +kernel
theorem dX0_copied_23 : decode cX0_copied 23 = .ok (.iload_n 2, 1) := by decide +kernel
theorem dX0_copied_24 : decode cX0_copied 24 = .ok (.invokevirtual 87, 3) := by decide +kernel
theorem dX0_copied_27 : decode cX0_copied 27 = .ok (.invokestatic 93, 3) := by decide +kernel
theorem dX0_copied_30 : decode cX0_copied 30 = .ok (.ireturn, 1) := by decide +kernel
theorem dX0_copyPaper_0 : decode cX0_copyPaper 0 = .ok (.iconst 0, 1) := by decide +kernel
theorem dX0_copyPaper_1 : decode cX0_copyPaper 1 = .ok (.istore 4, 2) := by decide +kernel
theorem dX0_copyPaper_3 : decode cX0_copyPaper 3 = .ok (.iload 4, 2) := by decide +kernel
theorem dX0_copyPaper_5 : decode cX0_copyPaper 5 = .ok (.iconst 5, 1) := by decide +kernel
theorem dX0_copyPaper_6 : decode cX0_copyPaper 6 = .ok (.if_icmp .ge 30, 3) := by decide +kernel
theorem dX0_copyPaper_9 : decode cX0_copyPaper 9 = .ok (.aload_n 0, 1) := by decide +kernel
theorem dX0_copyPaper_10 : decode cX0_copyPaper 10 = .ok (.iload_n 2, 1) := by decide +kernel
theorem dX0_copyPaper_11 : decode cX0_copyPaper 11 = .ok (.iload 4, 2) := by decide +kernel
theorem dX0_copyPaper_13 : decode cX0_copyPaper 13 = .ok (.aload_n 0, 1) := by decide +kernel
theorem dX0_copyPaper_14 : decode cX0_copyPaper 14 = .ok (.iload_n 3, 1) := by decide +kernel
theorem dX0_copyPaper_15 : decode cX0_copyPaper 15 = .ok (.iload 4, 2) := by decide +kernel
theorem dX0_copyPaper_17 : decode cX0_copyPaper 17 = .ok (.aload_n 0, 1) := by decide +kernel
theorem dX0_copyPaper_18 : decode cX0_copyPaper 18 = .ok (.iload_n 1, 1) := by decide +kernel
theorem dX0_copyPaper_19 : decode cX0_copyPaper 19 = .ok (.iload 4, 2) := by decide +kernel
theorem dX0_copyPaper_21 : decode cX0_copyPaper 21 = .ok (.invokevirtual 97, 3) := by decide +kernel
theorem dX0_copyPaper_24 : decode cX0_copyPaper 24 = .ok (.invokevirtual 100, 3) := by decide +kernel
theorem dX0_copyPaper_27 : decode cX0_copyPaper 27 = .ok (.invokevirtual 103, 3) := by decide +kernel
theorem dX0_copyPaper_30 : decode cX0_copyPaper 30 = .ok (.iinc 4 1, 3) := by decide +kernel
theorem dX0_copyPaper_33 : decode cX0_copyPaper 33 = .ok (.goto (-30), 3) := by decide +kernel
theorem dX0_copyPaper_36 : decode cX0_copyPaper 36 = .ok (.return_, 1) := by decide +kernel
theorem dX0_goRound_0 : decode cX0_goRound 0 = .ok (.iconst 0, 1) := by decide +kernel
theorem dX0_goRound_1 : decode cX0_goRound 1 = .ok (.istore_n 2, 1) := by decide +kernel
theorem dX0_goRound_2 : decode cX0_goRound 2 = .ok (.iload_n 2, 1) := by decide +kernel
theorem dX0_goRound_3 : decode cX0_goRound 3 = .ok (.aload_n 0, 1) := by decide +kernel
theorem dX0_goRound_4 : decode cX0_goRound 4 = .ok (.getfield 24, 3) := by decide +kernel
theorem dX0_goRound_7 : decode cX0_goRound 7 = .ok (.if_icmp .ge 16, 3) := by decide +kernel
theorem dX0_goRound_10 : decode cX0_goRound 10 = .ok (.aload_n 0, 1) := by decide +kernel
theorem dX0_goRound_11 : decode cX0_goRound 11 = .ok (.iload_n 1, 1) := by decide +kernel
theorem dX0_goRound_12 : decode cX0_goRound 12 = .ok (.iload_n 1, 1) := by decide +kernel
theorem dX0_goRound_13 : decode cX0_goRound 13 = .ok (.iload_n 2, 1) := by decide +kernel
theorem dX0_goRound_14 : decode cX0_goRound 14 = .ok (.invokevirtual 106, 3) := by decide +kernel
theorem dX0_goRound_17 : decode cX0_goRound 17 = .ok (.iinc 2 1, 3) := by decide +kernel
theorem dX0_goRound_20 : decode cX0_goRound 20 = .ok (.goto (-18), 3) := by decide +kernel
theorem dX0_goRound_23 : decode cX0_goRound 23 = .ok (.return_, 1) := by decide +kernel
theorem dX0_codeOf_0 : decode cX0_codeOf 0 = .ok (.iconst 0, 1) := by decide +kernel
theorem dX0_codeOf_1 : decode cX0_codeOf 1 = .ok (.istore_n 2, 1) := by decide +kernel
theorem dX0_codeOf_2 : decode cX0_codeOf 2 = .ok (.iconst 0, 1) := by decide +kernel
theorem dX0_codeOf_3 : decode cX0_codeOf 3 = .ok (.istore_n 3, 1) := by decide +kernel
theorem dX0_codeOf_4 : decode cX0_codeOf 4 = .ok (.iload_n 3, 1) := by decide +kernel
theorem dX0_codeOf_5 : decode cX0_codeOf 5 = .ok (.iconst 5, 1) := by decide +kernel
theorem dX0_codeOf_6 : decode cX0_codeOf 6 = .ok (.if_icmp .ge 40, 3) := by decide +kernel
theorem dX0_codeOf_9 : decode cX0_codeOf 9 = .ok (.aload_n 0, 1) := by decide +kernel
theorem dX0_codeOf_10 : decode cX0_codeOf 10 = .ok (.iload_n 1, 1) := by decide +kernel
theorem dX0_codeOf_11 : decode cX0_codeOf 11 = .ok (.iload_n 3, 1) := by decide +kernel
theorem dX0_codeOf_12 : decode cX0_codeOf 12 = .ok (.invokevirtual 97, 3) := by decide +kernel
theorem dX0_codeOf_15 : decode cX0_codeOf 15 = .ok (.istore 4, 2) := by decide +kernel
theorem dX0_codeOf_17 : decode cX0_codeOf 17 = .ok (.iload_n 2, 1) := by decide +kernel
theorem dX0_codeOf_18 : decode cX0_codeOf 18 = .ok (.bipush 20, 2) := by decide +kernel
theorem dX0_codeOf_20 : decode cX0_codeOf 20 = .ok (.imul, 1) := by decide +kernel
theorem dX0_codeOf_21 : decode cX0_codeOf 21 = .ok (.iload 4, 2) := by decide +kernel
theorem dX0_codeOf_23 : decode cX0_codeOf 23 = .ok (.bipush 100, 2) := by decide +kernel
theorem dX0_codeOf_25 : decode cX0_codeOf 25 = .ok (.if_icmp .ne 8, 3) := by decide +kernel
theorem dX0_codeOf_28 : decode cX0_codeOf 28 = .ok (.bipush 19, 2) := by decide +kernel
theorem dX0_codeOf_30 : decode cX0_codeOf 30 = .ok (.goto 8, 3) := by decide +kernel
theorem dX0_codeOf_33 : decode cX0_codeOf 33 = .ok (.iload 4, 2) := by decide +kernel
theorem dX0_codeOf_35 : decode cX0_codeOf 35 = .ok (.bipush 9, 2) := by decide +kernel
theorem dX0_codeOf_37 : decode cX0_codeOf 37 = .ok (.iadd, 1) := by decide +kernel
theorem dX0_codeOf_38 : decode cX0_codeOf 38 = .ok (.iadd, 1) := by decide +kernel
theorem dX0_codeOf_39 : decode cX0_codeOf 39 = .ok (.istore_n 2, 1) := by decide +kernel
theorem dX0_codeOf_40 : decode cX0_codeOf 40 = .ok (.iinc 3 1, 3) := by decide +kernel
theorem dX0_codeOf_43 : decode cX0_codeOf 43 = .ok (.goto (-39), 3) := by decide +kernel
theorem dX0_codeOf_46 : decode cX0_codeOf 46 = .ok (.iload_n 2, 1) := by decide +kernel
theorem dX0_codeOf_47 : decode cX0_codeOf 47 = .ok (.ireturn, 1) := by decide +kernel
theorem dX0_filledLinesOf_0 : decode cX0_filledLinesOf 0 = .ok (.iconst 0, 1) := by decide +kernel
theorem dX0_filledLinesOf_1 : decode cX0_filledLinesOf 1 = .ok (.istore_n 2, 1) := by decide +kernel
theorem dX0_filledLinesOf_2 : decode cX0_filledLinesOf 2 = .ok (.iconst 0, 1) := by decide +kernel
theorem dX0_filledLinesOf_3 : decode cX0_filledLinesOf 3 = .ok (.istore_n 3, 1) := by decide +kernel
theorem dX0_filledLinesOf_4 : decode cX0_filledLinesOf 4 = .ok (.iload_n 3, 1) := by decide +kernel
theorem dX0_filledLinesOf_5 : decode cX0_filledLinesOf 5 = .ok (.iconst 5, 1) := by decide +kernel
theorem dX0_filledLinesOf_6 : decode cX0_filledLinesOf 6 = .ok (.if_icmp .ge 28, 3) := by decide +kernel
theorem dX0_filledLinesOf_9 : decode cX0_filledLinesOf 9 = .ok (.iload_n 2, 1) := by decide +kernel
theorem dX0_filledLinesOf_10 : decode cX0_filledLinesOf 10 = .ok (.aload_n 0, 1) := by decide +kernel
theorem dX0_filledLinesOf_11 : decode cX0_filledLinesOf 11 = .ok (.iload_n 1, 1) := by decide +kernel
theorem dX0_filledLinesOf_12 : decode cX0_filledLinesOf 12 = .ok (.iload_n 3, 1) := by decide +kernel
theorem dX0_filledLinesOf_13 : decode cX0_filledLinesOf 13 = .ok (.invokevirtual 97, 3) := by decide +kernel
theorem dX0_filledLinesOf_16 : decode cX0_filledLinesOf 16 = .ok (.bipush 100, 2) := by decide +kernel
theorem dX0_filledLinesOf_18 : decode cX0_filledLinesOf 18 = .ok (.if_icmp .ne 7, 3) := by decide +kernel
theorem dX0_filledLinesOf_21 : decode cX0_filledLinesOf 21 = .ok (.iconst 0, 1) := by decide +kernel
theorem dX0_filledLinesOf_22 : decode cX0_filledLinesOf 22 = .ok (.goto 4, 3) := by decide +kernel
theorem dX0_filledLinesOf_25 : decode cX0_filledLinesOf 25 = .ok (.iconst 1, 1) := by decide +kernel
theorem dX0_filledLinesOf_26 : decode cX0_filledLinesOf 26 = .ok (.iadd, 1) := by decide +kernel
theorem dX0_filledLinesOf_27 : decode cX0_filledLinesOf 27 = .ok (.istore_n 2, 1) := by decide +kernel
theorem dX0_filledLinesOf_28 : decode cX0_filledLinesOf 28 = .ok (.iinc 3 1, 3) := by decide +kernel
theorem dX0_filledLinesOf_31 : decode cX0_filledLinesOf 31 = .ok (.goto (-27), 3) := by decide +kernel
theorem dX0_filledLinesOf_34 : decode cX0_filledLinesOf 34 = .ok (.iload_n 2, 1) := by decide +kernel
theorem dX0_filledLinesOf_35 : decode cX0_filledLinesOf 35 = .ok (.ireturn, 1) := by decide +kernel
theorem dX0_filledLines_0 : decode cX0_filledLines 0 = .ok (.iconst 0, 1) := by decide +kernel
theorem dX0_filledLines_1 : decode cX0_filledLines 1 = .ok (.istore_n 1, 1) := by decide +kernel
theorem dX0_filledLines_2 : decode cX0_filledLines 2 = .ok (.iconst 0, 1) := by decide +kernel
theorem dX0_filledLines_3 : decode cX0_filledLines 3 = .ok (.istore_n 2, 1) := by decide +kernel
theorem dX0_filledLines_4 : decode cX0_filledLines 4 = .ok (.iload_n 2, 1) := by decide +kernel
theorem dX0_filledLines_5 : decode cX0_filledLines 5 = .ok (.aload_n 0, 1) := by decide +kernel
theorem dX0_filledLines_6 : decode cX0_filledLines 6 = .ok (.getfield 28, 3) := by decide +kernel
theorem dX0_filledLines_9 : decode cX0_filledLines 9 = .ok (.if_icmp .ge 17, 3) := by decide +kernel
theorem dX0_filledLines_12 : decode cX0_filledLines 12 = .ok (.iload_n 1, 1) := by decide +kernel
theorem dX0_filledLines_13 : decode cX0_filledLines 13 = .ok (.aload_n 0, 1) := by decide +kernel
theorem dX0_filledLines_14 : decode cX0_filledLines 14 = .ok (.iload_n 2, 1) := by decide +kernel
theorem dX0_filledLines_15 : decode cX0_filledLines 15 = .ok (.invokevirtual 109, 3) := by decide +kernel
theorem dX0_filledLines_18 : decode cX0_filledLines 18 = .ok (.iadd, 1) := by decide +kernel
theorem dX0_filledLines_19 : decode cX0_filledLines 19 = .ok (.istore_n 1, 1) := by decide +kernel
theorem dX0_filledLines_20 : decode cX0_filledLines 20 = .ok (.iinc 2 1, 3) := by decide +kernel
theorem dX0_filledLines_23 : decode cX0_filledLines 23 = .ok (.goto (-19), 3) := by decide +kernel
theorem dX0_filledLines_26 : decode cX0_filledLines 26 = .ok (.iload_n 1, 1) := by decide +kernel
theorem dX0_filledLines_27 : decode cX0_filledLines 27 = .ok (.ireturn, 1) := by decide +kernel
theorem dX0_sumOfLines_0 : decode cX0_sumOfLines 0 = .ok (.iconst 0, 1) := by decide +kernel
theorem dX0_sumOfLines_1 : decode cX0_sumOfLines 1 = .ok (.istore_n 1, 1) := by decide +kernel
theorem dX0_sumOfLines_2 : decode cX0_sumOfLines 2 = .ok (.iconst 0, 1) := by decide +kernel
theorem dX0_sumOfLines_3 : decode cX0_sumOfLines 3 = .ok (.istore_n 2, 1) := by decide +kernel
theorem dX0_sumOfLines_4 : decode cX0_sumOfLines 4 = .ok (.iload_n 2, 1) := by decide +kernel
theorem dX0_sumOfLines_5 : decode cX0_sumOfLines 5 = .ok (.aload_n 0, 1) := by decide +kernel
theorem dX0_sumOfLines_6 : decode cX0_sumOfLines 6 = .ok (.getfield 28, 3) := by decide +kernel
theorem dX0_sumOfLines_9 : decode cX0_sumOfLines 9 = .ok (.if_icmp .ge 46, 3) := by decide +kernel
theorem dX0_sumOfLines_12 : decode cX0_sumOfLines 12 = .ok (.iconst 0, 1) := by decide +kernel
theorem dX0_sumOfLines_13 : decode cX0_sumOfLines 13 = .ok (.istore_n 3, 1) := by decide +kernel
theorem dX0_sumOfLines_14 : decode cX0_sumOfLines 14 = .ok (.iload_n 3, 1) := by decide +kernel
theorem dX0_sumOfLines_15 : decode cX0_sumOfLines 15 = .ok (.iconst 5, 1) := by decide +kernel
theorem dX0_sumOfLines_16 : decode cX0_sumOfLines 16 = .ok (.if_icmp .ge 33, 3) := by decide +kernel
theorem dX0_sumOfLines_19 : decode cX0_sumOfLines 19 = .ok (.aload_n 0, 1) := by decide +kernel
theorem dX0_sumOfLines_20 : decode cX0_sumOfLines 20 = .ok (.iload_n 2, 1) := by decide +kernel
theorem dX0_sumOfLines_21 : decode cX0_sumOfLines 21 = .ok (.iload_n 3, 1) := by decide +kernel
theorem dX0_sumOfLines_22 : decode cX0_sumOfLines 22 = .ok (.invokevirtual 97, 3) := by decide +kernel
theorem dX0_sumOfLines_25 : decode cX0_sumOfLines 25 = .ok (.istore 4, 2) := by decide +kernel
theorem dX0_sumOfLines_27 : decode cX0_sumOfLines 27 = .ok (.iload_n 1, 1) := by decide +kernel
theorem dX0_sumOfLines_28 : decode cX0_sumOfLines 28 = .ok (.iload 4, 2) := by decide +kernel
theorem dX0_sumOfLines_30 : decode cX0_sumOfLines 30 = .ok (.bipush 100, 2) := by decide +kernel
theorem dX0_sumOfLines_32 : decode cX0_sumOfLines 32 = .ok (.if_icmp .ne 7, 3) := by decide +kernel
theorem dX0_sumOfLines_35 : decode cX0_sumOfLines 35 = .ok (.iconst 0, 1) := by decide +kernel
theorem dX0_sumOfLines_36 : decode cX0_sumOfLines 36 = .ok (.goto 5, 3) := by decide +kernel
theorem dX0_sumOfLines_39 : decode cX0_sumOfLines 39 = .ok (.iload 4, 2) := by decide +kernel
theorem dX0_sumOfLines_41 : decode cX0_sumOfLines 41 = .ok (.iadd, 1) := by decide +kernel
theorem dX0_sumOfLines_42 : decode cX0_sumOfLines 42 = .ok (.istore_n 1, 1) := by decide +kernel
theorem dX0_sumOfLines_43 : decode cX0_sumOfLines 43 = .ok (.iinc 3 1, 3) := by decide +kernel
theorem dX0_sumOfLines_46 : decode cX0_sumOfLines 46 = .ok (.goto (-32), 3) := by decide +kernel
theorem dX0_sumOfLines_49 : decode cX0_sumOfLines 49 = .ok (.iinc 2 1, 3) := by decide +kernel
theorem dX0_sumOfLines_52 : decode cX0_sumOfLines 52 = .ok (.goto (-48), 3) := by decide +kernel
theorem dX0_sumOfLines_55 : decode cX0_sumOfLines 55 = .ok (.iload_n 1, 1) := by decide +kernel
theorem dX0_sumOfLines_56 : decode cX0_sumOfLines 56 = .ok (.ireturn, 1) := by decide +kernel
theorem dX1_init_0 : decode cX1_init 0 = .ok (.aload_n 0, 1) := by decide +kernel
theorem dX1_init_1 : decode cX1_init 1 = .ok (.invokespecial 1, 3) := by decide +kernel
theorem dX1_init_4 : decode cX1_init 4 = .ok (.aload_n 0, 1) := by decide +kernel
theorem dX1_init_5 : decode cX1_init 5 = .ok (.iload_n 1, 1) := by decide +kernel
theorem dX1_init_6 : decode cX1_init 6 = .ok (.iconst 0, 1) := by decide +kernel
theorem dX1_init_7 : decode cX1_init 7 = .ok (.invokestatic 7, 3) := by decide +kernel
theorem dX1_init_10 : decode cX1_init 10 = .ok (.anewarray 13, 3) := by decide +kernel
theorem dX1_init_13 : decode cX1_init 13 = .ok (.putfield 15, 3) := by decide +kernel
theorem dX1_init_16 : decode cX1_init 16 = .ok (.iconst 0, 1) := by decide +kernel
theorem dX1_init_17 : decode cX1_init 17 = .ok (.istore_n 2, 1) := by decide +kernel
theorem dX1_init_18 : decode cX1_init 18 = .ok (.iload_n 2, 1) := by decide +kernel
theorem dX1_init_19 : decode cX1_init 19 = .ok (.aload_n 0, 1) := by decide +kernel
theorem dX1_init_20 : decode cX1_init 20 = .ok (.getfield 15, 3) := by decide +kernel
theorem dX1_init_23 : decode cX1_init 23 = .ok (.arraylength, 1) := by decide +kernel
theorem dX1_init_24 : decode cX1_init 24 = .ok (.if_icmp .ge 22, 3) := by decide +kernel
theorem dX1_init_27 : decode cX1_init 27 = .ok (.aload_n 0, 1) := by decide +kernel
theorem dX1_init_28 : decode cX1_init 28 = .ok (.getfield 15, 3) := by decide +kernel
theorem dX1_init_31 : decode cX1_init 31 = .ok (.iload_n 2, 1) := by decide +kernel
theorem dX1_init_32 : decode cX1_init 32 = .ok (.new 13, 3) := by decide +kernel
theorem dX1_init_35 : decode cX1_init 35 = .ok (.dup, 1) := by decide +kernel
theorem dX1_init_36 : decode cX1_init 36 = .ok (.invokespecial 21, 3) := by decide +kernel
theorem dX1_init_39 : decode cX1_init 39 = .ok (.aastore, 1) := by decide +kernel
theorem dX1_init_40 : decode cX1_init 40 = .ok (.iinc 2 1, 3) := by decide +kernel
theorem dX1_init_43 : decode cX1_init 43 = .ok (.goto (-25), 3) := by decide +kernel
theorem dX1_init_46 : decode cX1_init 46 = .ok (.return_, 1) := by decide +kernel
theorem dX1_size_0 : decode cX1_size 0 = .ok (.aload_n 0, 1) := by decide +kernel
theorem dX1_size_1 : decode cX1_size 1 = .ok (.getfield 22, 3) := by decide +kernel
theorem dX1_size_4 : decode cX1_size 4 = .ok (.ireturn, 1) := by decide +kernel
theorem dX1_clear_0 : decode cX1_clear 0 = .ok (.aload_n 0, 1) := by decide +kernel
theorem dX1_clear_1 : decode cX1_clear 1 = .ok (.iconst 0, 1) := by decide +kernel
theorem dX1_clear_2 : decode cX1_clear 2 = .ok (.putfield 22, 3) := by decide +kernel
theorem dX1_clear_5 : decode cX1_clear 5 = .ok (.return_, 1) := by decide +kernel
theorem dX1_push_0 : decode cX1_push 0 = .ok (.aload_n 0, 1) := by decide +kernel
theorem dX1_push_1 : decode cX1_push 1 = .ok (.aload_n 0, 1) := by decide +kernel
theorem dX1_push_2 : decode cX1_push 2 = .ok (.getfield 22, 3) := by decide +kernel
theorem dX1_push_5 : decode cX1_push 5 = .ok (.invokevirtual 26, 3) := by decide +kernel
theorem dX1_push_8 : decode cX1_push 8 = .ok (.astore_n 2, 1) := by decide +kernel
theorem dX1_push_9 : decode cX1_push 9 = .ok (.aload_n 2, 1) := by decide +kernel
theorem dX1_push_10 : decode cX1_push 10 = .ok (.ifnonnull 4, 3) := by decide +kernel
theorem dX1_push_13 : decode cX1_push 13 = .ok (.return_, 1) := by decide +kernel
theorem dX1_push_14 : decode cX1_push 14 = .ok (.aload_n 2, 1) := by decide +kernel
theorem dX1_push_15 : decode cX1_push 15 = .ok (.aload_n 1, 1) := by decide +kernel
theorem dX1_push_16 : decode cX1_push 16 = .ok (.invokevirtual 30, 3) := by decide +kernel
theorem dX1_push_19 : decode cX1_push 19 = .ok (.aload_n 0, 1) := by decide +kernel
theorem dX1_push_20 : decode cX1_push 20 = .ok (.getfield 22, 3) := by decide +kernel
theorem dX1_push_23 : decode cX1_push 23 = .ok (.aload_n 0, 1) := by decide +kernel
theorem dX1_push_24 : decode cX1_push 24 = .ok (.getfield 15, 3) := by decide +kernel
theorem dX1_push_27 : decode cX1_push 27 = .ok (.arraylength, 1) := by decide +kernel
theorem dX1_push_28 : decode cX1_push 28 = .ok (.if_icmp .ge 16, 3) := by decide +kernel
theorem dX1_push_31 : decode cX1_push 31 = .ok (.aload_n 0, 1) := by decide +kernel
theorem dX1_push_32 : decode cX1_push 32 = .ok (.dup, 1) := by decide +kernel
theorem dX1_push_33 : decode cX1_push 33 = .ok (.getfield 22, 3) := by decide +kernel
theorem dX1_push_36 : decode cX1_push 36 = .ok (.iconst 1, 1) := by decide +kernel
theorem dX1_push_37 : decode cX1_push 37 = .ok (.iadd, 1) := by decide +kernel
theorem dX1_push_38 : decode cX1_push 38 = .ok (.putfield 22, 3) := by decide +kernel
theorem dX1_push_41 : decode cX1_push 41 = .ok (.goto 21, 3) := by decide +kernel
theorem dX1_push_44 : decode cX1_push 44 = .ok (.aload_n 0, 1) := by decide +kernel
theorem dX1_push_45 : decode cX1_push 45 = .ok (.aload_n 0, 1) := by decide +kernel
theorem dX1_push_46 : decode cX1_push 46 = .ok (.getfield 34, 3) := by decide +kernel
theorem dX1_push_49 : decode cX1_push 49 = .ok (.iconst 1, 1) := by decide +kernel
theorem dX1_push_50 : decode cX1_push 50 = .ok (.iadd, 1) := by decide +kernel
theorem dX1_push_51 : decode cX1_push 51 = .ok (.aload_n 0, 1) := by decide +kernel
theorem dX1_push_52 : decode cX1_push 52 = .ok (.getfield 15, 3) := by decide +kernel
theorem dX1_push_55 : decode cX1_push 55 = .ok (.arraylength, 1) := by decide +kernel
theorem dX1_push_56 : decode cX1_push 56 = .ok (.invokestatic 37, 3) := by decide +kernel
theorem dX1_push_59 : decode cX1_push 59 = .ok (.putfield 34, 3) := by decide +kernel
theorem dX1_push_62 : decode cX1_push 62 = .ok (.return_, 1) := by decide +kernel
theorem dX1_popInto_0 : decode cX1_popInto 0 = .ok (.aload_n 0, 1) := by decide +kernel
theorem dX1_popInto_1 : decode cX1_popInto 1 = .ok (.getfield 22, 3) := by decide +kernel
theorem dX1_popInto_4 : decode cX1_popInto 4 = .ok (.ifCond .le 16, 3) := by decide +kernel
theorem dX1_popInto_7 : decode cX1_popInto 7 = .ok (.aload_n 0, 1) := by decide +kernel
theorem dX1_popInto_8 : decode cX1_popInto 8 = .ok (.aload_n 0, 1) := by decide +kernel
theorem dX1_popInto_9 : decode cX1_popInto 9 = .ok (.getfield 22, 3) := by decide +kernel
theorem dX1_popInto_12 : decode cX1_popInto 12 = .ok (.iconst 1, 1) := by decide +kernel
theorem dX1_popInto_13 : decode cX1_popInto 13 = .ok (.isub, 1) := by decide +kernel
theorem dX1_popInto_14 : decode cX1_popInto 14 = .ok (.invokevirtual 26, 3) := by decide +kernel
theorem dX1_popInto_17 : decode cX1_popInto 17 = .ok (.goto 4, 3) := by decide +kernel
theorem dX1_popInto_20 : decode cX1_popInto 20 = .ok (.aconst_null, 1) := by decide +kernel
theorem dX1_popInto_21 : decode cX1_popInto 21 = .ok (.astore_n 2, 1) := by decide +kernel
theorem dX1_popInto_22 : decode cX1_popInto 22 = .ok (.aload_n 2, 1) := by decide +kernel
theorem dX1_popInto_23 : decode cX1_popInto 23 = .ok (.ifnonnull 5, 3) := by decide +kernel
theorem dX1_popInto_26 : decode cX1_popInto 26 = .ok (.iconst 0, 1) := by decide +kernel
theorem dX1_popInto_27 : decode cX1_popInto 27 = .ok (.ireturn, 1) := by decide +kernel
theorem dX1_popInto_28 : decode cX1_popInto 28 = .ok (.aload_n 1, 1) := by decide +kernel
theorem dX1_popInto_29 : decode cX1_popInto 29 = .ok (.aload_n 2, 1) := by decide +kernel
theorem dX1_popInto_30 : decode cX1_popInto 30 = .ok (.invokevirtual 30, 3) := by decide +kernel
theorem dX1_popInto_33 : decode cX1_popInto 33 = .ok (.aload_n 0, 1) := by decide +kernel
theorem dX1_popInto_34 : decode cX1_popInto 34 = .ok (.dup, 1) := by decide +kernel
theorem dX1_popInto_35 : decode cX1_popInto 35 = .ok (.getfield 22, 3) := by decide +kernel
theorem dX1_popInto_38 : decode cX1_popInto 38 = .ok (.iconst 1, 1) := by decide +kernel
theorem dX1_popInto_39 : decode cX1_popInto 39 = .ok (.isub, 1) := by decide +kernel
theorem dX1_popInto_40 : decode cX1_popInto 40 = .ok (.putfield 22, 3) := by decide +kernel
theorem dX1_popInto_43 : decode cX1_popInto 43 = .ok (.iconst 1, 1) := by decide +kernel
theorem dX1_popInto_44 : decode cX1_popInto 44 = .ok (.ireturn, 1) := by decide +kernel
theorem dX1_placeAbove_0 : decode cX1_placeAbove 0 = .ok (.aload_n 0, 1) := by decide +kernel
theorem dX1_placeAbove_1 : decode cX1_placeAbove 1 = .ok (.getfield 34, 3) := by decide +kernel
theorem dX1_placeAbove_4 : decode cX1_placeAbove 4 = .ok (.iload_n 1, 1) := by decide +kernel
theorem dX1_placeAbove_5 : decode cX1_placeAbove 5 = .ok (.iadd, 1) := by decide +kernel
theorem dX1_placeAbove_6 : decode cX1_placeAbove 6 = .ok (.aload_n 0, 1) := by decide +kernel
theorem dX1_placeAbove_7 : decode cX1_placeAbove 7 = .ok (.getfield 15, 3) := by decide +kernel
theorem dX1_placeAbove_10 : decode cX1_placeAbove 10 = .ok (.arraylength, 1) := by decide +kernel
theorem dX1_placeAbove_11 : decode cX1_placeAbove 11 = .ok (.invokestatic 37, 3) := by decide +kernel
theorem dX1_placeAbove_14 : decode cX1_placeAbove 14 = .ok (.istore_n 2, 1) := by decide +kernel
theorem dX1_placeAbove_15 : decode cX1_placeAbove 15 = .ok (.iload_n 2, 1) := by decide +kernel
theorem dX1_placeAbove_16 : decode cX1_placeAbove 16 = .ok (.ifCond .lt 21, 3) := by decide +kernel
theorem dX1_placeAbove_19 : decode cX1_placeAbove 19 = .ok (.iload_n 2, 1) := by decide +kernel
theorem dX1_placeAbove_20 : decode cX1_placeAbove 20 = .ok (.aload_n 0, 1) := by decide +kernel
theorem dX1_placeAbove_21 : decode cX1_placeAbove 21 = .ok (.getfield 15, 3) := by decide +kernel
theorem dX1_placeAbove_24 : decode cX1_placeAbove 24 = .ok (.arraylength, 1) := by decide +kernel
theorem dX1_placeAbove_25 : decode cX1_placeAbove 25 = .ok (.if_icmp .ge 12, 3) := by decide +kernel
theorem dX1_placeAbove_28 : decode cX1_placeAbove 28 = .ok (.aload_n 0, 1) := by decide +kernel
theorem dX1_placeAbove_29 : decode cX1_placeAbove 29 = .ok (.getfield 15, 3) := by decide +kernel
theorem dX1_placeAbove_32 : decode cX1_placeAbove 32 = .ok (.iload_n 2, 1) := by decide +kernel
theorem dX1_placeAbove_33 : decode cX1_placeAbove 33 = .ok (.aaload, 1) := by decide +kernel
theorem dX1_placeAbove_34 : decode cX1_placeAbove 34 = .ok (.goto 4, 3) := by decide +kernel
theorem dX1_placeAbove_37 : decode cX1_placeAbove 37 = .ok (.aconst_null, 1) := by decide +kernel
theorem dX1_placeAbove_38 : decode cX1_placeAbove 38 = .ok (.areturn, 1) := by decide +kernel
theorem dX2_init_0 : decode cX2_init 0 = .ok (.aload_n 0, 1) := by decide +kernel
theorem dX2_init_1 : decode cX2_init 1 = .ok (.invokespecial 3, 3) := by decide +kernel
theorem dX2_init_4 : decode cX2_init 4 = .ok (.aload_n 0, 1) := by decide +kernel
theorem dX2_init_5 : decode cX2_init 5 = .ok (.bipush 6, 2) := by decide +kernel
theorem dX2_init_7 : decode cX2_init 7 = .ok (.newarray .int, 2) := by decide +kernel
theorem dX2_init_9 : decode cX2_init 9 = .ok (.putfield 9, 3) := by decide +kernel
theorem dX2_init_12 : decode cX2_init 12 = .ok (.aload_n 0, 1) := by decide +kernel
theorem dX2_init_13 : decode cX2_init 13 = .ok (.bipush 6, 2) := by decide +kernel
theorem dX2_init_15 : decode cX2_init 15 = .ok (.newarray .int, 2) := by decide +kernel
theorem dX2_init_17 : decode cX2_init 17 = .ok (.putfield 15, 3) := by decide +kernel
theorem dX2_init_20 : decode cX2_init 20 = .ok (.return_, 1) := by decide +kernel
theorem dX2_size_0 : decode cX2_size 0 = .ok (.aload_n 0, 1) := by decide +kernel
theorem dX2_size_1 : decode cX2_size 1 = .ok (.getfield 18, 3) := by decide +kernel
theorem dX2_size_4 : decode cX2_size 4 = .ok (.ireturn, 1) := by decide +kernel
theorem dX2_clear_0 : decode cX2_clear 0 = .ok (.aload_n 0, 1) := by decide +kernel
theorem dX2_clear_1 : decode cX2_clear 1 = .ok (.iconst 0, 1) := by decide +kernel
theorem dX2_clear_2 : decode cX2_clear 2 = .ok (.putfield 18, 3) := by decide +kernel
theorem dX2_clear_5 : decode cX2_clear 5 = .ok (.return_, 1) := by decide +kernel
theorem dX2_add_0 : decode cX2_add 0 = .ok (.aload_n 0, 1) := by decide +kernel
theorem dX2_add_1 : decode cX2_add 1 = .ok (.getfield 9, 3) := by decide +kernel
theorem dX2_add_4 : decode cX2_add 4 = .ok (.aload_n 0, 1) := by decide +kernel
theorem dX2_add_5 : decode cX2_add 5 = .ok (.getfield 18, 3) := by decide +kernel
theorem dX2_add_8 : decode cX2_add 8 = .ok (.iload_n 1, 1) := by decide +kernel
theorem dX2_add_9 : decode cX2_add 9 = .ok (.invokestatic 22, 3) := by decide +kernel
theorem dX2_add_12 : decode cX2_add 12 = .ok (.aload_n 0, 1) := by decide +kernel
theorem dX2_add_13 : decode cX2_add 13 = .ok (.getfield 15, 3) := by decide +kernel
theorem dX2_add_16 : decode cX2_add 16 = .ok (.aload_n 0, 1) := by decide +kernel
theorem dX2_add_17 : decode cX2_add 17 = .ok (.getfield 18, 3) := by decide +kernel
theorem dX2_add_20 : decode cX2_add 20 = .ok (.iload_n 2, 1) := by decide +kernel
theorem dX2_add_21 : decode cX2_add 21 = .ok (.invokestatic 22, 3) := by decide +kernel
theorem dX2_add_24 : decode cX2_add 24 = .ok (.aload_n 0, 1) := by decide +kernel
theorem dX2_add_25 : decode cX2_add 25 = .ok (.dup, 1) := by decide +kernel
theorem dX2_add_26 : decode cX2_add 26 = .ok (.getfield 18, 3) := by decide +kernel
theorem dX2_add_29 : decode cX2_add 29 = .ok (.iconst 1, 1) := by decide +kernel
theorem dX2_add_30 : decode cX2_add 30 = .ok (.iadd, 1) := by decide +kernel
theorem dX2_add_31 : decode cX2_add 31 = .ok (.putfield 18, 3) := by decide +kernel
theorem dX2_add_34 : decode cX2_add 34 = .ok (.return_, 1) := by decide +kernel
theorem dX2_areAllWritten_0 : decode cX2_areAllWritten 0 = .ok (.iconst 0, 1) := by decide +kernel
theorem dX2_areAllWritten_1 : decode cX2_areAllWritten 1 = .ok (.istore 5, 2) := by decide +kernel
theorem dX2_areAllWritten_3 : decode cX2_areAllWritten 3 = .ok (.iload 5, 2) := by decide +kernel
theorem dX2_areAllWritten_5 : decode cX2_areAllWritten 5 = .ok (.aload_n 0, 1) := by decide +kernel
theorem dX2_areAllWritten_6 : decode cX2_areAllWritten 6 = .ok (.getfield 18, 3) := by decide +kernel
theorem dX2_areAllWritten_9 : decode cX2_areAllWritten 9 = .ok (.if_icmp .ge 40, 3) := by decide +kernel
theorem dX2_areAllWritten_12 : decode cX2_areAllWritten 12 = .ok (.aload_n 1, 1) := by decide +kernel
theorem dX2_areAllWritten_13 : decode cX2_areAllWritten 13 = .ok (.iload_n 2, 1) := by decide +kernel
theorem dX2_areAllWritten_14 : decode cX2_areAllWritten 14 = .ok (.iload_n 3, 1) := by decide +kernel
theorem dX2_areAllWritten_15 : decode cX2_areAllWritten 15 = .ok (.aload_n 0, 1) := by decide +kernel
theorem dX2_areAllWritten_16 : decode cX2_areAllWritten 16 = .ok (.getfield 9, 3) := by decide +kernel
theorem dX2_areAllWritten_19 : decode cX2_areAllWritten 19 = .ok (.iload 5, 2) := by decide +kernel
theorem dX2_areAllWritten_21 : decode cX2_areAllWritten 21 = .ok (.invokestatic 26, 3) := by decide +kernel
theorem dX2_areAllWritten_24 : decode cX2_areAllWritten 24 = .ok (.iload 4, 2) := by decide +kernel
theorem dX2_areAllWritten_26 : decode cX2_areAllWritten 26 = .ok (.invokevirtual 30, 3) := by decide +kernel
theorem dX2_areAllWritten_29 : decode cX2_areAllWritten 29 = .ok (.aload_n 0, 1) := by decide +kernel
theorem dX2_areAllWritten_30 : decode cX2_areAllWritten 30 = .ok (.getfield 15, 3) := by decide +kernel
theorem dX2_areAllWritten_33 : decode cX2_areAllWritten 33 = .ok (.iload 5, 2) := by decide +kernel
theorem dX2_areAllWritten_35 : decode cX2_areAllWritten 35 = .ok (.invokestatic 26, 3) := by decide +kernel
theorem dX2_areAllWritten_38 : decode cX2_areAllWritten 38 = .ok (.if_icmp .eq 5, 3) := by decide +kernel
theorem dX2_areAllWritten_41 : decode cX2_areAllWritten 41 = .ok (.iconst 0, 1) := by decide +kernel
theorem dX2_areAllWritten_42 : decode cX2_areAllWritten 42 = .ok (.ireturn, 1) := by decide +kernel
theorem dX2_areAllWritten_43 : decode cX2_areAllWritten 43 = .ok (.iinc 5 1, 3) := by decide +kernel
theorem dX2_areAllWritten_46 : decode cX2_areAllWritten 46 = .ok (.goto (-43), 3) := by decide +kernel
theorem dX2_areAllWritten_49 : decode cX2_areAllWritten 49 = .ok (.iconst 1, 1) := by decide +kernel
theorem dX2_areAllWritten_50 : decode cX2_areAllWritten 50 = .ok (.ireturn, 1) := by decide +kernel
theorem dX3_init_0 : decode cX3_init 0 = .ok (.aload_n 0, 1) := by decide +kernel
theorem dX3_init_1 : decode cX3_init 1 = .ok (.invokespecial 3, 3) := by decide +kernel
theorem dX3_init_4 : decode cX3_init 4 = .ok (.aload_n 0, 1) := by decide +kernel
theorem dX3_init_5 : decode cX3_init 5 = .ok (.sipush 200, 3) := by decide +kernel
theorem dX3_init_8 : decode cX3_init 8 = .ok (.newarray .int, 2) := by decide +kernel
theorem dX3_init_10 : decode cX3_init 10 = .ok (.putfield 9, 3) := by decide +kernel
theorem dX3_init_13 : decode cX3_init 13 = .ok (.aload_n 0, 1) := by decide +kernel
theorem dX3_init_14 : decode cX3_init 14 = .ok (.iconst 3, 1) := by decide +kernel
theorem dX3_init_15 : decode cX3_init 15 = .ok (.newarray .int, 2) := by decide +kernel
theorem dX3_init_17 : decode cX3_init 17 = .ok (.putfield 15, 3) := by decide +kernel
theorem dX3_init_20 : decode cX3_init 20 = .ok (.return_, 1) := by decide +kernel
theorem dX3_size_0 : decode cX3_size 0 = .ok (.aload_n 0, 1) := by decide +kernel
theorem dX3_size_1 : decode cX3_size 1 = .ok (.getfield 18, 3) := by decide +kernel
theorem dX3_size_4 : decode cX3_size 4 = .ok (.ireturn, 1) := by decide +kernel
theorem dX3_clear_0 : decode cX3_clear 0 = .ok (.aload_n 0, 1) := by decide +kernel
theorem dX3_clear_1 : decode cX3_clear 1 = .ok (.iconst 0, 1) := by decide +kernel
theorem dX3_clear_2 : decode cX3_clear 2 = .ok (.putfield 18, 3) := by decide +kernel
theorem dX3_clear_5 : decode cX3_clear 5 = .ok (.return_, 1) := by decide +kernel
theorem dX3_append_0 : decode cX3_append 0 = .ok (.aload_n 0, 1) := by decide +kernel
theorem dX3_append_1 : decode cX3_append 1 = .ok (.getfield 18, 3) := by decide +kernel
theorem dX3_append_4 : decode cX3_append 4 = .ok (.sipush 200, 3) := by decide +kernel
theorem dX3_append_7 : decode cX3_append 7 = .ok (.if_icmp .ge 25, 3) := by decide +kernel
theorem dX3_append_10 : decode cX3_append 10 = .ok (.aload_n 0, 1) := by decide +kernel
theorem dX3_append_11 : decode cX3_append 11 = .ok (.getfield 9, 3) := by decide +kernel
theorem dX3_append_14 : decode cX3_append 14 = .ok (.aload_n 0, 1) := by decide +kernel
theorem dX3_append_15 : decode cX3_append 15 = .ok (.getfield 18, 3) := by decide +kernel
theorem dX3_append_18 : decode cX3_append 18 = .ok (.iload_n 1, 1) := by decide +kernel
theorem dX3_append_19 : decode cX3_append 19 = .ok (.invokestatic 22, 3) := by decide +kernel
theorem dX3_append_22 : decode cX3_append 22 = .ok (.aload_n 0, 1) := by decide +kernel
theorem dX3_append_23 : decode cX3_append 23 = .ok (.dup, 1) := by decide +kernel
theorem dX3_append_24 : decode cX3_append 24 = .ok (.getfield 18, 3) := by decide +kernel
theorem dX3_append_27 : decode cX3_append 27 = .ok (.iconst 1, 1) := by decide +kernel
theorem dX3_append_28 : decode cX3_append 28 = .ok (.iadd, 1) := by decide +kernel
theorem dX3_append_29 : decode cX3_append 29 = .ok (.putfield 18, 3) := by decide +kernel
theorem dX3_append_32 : decode cX3_append 32 = .ok (.return_, 1) := by decide +kernel
theorem dX3_readInto_0 : decode cX3_readInto 0 = .ok (.aload_n 1, 1) := by decide +kernel
theorem dX3_readInto_1 : decode cX3_readInto 1 = .ok (.invokevirtual 26, 3) := by decide +kernel
theorem dX3_readInto_4 : decode cX3_readInto 4 = .ok (.iconst 0, 1) := by decide +kernel
theorem dX3_readInto_5 : decode cX3_readInto 5 = .ok (.istore_n 2, 1) := by decide +kernel
theorem dX3_readInto_6 : decode cX3_readInto 6 = .ok (.iconst 0, 1) := by decide +kernel
theorem dX3_readInto_7 : decode cX3_readInto 7 = .ok (.istore_n 3, 1) := by decide +kernel
theorem dX3_readInto_8 : decode cX3_readInto 8 = .ok (.iload_n 3, 1) := by decide +kernel
theorem dX3_readInto_9 : decode cX3_readInto 9 = .ok (.sipush 200, 3) := by decide +kernel
theorem dX3_readInto_12 : decode cX3_readInto 12 = .ok (.if_icmp .ge 51, 3) := by decide +kernel
theorem dX3_readInto_15 : decode cX3_readInto 15 = .ok (.iload_n 2, 1) := by decide +kernel
theorem dX3_readInto_16 : decode cX3_readInto 16 = .ok (.aload_n 0, 1) := by decide +kernel
theorem dX3_readInto_17 : decode cX3_readInto 17 = .ok (.getfield 18, 3) := by decide +kernel
theorem dX3_readInto_20 : decode cX3_readInto 20 = .ok (.if_icmp .ge 43, 3) := by decide +kernel
theorem dX3_readInto_23 : decode cX3_readInto 23 = .ok (.aload_n 0, 1) := by decide +kernel
theorem dX3_readInto_24 : decode cX3_readInto 24 = .ok (.iload_n 2, 1) := by decide +kernel
theorem dX3_readInto_25 : decode cX3_readInto 25 = .ok (.iconst 1, 1) := by decide +kernel
theorem dX3_readInto_26 : decode cX3_readInto 26 = .ok (.iadd, 1) := by decide +kernel
theorem dX3_readInto_27 : decode cX3_readInto 27 = .ok (.invokevirtual 31, 3) := by decide +kernel
theorem dX3_readInto_30 : decode cX3_readInto 30 = .ok (.istore 4, 2) := by decide +kernel
theorem dX3_readInto_32 : decode cX3_readInto 32 = .ok (.iload 4, 2) := by decide +kernel
theorem dX3_readInto_34 : decode cX3_readInto 34 = .ok (.bipush (-4), 2) := by decide +kernel
theorem dX3_readInto_36 : decode cX3_readInto 36 = .ok (.if_icmp .eq 16, 3) := by decide +kernel
theorem dX3_readInto_39 : decode cX3_readInto 39 = .ok (.aload_n 0, 1) := by decide +kernel
theorem dX3_readInto_40 : decode cX3_readInto 40 = .ok (.aload_n 0, 1) := by decide +kernel
theorem dX3_readInto_41 : decode cX3_readInto 41 = .ok (.iload_n 2, 1) := by decide +kernel
theorem dX3_readInto_42 : decode cX3_readInto 42 = .ok (.invokevirtual 35, 3) := by decide +kernel
theorem dX3_readInto_45 : decode cX3_readInto 45 = .ok (.aload_n 1, 1) := by decide +kernel
theorem dX3_readInto_46 : decode cX3_readInto 46 = .ok (.invokevirtual 38, 3) := by decide +kernel
theorem dX3_readInto_49 : decode cX3_readInto 49 = .ok (.ifCond .ne 5, 3) := by decide +kernel
theorem dX3_readInto_52 : decode cX3_readInto 52 = .ok (.iload_n 2, 1) := by decide +kernel
theorem dX3_readInto_53 : decode cX3_readInto 53 = .ok (.ireturn, 1) := by decide +kernel
theorem dX3_readInto_54 : decode cX3_readInto 54 = .ok (.iload 4, 2) := by decide +kernel
theorem dX3_readInto_56 : decode cX3_readInto 56 = .ok (.istore_n 2, 1) := by decide +kernel
theorem dX3_readInto_57 : decode cX3_readInto 57 = .ok (.iinc 3 1, 3) := by decide +kernel
theorem dX3_readInto_60 : decode cX3_readInto 60 = .ok (.goto (-52), 3) := by decide +kernel
theorem dX3_readInto_63 : decode cX3_readInto 63 = .ok (.bipush (-4), 2) := by decide +kernel
theorem dX3_readInto_65 : decode cX3_readInto 65 = .ok (.ireturn, 1) := by decide +kernel
theorem dX3_readNumbers_0 : decode cX3_readNumbers 0 = .ok (.aload_n 0, 1) := by decide +kernel
theorem dX3_readNumbers_1 : decode cX3_readNumbers 1 = .ok (.iconst 0, 1) := by decide +kernel
theorem dX3_readNumbers_2 : decode cX3_readNumbers 2 = .ok (.putfield 42, 3) := by decide +kernel
theorem dX3_readNumbers_5 : decode cX3_readNumbers 5 = .ok (.iload_n 1, 1) := by decide +kernel
theorem dX3_readNumbers_6 : decode cX3_readNumbers 6 = .ok (.istore_n 2, 1) := by decide +kernel
theorem dX3_readNumbers_7 : decode cX3_readNumbers 7 = .ok (.iconst 0, 1) := by decide +kernel
theorem dX3_readNumbers_8 : decode cX3_readNumbers 8 = .ok (.istore_n 3, 1) := by decide +kernel
theorem dX3_readNumbers_9 : decode cX3_readNumbers 9 = .ok (.iload_n 3, 1) := by decide +kernel
theorem dX3_readNumbers_10 : decode cX3_readNumbers 10 = .ok (.iconst 3, 1) := by decide +kernel
theorem dX3_readNumbers_11 : decode cX3_readNumbers 11 = .ok (.if_icmp .ge 84, 3) := by decide +kernel
theorem dX3_readNumbers_14 : decode cX3_readNumbers 14 = .ok (.aload_n 0, 1) := by decide +kernel
theorem dX3_readNumbers_15 : decode cX3_readNumbers 15 = .ok (.iload_n 2, 1) := by decide +kernel
theorem dX3_readNumbers_16 : decode cX3_readNumbers 16 = .ok (.invokevirtual 45, 3) := by decide +kernel
theorem dX3_readNumbers_19 : decode cX3_readNumbers 19 = .ok (.istore 4, 2) := by decide +kernel
theorem dX3_readNumbers_21 : decode cX3_readNumbers 21 = .ok (.iload 4, 2) := by decide +kernel
theorem dX3_readNumbers_23 : decode cX3_readNumbers 23 = .ok (.iconst 1, 1) := by decide +kernel
theorem dX3_readNumbers_24 : decode cX3_readNumbers 24 = .ok (.if_icmp .ge 6, 3) := by decide +kernel
theorem dX3_readNumbers_27 : decode cX3_readNumbers 27 = .ok (.bipush (-4), 2) := by decide +kernel
theorem dX3_readNumbers_29 : decode cX3_readNumbers 29 = .ok (.ireturn, 1) := by decide +kernel
theorem dX3_readNumbers_30 : decode cX3_readNumbers 30 = .ok (.aload_n 0, 1) := by decide +kernel
theorem dX3_readNumbers_31 : decode cX3_readNumbers 31 = .ok (.getfield 15, 3) := by decide +kernel
theorem dX3_readNumbers_34 : decode cX3_readNumbers 34 = .ok (.iload_n 3, 1) := by decide +kernel
theorem dX3_readNumbers_35 : decode cX3_readNumbers 35 = .ok (.aload_n 0, 1) := by decide +kernel
theorem dX3_readNumbers_36 : decode cX3_readNumbers 36 = .ok (.iload_n 2, 1) := by decide +kernel
theorem dX3_readNumbers_37 : decode cX3_readNumbers 37 = .ok (.iload 4, 2) := by decide +kernel
theorem dX3_readNumbers_39 : decode cX3_readNumbers 39 = .ok (.invokevirtual 48, 3) := by decide +kernel
theorem dX3_readNumbers_42 : decode cX3_readNumbers 42 = .ok (.invokestatic 22, 3) := by decide +kernel
theorem dX3_readNumbers_45 : decode cX3_readNumbers 45 = .ok (.aload_n 0, 1) := by decide +kernel
theorem dX3_readNumbers_46 : decode cX3_readNumbers 46 = .ok (.dup, 1) := by decide +kernel
theorem dX3_readNumbers_47 : decode cX3_readNumbers 47 = .ok (.getfield 42, 3) := by decide +kernel
theorem dX3_readNumbers_50 : decode cX3_readNumbers 50 = .ok (.iconst 1, 1) := by decide +kernel
theorem dX3_readNumbers_51 : decode cX3_readNumbers 51 = .ok (.iadd, 1) := by decide +kernel
theorem dX3_readNumbers_52 : decode cX3_readNumbers 52 = .ok (.putfield 42, 3) := by decide +kernel
theorem dX3_readNumbers_55 : decode cX3_readNumbers 55 = .ok (.iload_n 2, 1) := by decide +kernel
theorem dX3_readNumbers_56 : decode cX3_readNumbers 56 = .ok (.iload 4, 2) := by decide +kernel
theorem dX3_readNumbers_58 : decode cX3_readNumbers 58 = .ok (.iadd, 1) := by decide +kernel
theorem dX3_readNumbers_59 : decode cX3_readNumbers 59 = .ok (.istore_n 2, 1) := by decide +kernel
theorem dX3_readNumbers_60 : decode cX3_readNumbers 60 = .ok (.aload_n 0, 1) := by decide +kernel
theorem dX3_readNumbers_61 : decode cX3_readNumbers 61 = .ok (.iload_n 2, 1) := by decide +kernel
theorem dX3_readNumbers_62 : decode cX3_readNumbers 62 = .ok (.invokevirtual 35, 3) := by decide +kernel
theorem dX3_readNumbers_65 : decode cX3_readNumbers 65 = .ok (.istore 5, 2) := by decide +kernel
theorem dX3_readNumbers_67 : decode cX3_readNumbers 67 = .ok (.iinc 2 1, 3) := by decide +kernel
theorem dX3_readNumbers_70 : decode cX3_readNumbers 70 = .ok (.iload 5, 2) := by decide +kernel
theorem dX3_readNumbers_72 : decode cX3_readNumbers 72 = .ok (.bipush 59, 2) := by decide +kernel
theorem dX3_readNumbers_74 : decode cX3_readNumbers 74 = .ok (.if_icmp .ne 5, 3) := by decide +kernel
theorem dX3_readNumbers_77 : decode cX3_readNumbers 77 = .ok (.iload_n 2, 1) := by decide +kernel
theorem dX3_readNumbers_78 : decode cX3_readNumbers 78 = .ok (.ireturn, 1) := by decide +kernel
theorem dX3_readNumbers_79 : decode cX3_readNumbers 79 = .ok (.iload 5, 2) := by decide +kernel
theorem dX3_readNumbers_81 : decode cX3_readNumbers 81 = .ok (.bipush 44, 2) := by decide +kernel
theorem dX3_readNumbers_83 : decode cX3_readNumbers 83 = .ok (.if_icmp .eq 6, 3) := by decide +kernel
theorem dX3_readNumbers_86 : decode cX3_readNumbers 86 = .ok (.bipush (-4), 2) := by decide +kernel
theorem dX3_readNumbers_88 : decode cX3_readNumbers 88 = .ok (.ireturn, 1) := by decide +kernel
theorem dX3_readNumbers_89 : decode cX3_readNumbers 89 = .ok (.iinc 3 1, 3) := by decide +kernel
theorem dX3_readNumbers_92 : decode cX3_readNumbers 92 = .ok (.goto (-83), 3) := by decide +kernel
theorem dX3_readNumbers_95 : decode cX3_readNumbers 95 = .ok (.bipush (-4), 2) := by decide +kernel
theorem dX3_readNumbers_97 : decode cX3_readNumbers 97 = .ok (.ireturn, 1) := by decide +kernel
theorem dX3_tellItem_0 : decode cX3_tellItem 0 = .ok (.iload_n 1, 1) := by decide +kernel
theorem dX3_tellItem_1 : decode cX3_tellItem 1 = .ok (.lookupswitch 146 #[(97, 117), (112, 35), (118, 72)], 35) := by decide +kernel
theorem dX3_tellItem_36 : decode cX3_tellItem 36 = .ok (.aload_n 0, 1) := by decide +kernel
theorem dX3_tellItem_37 : decode cX3_tellItem 37 = .ok (.getfield 42, 3) := by decide +kernel
theorem dX3_tellItem_40 : decode cX3_tellItem 40 = .ok (.iconst 2, 1) := by decide +kernel
theorem dX3_tellItem_41 : decode cX3_tellItem 41 = .ok (.if_icmp .ne 30, 3) := by decide +kernel
theorem dX3_tellItem_44 : decode cX3_tellItem 44 = .ok (.aload_n 2, 1) := by decide +kernel
theorem dX3_tellItem_45 : decode cX3_tellItem 45 = .ok (.aload_n 0, 1) := by decide +kernel
theorem dX3_tellItem_46 : decode cX3_tellItem 46 = .ok (.getfield 15, 3) := by decide +kernel
theorem dX3_tellItem_49 : decode cX3_tellItem 49 = .ok (.iconst 0, 1) := by decide +kernel
theorem dX3_tellItem_50 : decode cX3_tellItem 50 = .ok (.invokestatic 52, 3) := by decide +kernel
theorem dX3_tellItem_53 : decode cX3_tellItem 53 = .ok (.aload_n 0, 1) := by decide +kernel
theorem dX3_tellItem_54 : decode cX3_tellItem 54 = .ok (.getfield 15, 3) := by decide +kernel
theorem dX3_tellItem_57 : decode cX3_tellItem 57 = .ok (.iconst 1, 1) := by decide +kernel
theorem dX3_tellItem_58 : decode cX3_tellItem 58 = .ok (.invokestatic 52, 3) := by decide +kernel
theorem dX3_tellItem_61 : decode cX3_tellItem 61 = .ok (.invokevirtual 56, 3) := by decide +kernel
theorem dX3_tellItem_64 : decode cX3_tellItem 64 = .ok (.ifCond .eq 7, 3) := by decide +kernel
theorem dX3_tellItem_67 : decode cX3_tellItem 67 = .ok (.iconst 1, 1) := by decide +kernel
theorem dX3_tellItem_68 : decode cX3_tellItem 68 = .ok (.goto 4, 3) := by decide +kernel
theorem dX3_tellItem_71 : decode cX3_tellItem 71 = .ok (.iconst 0, 1) := by decide +kernel
theorem dX3_tellItem_72 : decode cX3_tellItem 72 = .ok (.ireturn, 1) := by decide +kernel
theorem dX3_tellItem_73 : decode cX3_tellItem 73 = .ok (.aload_n 0, 1) := by decide +kernel
theorem dX3_tellItem_74 : decode cX3_tellItem 74 = .ok (.getfield 42, 3) := by decide +kernel
theorem dX3_tellItem_77 : decode cX3_tellItem 77 = .ok (.iconst 3, 1) := by decide +kernel
theorem dX3_tellItem_78 : decode cX3_tellItem 78 = .ok (.if_icmp .ne 38, 3) := by decide +kernel
theorem dX3_tellItem_81 : decode cX3_tellItem 81 = .ok (.aload_n 2, 1) := by decide +kernel
theorem dX3_tellItem_82 : decode cX3_tellItem 82 = .ok (.aload_n 0, 1) := by decide +kernel
theorem dX3_tellItem_83 : decode cX3_tellItem 83 = .ok (.getfield 15, 3) := by decide +kernel
theorem dX3_tellItem_86 : decode cX3_tellItem 86 = .ok (.iconst 0, 1) := by decide +kernel
theorem dX3_tellItem_87 : decode cX3_tellItem 87 = .ok (.invokestatic 52, 3) := by decide +kernel
theorem dX3_tellItem_90 : decode cX3_tellItem 90 = .ok (.aload_n 0, 1) := by decide +kernel
theorem dX3_tellItem_91 : decode cX3_tellItem 91 = .ok (.getfield 15, 3) := by decide +kernel
theorem dX3_tellItem_94 : decode cX3_tellItem 94 = .ok (.iconst 1, 1) := by decide +kernel
theorem dX3_tellItem_95 : decode cX3_tellItem 95 = .ok (.invokestatic 52, 3) := by decide +kernel
theorem dX3_tellItem_98 : decode cX3_tellItem 98 = .ok (.aload_n 0, 1) := by decide +kernel
theorem dX3_tellItem_99 : decode cX3_tellItem 99 = .ok (.getfield 15, 3) := by decide +kernel
theorem dX3_tellItem_102 : decode cX3_tellItem 102 = .ok (.iconst 2, 1) := by decide +kernel
theorem dX3_tellItem_103 : decode cX3_tellItem 103 = .ok (.invokestatic 52, 3) := by decide +kernel
theorem dX3_tellItem_106 : decode cX3_tellItem 106 = .ok (.invokevirtual 60, 3) := by decide +kernel
theorem dX3_tellItem_109 : decode cX3_tellItem 109 = .ok (.ifCond .eq 7, 3) := by decide +kernel
theorem dX3_tellItem_112 : decode cX3_tellItem 112 = .ok (.iconst 1, 1) := by decide +kernel
theorem dX3_tellItem_113 : decode cX3_tellItem 113 = .ok (.goto 4, 3) := by decide +kernel
theorem dX3_tellItem_116 : decode cX3_tellItem 116 = .ok (.iconst 0, 1) := by decide +kernel
theorem dX3_tellItem_117 : decode cX3_tellItem 117 = .ok (.ireturn, 1) := by decide +kernel
theorem dX3_tellItem_118 : decode cX3_tellItem 118 = .ok (.aload_n 0, 1) := by decide +kernel
theorem dX3_tellItem_119 : decode cX3_tellItem 119 = .ok (.getfield 42, 3) := by decide +kernel
theorem dX3_tellItem_122 : decode cX3_tellItem 122 = .ok (.iconst 1, 1) := by decide +kernel
theorem dX3_tellItem_123 : decode cX3_tellItem 123 = .ok (.if_icmp .ne 22, 3) := by decide +kernel
theorem dX3_tellItem_126 : decode cX3_tellItem 126 = .ok (.aload_n 2, 1) := by decide +kernel
theorem dX3_tellItem_127 : decode cX3_tellItem 127 = .ok (.aload_n 0, 1) := by decide +kernel
theorem dX3_tellItem_128 : decode cX3_tellItem 128 = .ok (.getfield 15, 3) := by decide +kernel
theorem dX3_tellItem_131 : decode cX3_tellItem 131 = .ok (.iconst 0, 1) := by decide +kernel
theorem dX3_tellItem_132 : decode cX3_tellItem 132 = .ok (.invokestatic 52, 3) := by decide +kernel
theorem dX3_tellItem_135 : decode cX3_tellItem 135 = .ok (.invokevirtual 64, 3) := by decide +kernel
theorem dX3_tellItem_138 : decode cX3_tellItem 138 = .ok (.ifCond .eq 7, 3) := by decide +kernel
theorem dX3_tellItem_141 : decode cX3_tellItem 141 = .ok (.iconst 1, 1) := by decide +kernel
theorem dX3_tellItem_142 : decode cX3_tellItem 142 = .ok (.goto 4, 3) := by decide +kernel
theorem dX3_tellItem_145 : decode cX3_tellItem 145 = .ok (.iconst 0, 1) := by decide +kernel
theorem dX3_tellItem_146 : decode cX3_tellItem 146 = .ok (.ireturn, 1) := by decide +kernel
theorem dX3_tellItem_147 : decode cX3_tellItem 147 = .ok (.iconst 0, 1) := by decide +kernel
theorem dX3_tellItem_148 : decode cX3_tellItem 148 = .ok (.ireturn, 1) := by decide +kernel
theorem dX3_figuresAt_0 : decode cX3_figuresAt 0 = .ok (.iconst 0, 1) := by decide +kernel
theorem dX3_figuresAt_1 : decode cX3_figuresAt 1 = .ok (.istore_n 2, 1) := by decide +kernel
theorem dX3_figuresAt_2 : decode cX3_figuresAt 2 = .ok (.iconst 0, 1) := by decide +kernel
theorem dX3_figuresAt_3 : decode cX3_figuresAt 3 = .ok (.istore_n 3, 1) := by decide +kernel
theorem dX3_figuresAt_4 : decode cX3_figuresAt 4 = .ok (.iload_n 3, 1) := by decide +kernel
theorem dX3_figuresAt_5 : decode cX3_figuresAt 5 = .ok (.iconst 2, 1) := by decide +kernel
theorem dX3_figuresAt_6 : decode cX3_figuresAt 6 = .ok (.if_icmp .ge 25, 3) := by decide +kernel
theorem dX3_figuresAt_9 : decode cX3_figuresAt 9 = .ok (.aload_n 0, 1) := by decide +kernel
theorem dX3_figuresAt_10 : decode cX3_figuresAt 10 = .ok (.iload_n 1, 1) := by decide +kernel
theorem dX3_figuresAt_11 : decode cX3_figuresAt 11 = .ok (.iload_n 3, 1) := by decide +kernel
theorem dX3_figuresAt_12 : decode cX3_figuresAt 12 = .ok (.iadd, 1) := by decide +kernel
theorem dX3_figuresAt_13 : decode cX3_figuresAt 13 = .ok (.invokevirtual 35, 3) := by decide +kernel
theorem dX3_figuresAt_16 : decode cX3_figuresAt 16 = .ok (.invokestatic 68, 3) := by decide +kernel
theorem dX3_figuresAt_19 : decode cX3_figuresAt 19 = .ok (.ifCond .eq 12, 3) := by decide +kernel
theorem dX3_figuresAt_22 : decode cX3_figuresAt 22 = .ok (.iinc 2 1, 3) := by decide +kernel
theorem dX3_figuresAt_25 : decode cX3_figuresAt 25 = .ok (.iinc 3 1, 3) := by decide +kernel
theorem dX3_figuresAt_28 : decode cX3_figuresAt 28 = .ok (.goto (-24), 3) := by decide +kernel
theorem dX3_figuresAt_31 : decode cX3_figuresAt 31 = .ok (.iload_n 2, 1) := by decide +kernel
theorem dX3_figuresAt_32 : decode cX3_figuresAt 32 = .ok (.ireturn, 1) := by decide +kernel
theorem dX3_numberAt_0 : decode cX3_numberAt 0 = .ok (.iconst 0, 1) := by decide +kernel
theorem dX3_numberAt_1 : decode cX3_numberAt 1 = .ok (.istore_n 3, 1) := by decide +kernel
theorem dX3_numberAt_2 : decode cX3_numberAt 2 = .ok (.iconst 0, 1) := by decide +kernel
theorem dX3_numberAt_3 : decode cX3_numberAt 3 = .ok (.istore 4, 2) := by decide +kernel
theorem dX3_numberAt_5 : decode cX3_numberAt 5 = .ok (.iload 4, 2) := by decide +kernel
theorem dX3_numberAt_7 : decode cX3_numberAt 7 = .ok (.iload_n 2, 1) := by decide +kernel
theorem dX3_numberAt_8 : decode cX3_numberAt 8 = .ok (.if_icmp .ge 26, 3) := by decide +kernel
theorem dX3_numberAt_11 : decode cX3_numberAt 11 = .ok (.iload_n 3, 1) := by decide +kernel
theorem dX3_numberAt_12 : decode cX3_numberAt 12 = .ok (.bipush 10, 2) := by decide +kernel
theorem dX3_numberAt_14 : decode cX3_numberAt 14 = .ok (.imul, 1) := by decide +kernel
theorem dX3_numberAt_15 : decode cX3_numberAt 15 = .ok (.aload_n 0, 1) := by decide +kernel
theorem dX3_numberAt_16 : decode cX3_numberAt 16 = .ok (.iload_n 1, 1) := by decide +kernel
theorem dX3_numberAt_17 : decode cX3_numberAt 17 = .ok (.iload 4, 2) := by decide +kernel
theorem dX3_numberAt_19 : decode cX3_numberAt 19 = .ok (.iadd, 1) := by decide +kernel
theorem dX3_numberAt_20 : decode cX3_numberAt 20 = .ok (.invokevirtual 35, 3) := by decide +kernel
theorem dX3_numberAt_23 : decode cX3_numberAt 23 = .ok (.iadd, 1) := by decide +kernel
theorem dX3_numberAt_24 : decode cX3_numberAt 24 = .ok (.bipush 48, 2) := by decide +kernel
theorem dX3_numberAt_26 : decode cX3_numberAt 26 = .ok (.isub, 1) := by decide +kernel
theorem dX3_numberAt_27 : decode cX3_numberAt 27 = .ok (.istore_n 3, 1) := by decide +kernel
theorem dX3_numberAt_28 : decode cX3_numberAt 28 = .ok (.iinc 4 1, 3) := by decide +kernel
theorem dX3_numberAt_31 : decode cX3_numberAt 31 = .ok (.goto (-26), 3) := by decide +kernel
theorem dX3_numberAt_34 : decode cX3_numberAt 34 = .ok (.iload_n 3, 1) := by decide +kernel
theorem dX3_numberAt_35 : decode cX3_numberAt 35 = .ok (.ireturn, 1) := by decide +kernel
theorem dX3_isFigure_0 : decode cX3_isFigure 0 = .ok (.iload_n 0, 1) := by decide +kernel
theorem dX3_isFigure_1 : decode cX3_isFigure 1 = .ok (.bipush 48, 2) := by decide +kernel
theorem dX3_isFigure_3 : decode cX3_isFigure 3 = .ok (.if_icmp .lt 13, 3) := by decide +kernel
theorem dX3_isFigure_6 : decode cX3_isFigure 6 = .ok (.iload_n 0, 1) := by decide +kernel
theorem dX3_isFigure_7 : decode cX3_isFigure 7 = .ok (.bipush 57, 2) := by decide +kernel
theorem dX3_isFigure_9 : decode cX3_isFigure 9 = .ok (.if_icmp .gt 7, 3) := by decide +kernel
theorem dX3_isFigure_12 : decode cX3_isFigure 12 = .ok (.iconst 1, 1) := by decide +kernel
theorem dX3_isFigure_13 : decode cX3_isFigure 13 = .ok (.goto 4, 3) := by decide +kernel
theorem dX3_isFigure_16 : decode cX3_isFigure 16 = .ok (.iconst 0, 1) := by decide +kernel
theorem dX3_isFigure_17 : decode cX3_isFigure 17 = .ok (.ireturn, 1) := by decide +kernel
theorem dX3_letterAt_0 : decode cX3_letterAt 0 = .ok (.iload_n 1, 1) := by decide +kernel
theorem dX3_letterAt_1 : decode cX3_letterAt 1 = .ok (.aload_n 0, 1) := by decide +kernel
theorem dX3_letterAt_2 : decode cX3_letterAt 2 = .ok (.getfield 18, 3) := by decide +kernel
theorem dX3_letterAt_5 : decode cX3_letterAt 5 = .ok (.if_icmp .ge 14, 3) := by decide +kernel
theorem dX3_letterAt_8 : decode cX3_letterAt 8 = .ok (.aload_n 0, 1) := by decide +kernel
theorem dX3_letterAt_9 : decode cX3_letterAt 9 = .ok (.getfield 9, 3) := by decide +kernel
theorem dX3_letterAt_12 : decode cX3_letterAt 12 = .ok (.iload_n 1, 1) := by decide +kernel
theorem dX3_letterAt_13 : decode cX3_letterAt 13 = .ok (.invokestatic 52, 3) := by decide +kernel
theorem dX3_letterAt_16 : decode cX3_letterAt 16 = .ok (.goto 5, 3) := by decide +kernel
theorem dX3_letterAt_19 : decode cX3_letterAt 19 = .ok (.bipush (-4), 2) := by decide +kernel
theorem dX3_letterAt_21 : decode cX3_letterAt 21 = .ok (.ireturn, 1) := by decide +kernel
theorem dX4_init_0 : decode cX4_init 0 = .ok (.aload_n 0, 1) := by decide +kernel
theorem dX4_init_1 : decode cX4_init 1 = .ok (.invokespecial 1, 3) := by decide +kernel
theorem dX4_init_4 : decode cX4_init 4 = .ok (.aload_n 0, 1) := by decide +kernel
theorem dX4_init_5 : decode cX4_init 5 = .ok (.new 7, 3) := by decide +kernel
theorem dX4_init_8 : decode cX4_init 8 = .ok (.dup, 1) := by decide +kernel
theorem dX4_init_9 : decode cX4_init 9 = .ok (.invokespecial 9, 3) := by decide +kernel
theorem dX4_init_12 : decode cX4_init 12 = .ok (.putfield 10, 3) := by decide +kernel
theorem dX4_init_15 : decode cX4_init 15 = .ok (.aload_n 0, 1) := by decide +kernel
theorem dX4_init_16 : decode cX4_init 16 = .ok (.new 16, 3) := by decide +kernel
theorem dX4_init_19 : decode cX4_init 19 = .ok (.dup, 1) := by decide +kernel
theorem dX4_init_20 : decode cX4_init 20 = .ok (.invokespecial 18, 3) := by decide +kernel
theorem dX4_init_23 : decode cX4_init 23 = .ok (.putfield 19, 3) := by decide +kernel
theorem dX4_init_26 : decode cX4_init 26 = .ok (.aload_n 0, 1) := by decide +kernel
theorem dX4_init_27 : decode cX4_init 27 = .ok (.new 16, 3) := by decide +kernel
theorem dX4_init_30 : decode cX4_init 30 = .ok (.dup, 1) := by decide +kernel
theorem dX4_init_31 : decode cX4_init 31 = .ok (.invokespecial 18, 3) := by decide +kernel
theorem dX4_init_34 : decode cX4_init 34 = .ok (.putfield 23, 3) := by decide +kernel
theorem dX4_init_37 : decode cX4_init 37 = .ok (.aload_n 0, 1) := by decide +kernel
theorem dX4_init_38 : decode cX4_init 38 = .ok (.new 26, 3) := by decide +kernel
theorem dX4_init_41 : decode cX4_init 41 = .ok (.dup, 1) := by decide +kernel
theorem dX4_init_42 : decode cX4_init 42 = .ok (.bipush 8, 2) := by decide +kernel
theorem dX4_init_44 : decode cX4_init 44 = .ok (.invokespecial 28, 3) := by decide +kernel
theorem dX4_init_47 : decode cX4_init 47 = .ok (.putfield 31, 3) := by decide +kernel
theorem dX4_init_50 : decode cX4_init 50 = .ok (.aload_n 0, 1) := by decide +kernel
theorem dX4_init_51 : decode cX4_init 51 = .ok (.new 26, 3) := by decide +kernel
theorem dX4_init_54 : decode cX4_init 54 = .ok (.dup, 1) := by decide +kernel
theorem dX4_init_55 : decode cX4_init 55 = .ok (.iconst 2, 1) := by decide +kernel
theorem dX4_init_56 : decode cX4_init 56 = .ok (.invokespecial 28, 3) := by decide +kernel
theorem dX4_init_59 : decode cX4_init 59 = .ok (.putfield 35, 3) := by decide +kernel
theorem dX4_init_62 : decode cX4_init 62 = .ok (.aload_n 0, 1) := by decide +kernel
theorem dX4_init_63 : decode cX4_init 63 = .ok (.new 38, 3) := by decide +kernel
theorem dX4_init_66 : decode cX4_init 66 = .ok (.dup, 1) := by decide +kernel
theorem dX4_init_67 : decode cX4_init 67 = .ok (.invokespecial 40, 3) := by decide +kernel
theorem dX4_init_70 : decode cX4_init 70 = .ok (.putfield 41, 3) := by decide +kernel
theorem dX4_init_73 : decode cX4_init 73 = .ok (.aload_n 0, 1) := by decide +kernel
theorem dX4_init_74 : decode cX4_init 74 = .ok (.bipush 41, 2) := by decide +kernel
theorem dX4_init_76 : decode cX4_init 76 = .ok (.newarray .int, 2) := by decide +kernel
theorem dX4_init_78 : decode cX4_init 78 = .ok (.putfield 45, 3) := by decide +kernel
theorem dX4_init_81 : decode cX4_init 81 = .ok (.iconst 0, 1) := by decide +kernel
theorem dX4_init_82 : decode cX4_init 82 = .ok (.istore_n 1, 1) := by decide +kernel
theorem dX4_init_83 : decode cX4_init 83 = .ok (.iload_n 1, 1) := by decide +kernel
theorem dX4_init_84 : decode cX4_init 84 = .ok (.ldc 49, 2) := by decide +kernel
theorem dX4_init_86 : decode cX4_init 86 = .ok (.invokevirtual 51, 3) := by decide +kernel
theorem dX4_init_89 : decode cX4_init 89 = .ok (.if_icmp .ge 22, 3) := by decide +kernel
theorem dX4_init_92 : decode cX4_init 92 = .ok (.aload_n 0, 1) := by decide +kernel
theorem dX4_init_93 : decode cX4_init 93 = .ok (.getfield 10, 3) := by decide +kernel
theorem dX4_init_96 : decode cX4_init 96 = .ok (.ldc 49, 2) := by decide +kernel
theorem dX4_init_98 : decode cX4_init 98 = .ok (.iload_n 1, 1) := by decide +kernel
theorem dX4_init_99 : decode cX4_init 99 = .ok (.invokevirtual 57, 3) := by decide +kernel
theorem dX4_init_102 : decode cX4_init 102 = .ok (.invokevirtual 61, 3) := by decide +kernel
theorem dX4_init_105 : decode cX4_init 105 = .ok (.iinc 1 1, 3) := by decide +kernel
theorem dX4_init_108 : decode cX4_init 108 = .ok (.goto (-25), 3) := by decide +kernel
theorem dX4_init_111 : decode cX4_init 111 = .ok (.aload_n 0, 1) := by decide +kernel
theorem dX4_init_112 : decode cX4_init 112 = .ok (.getfield 10, 3) := by decide +kernel
theorem dX4_init_115 : decode cX4_init 115 = .ok (.aload_n 0, 1) := by decide +kernel
theorem dX4_init_116 : decode cX4_init 116 = .ok (.getfield 19, 3) := by decide +kernel
theorem dX4_init_119 : decode cX4_init 119 = .ok (.invokevirtual 64, 3) := by decide +kernel
theorem dX4_init_122 : decode cX4_init 122 = .ok (.pop, 1) := by decide +kernel
theorem dX4_init_123 : decode cX4_init 123 = .ok (.aload_n 0, 1) := by decide +kernel
theorem dX4_init_124 : decode cX4_init 124 = .ok (.getfield 10, 3) := by decide +kernel
theorem dX4_init_127 : decode cX4_init 127 = .ok (.invokevirtual 68, 3) := by decide +kernel
theorem dX4_init_130 : decode cX4_init 130 = .ok (.return_, 1) := by decide +kernel
theorem dX4_write_0 : decode cX4_write 0 = .ok (.iload_n 1, 1) := by decide +kernel
theorem dX4_write_1 : decode cX4_write 1 = .ok (.bipush 32, 2) := by decide +kernel
theorem dX4_write_3 : decode cX4_write 3 = .ok (.if_icmp .lt 9, 3) := by decide +kernel
theorem dX4_write_6 : decode cX4_write 6 = .ok (.iload_n 1, 1) := by decide +kernel
theorem dX4_write_7 : decode cX4_write 7 = .ok (.bipush 126, 2) := by decide +kernel
theorem dX4_write_9 : decode cX4_write 9 = .ok (.if_icmp .le 5, 3) := by decide +kernel
theorem dX4_write_12 : decode cX4_write 12 = .ok (.iconst (-1), 1) := by decide +kernel
theorem dX4_write_13 : decode cX4_write 13 = .ok (.ireturn, 1) := by decide +kernel
theorem dX4_write_14 : decode cX4_write 14 = .ok (.aload_n 0, 1) := by decide +kernel
theorem dX4_write_15 : decode cX4_write 15 = .ok (.getfield 10, 3) := by decide +kernel
theorem dX4_write_18 : decode cX4_write 18 = .ok (.invokevirtual 71, 3) := by decide +kernel
theorem dX4_write_21 : decode cX4_write 21 = .ok (.sipush 200, 3) := by decide +kernel
theorem dX4_write_24 : decode cX4_write 24 = .ok (.if_icmp .lt 6, 3) := by decide +kernel
theorem dX4_write_27 : decode cX4_write 27 = .ok (.bipush (-3), 2) := by decide +kernel
theorem dX4_write_29 : decode cX4_write 29 = .ok (.ireturn, 1) := by decide +kernel
theorem dX4_write_30 : decode cX4_write 30 = .ok (.aload_n 0, 1) := by decide +kernel
theorem dX4_write_31 : decode cX4_write 31 = .ok (.getfield 10, 3) := by decide +kernel
theorem dX4_write_34 : decode cX4_write 34 = .ok (.iload_n 1, 1) := by decide +kernel
theorem dX4_write_35 : decode cX4_write 35 = .ok (.invokevirtual 61, 3) := by decide +kernel
theorem dX4_write_38 : decode cX4_write 38 = .ok (.aload_n 0, 1) := by decide +kernel
theorem dX4_write_39 : decode cX4_write 39 = .ok (.getfield 10, 3) := by decide +kernel
theorem dX4_write_42 : decode cX4_write 42 = .ok (.invokevirtual 71, 3) := by decide +kernel
theorem dX4_write_45 : decode cX4_write 45 = .ok (.ireturn, 1) := by decide +kernel
theorem dX4_wipe_0 : decode cX4_wipe 0 = .ok (.aload_n 0, 1) := by decide +kernel
theorem dX4_wipe_1 : decode cX4_wipe 1 = .ok (.getfield 10, 3) := by decide +kernel
theorem dX4_wipe_4 : decode cX4_wipe 4 = .ok (.invokevirtual 71, 3) := by decide +kernel
theorem dX4_wipe_7 : decode cX4_wipe 7 = .ok (.istore_n 1, 1) := by decide +kernel
theorem dX4_wipe_8 : decode cX4_wipe 8 = .ok (.aload_n 0, 1) := by decide +kernel
theorem dX4_wipe_9 : decode cX4_wipe 9 = .ok (.getfield 10, 3) := by decide +kernel
theorem dX4_wipe_12 : decode cX4_wipe 12 = .ok (.invokevirtual 68, 3) := by decide +kernel
theorem dX4_wipe_15 : decode cX4_wipe 15 = .ok (.iload_n 1, 1) := by decide +kernel
theorem dX4_wipe_16 : decode cX4_wipe 16 = .ok (.ireturn, 1) := by decide +kernel
theorem dX4_fault_0 : decode cX4_fault 0 = .ok (.aload_n 0, 1) := by decide +kernel
theorem dX4_fault_1 : decode cX4_fault 1 = .ok (.getfield 10, 3) := by decide +kernel
theorem dX4_fault_4 : decode cX4_fault 4 = .ok (.aload_n 0, 1) := by decide +kernel
theorem dX4_fault_5 : decode cX4_fault 5 = .ok (.getfield 23, 3) := by decide +kernel
theorem dX4_fault_8 : decode cX4_fault 8 = .ok (.invokevirtual 64, 3) := by decide +kernel
theorem dX4_fault_11 : decode cX4_fault 11 = .ok (.ireturn, 1) := by decide +kernel
theorem dX4_lay_0 : decode cX4_lay 0 = .ok (.aload_n 0, 1) := by decide +kernel
theorem dX4_lay_1 : decode cX4_lay 1 = .ok (.getfield 10, 3) := by decide +kernel
theorem dX4_lay_4 : decode cX4_lay 4 = .ok (.aload_n 0, 1) := by decide +kernel
theorem dX4_lay_5 : decode cX4_lay 5 = .ok (.getfield 23, 3) := by decide +kernel
theorem dX4_lay_8 : decode cX4_lay 8 = .ok (.invokevirtual 64, 3) := by decide +kernel
theorem dX4_lay_11 : decode cX4_lay 11 = .ok (.bipush (-4), 2) := by decide +kernel
theorem dX4_lay_13 : decode cX4_lay 13 = .ok (.if_icmp .ne 13, 3) := by decide +kernel
theorem dX4_lay_16 : decode cX4_lay 16 = .ok (.aload_n 0, 1) := by decide +kernel
theorem dX4_lay_17 : decode cX4_lay 17 = .ok (.getfield 23, 3) := by decide +kernel
theorem dX4_lay_20 : decode cX4_lay 20 = .ok (.invokevirtual 74, 3) := by decide +kernel
theorem dX4_lay_23 : decode cX4_lay 23 = .ok (.ifCond .ne 6, 3) := by decide +kernel
theorem dX4_lay_26 : decode cX4_lay 26 = .ok (.bipush (-2), 2) := by decide +kernel
theorem dX4_lay_28 : decode cX4_lay 28 = .ok (.ireturn, 1) := by decide +kernel
theorem dX4_lay_29 : decode cX4_lay 29 = .ok (.aload_n 0, 1) := by decide +kernel
theorem dX4_lay_30 : decode cX4_lay 30 = .ok (.getfield 19, 3) := by decide +kernel
theorem dX4_lay_33 : decode cX4_lay 33 = .ok (.aload_n 0, 1) := by decide +kernel
theorem dX4_lay_34 : decode cX4_lay 34 = .ok (.getfield 23, 3) := by decide +kernel
theorem dX4_lay_37 : decode cX4_lay 37 = .ok (.invokevirtual 78, 3) := by decide +kernel
theorem dX4_lay_40 : decode cX4_lay 40 = .ok (.aload_n 0, 1) := by decide +kernel
theorem dX4_lay_41 : decode cX4_lay 41 = .ok (.getfield 41, 3) := by decide +kernel
theorem dX4_lay_44 : decode cX4_lay 44 = .ok (.invokevirtual 82, 3) := by decide +kernel
theorem dX4_lay_47 : decode cX4_lay 47 = .ok (.aload_n 0, 1) := by decide +kernel
theorem dX4_lay_48 : decode cX4_lay 48 = .ok (.getfield 31, 3) := by decide +kernel
theorem dX4_lay_51 : decode cX4_lay 51 = .ok (.invokevirtual 83, 3) := by decide +kernel
theorem dX4_lay_54 : decode cX4_lay 54 = .ok (.aload_n 0, 1) := by decide +kernel
theorem dX4_lay_55 : decode cX4_lay 55 = .ok (.getfield 35, 3) := by decide +kernel
theorem dX4_lay_58 : decode cX4_lay 58 = .ok (.invokevirtual 83, 3) := by decide +kernel
theorem dX4_lay_61 : decode cX4_lay 61 = .ok (.aload_n 0, 1) := by decide +kernel
theorem dX4_lay_62 : decode cX4_lay 62 = .ok (.getfield 19, 3) := by decide +kernel
theorem dX4_lay_65 : decode cX4_lay 65 = .ok (.invokevirtual 84, 3) := by decide +kernel
theorem dX4_lay_68 : decode cX4_lay 68 = .ok (.ireturn, 1) := by decide +kernel
theorem dX4_person_0 : decode cX4_person 0 = .ok (.aload_n 0, 1) := by decide +kernel
theorem dX4_person_1 : decode cX4_person 1 = .ok (.getfield 19, 3) := by decide +kernel
theorem dX4_person_4 : decode cX4_person 4 = .ok (.iload_n 1, 1) := by decide +kernel
theorem dX4_person_5 : decode cX4_person 5 = .ok (.invokevirtual 87, 3) := by decide +kernel
theorem dX4_person_8 : decode cX4_person 8 = .ok (.ifCond .eq 11, 3) := by decide +kernel
theorem dX4_person_11 : decode cX4_person 11 = .ok (.iload_n 2, 1) := by decide +kernel
theorem dX4_person_12 : decode cX4_person 12 = .ok (.iconst 1, 1) := by decide +kernel
theorem dX4_person_13 : decode cX4_person 13 = .ok (.invokestatic 91, 3) := by decide +kernel
theorem dX4_person_16 : decode cX4_person 16 = .ok (.ifCond .ne 5, 3) := by decide +kernel
theorem dX4_person_19 : decode cX4_person 19 = .ok (.iconst (-1), 1) := by decide +kernel
theorem dX4_person_20 : decode cX4_person 20 = .ok (.ireturn, 1) := by decide +kernel
theorem dX4_person_21 : decode cX4_person 21 = .ok (.iload_n 2, 1) := by decide +kernel
theorem dX4_person_22 : decode cX4_person 22 = .ok (.ifCond .ne 14, 3) := by decide +kernel
theorem dX4_person_25 : decode cX4_person 25 = .ok (.aload_n 0, 1) := by decide +kernel
theorem dX4_person_26 : decode cX4_person 26 = .ok (.getfield 19, 3) := by decide +kernel
theorem dX4_person_29 : decode cX4_person 29 = .ok (.iload_n 1, 1) := by decide +kernel
theorem dX4_person_30 : decode cX4_person 30 = .ok (.invokevirtual 95, 3) := by decide +kernel
theorem dX4_person_33 : decode cX4_person 33 = .ok (.goto 11, 3) := by decide +kernel
theorem dX4_person_36 : decode cX4_person 36 = .ok (.aload_n 0, 1) := by decide +kernel
theorem dX4_person_37 : decode cX4_person 37 = .ok (.getfield 19, 3) := by decide +kernel
theorem dX4_person_40 : decode cX4_person 40 = .ok (.iload_n 1, 1) := by decide +kernel
theorem dX4_person_41 : decode cX4_person 41 = .ok (.invokevirtual 99, 3) := by decide +kernel
theorem dX4_person_44 : decode cX4_person 44 = .ok (.ireturn, 1) := by decide +kernel
theorem dX4_view_0 : decode cX4_view 0 = .ok (.aload_n 0, 1) := by decide +kernel
theorem dX4_view_1 : decode cX4_view 1 = .ok (.getfield 19, 3) := by decide +kernel
theorem dX4_view_4 : decode cX4_view 4 = .ok (.iload_n 1, 1) := by decide +kernel
theorem dX4_view_5 : decode cX4_view 5 = .ok (.invokevirtual 87, 3) := by decide +kernel
theorem dX4_view_8 : decode cX4_view 8 = .ok (.ifCond .eq 10, 3) := by decide +kernel
theorem dX4_view_11 : decode cX4_view 11 = .ok (.iload_n 2, 1) := by decide +kernel
theorem dX4_view_12 : decode cX4_view 12 = .ok (.invokestatic 102, 3) := by decide +kernel
theorem dX4_view_15 : decode cX4_view 15 = .ok (.ifCond .ne 5, 3) := by decide +kernel
theorem dX4_view_18 : decode cX4_view 18 = .ok (.iconst (-1), 1) := by decide +kernel
theorem dX4_view_19 : decode cX4_view 19 = .ok (.ireturn, 1) := by decide +kernel
theorem dX4_view_20 : decode cX4_view 20 = .ok (.aload_n 0, 1) := by decide +kernel
theorem dX4_view_21 : decode cX4_view 21 = .ok (.getfield 19, 3) := by decide +kernel
theorem dX4_view_24 : decode cX4_view 24 = .ok (.iload_n 1, 1) := by decide +kernel
theorem dX4_view_25 : decode cX4_view 25 = .ok (.iload_n 2, 1) := by decide +kernel
theorem dX4_view_26 : decode cX4_view 26 = .ok (.invokevirtual 105, 3) := by decide +kernel
theorem dX4_view_29 : decode cX4_view 29 = .ok (.bipush 9, 2) := by decide +kernel
theorem dX4_view_31 : decode cX4_view 31 = .ok (.iadd, 1) := by decide +kernel
theorem dX4_view_32 : decode cX4_view 32 = .ok (.ireturn, 1) := by decide +kernel
theorem dX4_line_0 : decode cX4_line 0 = .ok (.aload_n 0, 1) := by decide +kernel
theorem dX4_line_1 : decode cX4_line 1 = .ok (.getfield 19, 3) := by decide +kernel
theorem dX4_line_4 : decode cX4_line 4 = .ok (.iload_n 1, 1) := by decide +kernel
theorem dX4_line_5 : decode cX4_line 5 = .ok (.invokevirtual 109, 3) := by decide +kernel
theorem dX4_line_8 : decode cX4_line 8 = .ok (.ifCond .eq 10, 3) := by decide +kernel
theorem dX4_line_11 : decode cX4_line 11 = .ok (.iload_n 2, 1) := by decide +kernel
theorem dX4_line_12 : decode cX4_line 12 = .ok (.invokestatic 102, 3) := by decide +kernel
theorem dX4_line_15 : decode cX4_line 15 = .ok (.ifCond .ne 5, 3) := by decide +kernel
theorem dX4_line_18 : decode cX4_line 18 = .ok (.iconst (-1), 1) := by decide +kernel
theorem dX4_line_19 : decode cX4_line 19 = .ok (.ireturn, 1) := by decide +kernel
theorem dX4_line_20 : decode cX4_line 20 = .ok (.aload_n 0, 1) := by decide +kernel
theorem dX4_line_21 : decode cX4_line 21 = .ok (.getfield 19, 3) := by decide +kernel
theorem dX4_line_24 : decode cX4_line 24 = .ok (.iload_n 1, 1) := by decide +kernel
theorem dX4_line_25 : decode cX4_line 25 = .ok (.iload_n 2, 1) := by decide +kernel
theorem dX4_line_26 : decode cX4_line 26 = .ok (.invokevirtual 112, 3) := by decide +kernel
theorem dX4_line_29 : decode cX4_line 29 = .ok (.invokestatic 115, 3) := by decide +kernel
theorem dX4_line_32 : decode cX4_line 32 = .ok (.ireturn, 1) := by decide +kernel
theorem dX4_would_0 : decode cX4_would 0 = .ok (.aload_n 0, 1) := by decide +kernel
theorem dX4_would_1 : decode cX4_would 1 = .ok (.getfield 19, 3) := by decide +kernel
theorem dX4_would_4 : decode cX4_would 4 = .ok (.iload_n 1, 1) := by decide +kernel
theorem dX4_would_5 : decode cX4_would 5 = .ok (.invokevirtual 87, 3) := by decide +kernel
theorem dX4_would_8 : decode cX4_would 8 = .ok (.ifCond .eq 19, 3) := by decide +kernel
theorem dX4_would_11 : decode cX4_would 11 = .ok (.iload_n 2, 1) := by decide +kernel
theorem dX4_would_12 : decode cX4_would 12 = .ok (.invokestatic 102, 3) := by decide +kernel
theorem dX4_would_15 : decode cX4_would 15 = .ok (.ifCond .eq 12, 3) := by decide +kernel
theorem dX4_would_18 : decode cX4_would 18 = .ok (.iload_n 3, 1) := by decide +kernel
theorem dX4_would_19 : decode cX4_would 19 = .ok (.bipush 10, 2) := by decide +kernel
theorem dX4_would_21 : decode cX4_would 21 = .ok (.invokestatic 91, 3) := by decide +kernel
theorem dX4_would_24 : decode cX4_would 24 = .ok (.ifCond .ne 5, 3) := by decide +kernel
theorem dX4_would_27 : decode cX4_would 27 = .ok (.iconst (-1), 1) := by decide +kernel
theorem dX4_would_28 : decode cX4_would 28 = .ok (.ireturn, 1) := by decide +kernel
theorem dX4_would_29 : decode cX4_would 29 = .ok (.aload_n 0, 1) := by decide +kernel
theorem dX4_would_30 : decode cX4_would 30 = .ok (.getfield 19, 3) := by decide +kernel
theorem dX4_would_33 : decode cX4_would 33 = .ok (.iload_n 1, 1) := by decide +kernel
theorem dX4_would_34 : decode cX4_would 34 = .ok (.iload_n 2, 1) := by decide +kernel
theorem dX4_would_35 : decode cX4_would 35 = .ok (.iload_n 3, 1) := by decide +kernel
theorem dX4_would_36 : decode cX4_would 36 = .ok (.invokevirtual 118, 3) := by decide +kernel
theorem dX4_would_39 : decode cX4_would 39 = .ok (.bipush 9, 2) := by decide +kernel
theorem dX4_would_41 : decode cX4_would 41 = .ok (.iadd, 1) := by decide +kernel
theorem dX4_would_42 : decode cX4_would 42 = .ok (.ireturn, 1) := by decide +kernel
theorem dX4_set_0 : decode cX4_set 0 = .ok (.aload_n 0, 1) := by decide +kernel
theorem dX4_set_1 : decode cX4_set 1 = .ok (.getfield 19, 3) := by decide +kernel
theorem dX4_set_4 : decode cX4_set 4 = .ok (.iload_n 1, 1) := by decide +kernel
theorem dX4_set_5 : decode cX4_set 5 = .ok (.invokevirtual 109, 3) := by decide +kernel
theorem dX4_set_8 : decode cX4_set 8 = .ok (.ifCond .eq 31, 3) := by decide +kernel
theorem dX4_set_11 : decode cX4_set 11 = .ok (.aload_n 0, 1) := by decide +kernel
theorem dX4_set_12 : decode cX4_set 12 = .ok (.getfield 19, 3) := by decide +kernel
theorem dX4_set_15 : decode cX4_set 15 = .ok (.iload_n 2, 1) := by decide +kernel
theorem dX4_set_16 : decode cX4_set 16 = .ok (.invokevirtual 87, 3) := by decide +kernel
theorem dX4_set_19 : decode cX4_set 19 = .ok (.ifCond .eq 20, 3) := by decide +kernel
theorem dX4_set_22 : decode cX4_set 22 = .ok (.iload_n 3, 1) := by decide +kernel
theorem dX4_set_23 : decode cX4_set 23 = .ok (.invokestatic 102, 3) := by decide +kernel
theorem dX4_set_26 : decode cX4_set 26 = .ok (.ifCond .eq 13, 3) := by decide +kernel
theorem dX4_set_29 : decode cX4_set 29 = .ok (.iload 4, 2) := by decide +kernel
theorem dX4_set_31 : decode cX4_set 31 = .ok (.bipush 10, 2) := by decide +kernel
theorem dX4_set_33 : decode cX4_set 33 = .ok (.invokestatic 91, 3) := by decide +kernel
theorem dX4_set_36 : decode cX4_set 36 = .ok (.ifCond .ne 5, 3) := by decide +kernel
theorem dX4_set_39 : decode cX4_set 39 = .ok (.iconst (-1), 1) := by decide +kernel
theorem dX4_set_40 : decode cX4_set 40 = .ok (.ireturn, 1) := by decide +kernel
theorem dX4_set_41 : decode cX4_set 41 = .ok (.aload_n 0, 1) := by decide +kernel
theorem dX4_set_42 : decode cX4_set 42 = .ok (.getfield 31, 3) := by decide +kernel
theorem dX4_set_45 : decode cX4_set 45 = .ok (.aload_n 0, 1) := by decide +kernel
theorem dX4_set_46 : decode cX4_set 46 = .ok (.getfield 19, 3) := by decide +kernel
theorem dX4_set_49 : decode cX4_set 49 = .ok (.invokevirtual 122, 3) := by decide +kernel
theorem dX4_set_52 : decode cX4_set 52 = .ok (.aload_n 0, 1) := by decide +kernel
theorem dX4_set_53 : decode cX4_set 53 = .ok (.getfield 19, 3) := by decide +kernel
theorem dX4_set_56 : decode cX4_set 56 = .ok (.iload_n 2, 1) := by decide +kernel
theorem dX4_set_57 : decode cX4_set 57 = .ok (.iload_n 3, 1) := by decide +kernel
theorem dX4_set_58 : decode cX4_set 58 = .ok (.iload 4, 2) := by decide +kernel
theorem dX4_set_60 : decode cX4_set 60 = .ok (.invokevirtual 118, 3) := by decide +kernel
theorem dX4_set_63 : decode cX4_set 63 = .ok (.istore 5, 2) := by decide +kernel
theorem dX4_set_65 : decode cX4_set 65 = .ok (.aload_n 0, 1) := by decide +kernel
theorem dX4_set_66 : decode cX4_set 66 = .ok (.getfield 19, 3) := by decide +kernel
theorem dX4_set_69 : decode cX4_set 69 = .ok (.iload_n 1, 1) := by decide +kernel
theorem dX4_set_70 : decode cX4_set 70 = .ok (.iload_n 3, 1) := by decide +kernel
theorem dX4_set_71 : decode cX4_set 71 = .ok (.iload 5, 2) := by decide +kernel
theorem dX4_set_73 : decode cX4_set 73 = .ok (.invokevirtual 125, 3) := by decide +kernel
theorem dX4_set_76 : decode cX4_set 76 = .ok (.iload 5, 2) := by decide +kernel
theorem dX4_set_78 : decode cX4_set 78 = .ok (.bipush 9, 2) := by decide +kernel
theorem dX4_set_80 : decode cX4_set 80 = .ok (.iadd, 1) := by decide +kernel
theorem dX4_set_81 : decode cX4_set 81 = .ok (.ireturn, 1) := by decide +kernel
theorem dX4_erase_0 : decode cX4_erase 0 = .ok (.aload_n 0, 1) := by decide +kernel
theorem dX4_erase_1 : decode cX4_erase 1 = .ok (.getfield 19, 3) := by decide +kernel
theorem dX4_erase_4 : decode cX4_erase 4 = .ok (.iload_n 1, 1) := by decide +kernel
theorem dX4_erase_5 : decode cX4_erase 5 = .ok (.invokevirtual 109, 3) := by decide +kernel
theorem dX4_erase_8 : decode cX4_erase 8 = .ok (.ifCond .eq 21, 3) := by decide +kernel
theorem dX4_erase_11 : decode cX4_erase 11 = .ok (.aload_n 0, 1) := by decide +kernel
theorem dX4_erase_12 : decode cX4_erase 12 = .ok (.getfield 19, 3) := by decide +kernel
theorem dX4_erase_15 : decode cX4_erase 15 = .ok (.iload_n 2, 1) := by decide +kernel
theorem dX4_erase_16 : decode cX4_erase 16 = .ok (.invokevirtual 87, 3) := by decide +kernel
theorem dX4_erase_19 : decode cX4_erase 19 = .ok (.ifCond .eq 10, 3) := by decide +kernel
theorem dX4_erase_22 : decode cX4_erase 22 = .ok (.iload_n 3, 1) := by decide +kernel
theorem dX4_erase_23 : decode cX4_erase 23 = .ok (.invokestatic 102, 3) := by decide +kernel
theorem dX4_erase_26 : decode cX4_erase 26 = .ok (.ifCond .ne 5, 3) := by decide +kernel
theorem dX4_erase_29 : decode cX4_erase 29 = .ok (.iconst (-1), 1) := by decide +kernel
theorem dX4_erase_30 : decode cX4_erase 30 = .ok (.ireturn, 1) := by decide +kernel
theorem dX4_erase_31 : decode cX4_erase 31 = .ok (.aload_n 0, 1) := by decide +kernel
theorem dX4_erase_32 : decode cX4_erase 32 = .ok (.getfield 19, 3) := by decide +kernel
theorem dX4_erase_35 : decode cX4_erase 35 = .ok (.iload_n 1, 1) := by decide +kernel
theorem dX4_erase_36 : decode cX4_erase 36 = .ok (.iload_n 3, 1) := by decide +kernel
theorem dX4_erase_37 : decode cX4_erase 37 = .ok (.invokevirtual 112, 3) := by decide +kernel
theorem dX4_erase_40 : decode cX4_erase 40 = .ok (.istore 4, 2) := by decide +kernel
theorem dX4_erase_42 : decode cX4_erase 42 = .ok (.iload 4, 2) := by decide +kernel
theorem dX4_erase_44 : decode cX4_erase 44 = .ok (.bipush 100, 2) := by decide +kernel
theorem dX4_erase_46 : decode cX4_erase 46 = .ok (.if_icmp .ne 6, 3) := by decide +kernel
theorem dX4_erase_49 : decode cX4_erase 49 = .ok (.bipush (-2), 2) := by decide +kernel
theorem dX4_erase_51 : decode cX4_erase 51 = .ok (.ireturn, 1) := by decide +kernel
theorem dX4_erase_52 : decode cX4_erase 52 = .ok (.aload_n 0, 1) := by decide +kernel
theorem dX4_erase_53 : decode cX4_erase 53 = .ok (.getfield 31, 3) := by decide +kernel
theorem dX4_erase_56 : decode cX4_erase 56 = .ok (.aload_n 0, 1) := by decide +kernel
theorem dX4_erase_57 : decode cX4_erase 57 = .ok (.getfield 19, 3) := by decide +kernel
theorem dX4_erase_60 : decode cX4_erase 60 = .ok (.invokevirtual 122, 3) := by decide +kernel
theorem dX4_erase_63 : decode cX4_erase 63 = .ok (.aload_n 0, 1) := by decide +kernel
theorem dX4_erase_64 : decode cX4_erase 64 = .ok (.getfield 19, 3) := by decide +kernel
theorem dX4_erase_67 : decode cX4_erase 67 = .ok (.iload_n 1, 1) := by decide +kernel
theorem dX4_erase_68 : decode cX4_erase 68 = .ok (.iload_n 3, 1) := by decide +kernel
theorem dX4_erase_69 : decode cX4_erase 69 = .ok (.aload_n 0, 1) := by decide +kernel
theorem dX4_erase_70 : decode cX4_erase 70 = .ok (.getfield 19, 3) := by decide +kernel
theorem dX4_erase_73 : decode cX4_erase 73 = .ok (.iload_n 2, 1) := by decide +kernel
theorem dX4_erase_74 : decode cX4_erase 74 = .ok (.iload_n 3, 1) := by decide +kernel
theorem dX4_erase_75 : decode cX4_erase 75 = .ok (.invokevirtual 105, 3) := by decide +kernel
theorem dX4_erase_78 : decode cX4_erase 78 = .ok (.invokevirtual 125, 3) := by decide +kernel
theorem dX4_erase_81 : decode cX4_erase 81 = .ok (.iload 4, 2) := by decide +kernel
theorem dX4_erase_83 : decode cX4_erase 83 = .ok (.bipush 9, 2) := by decide +kernel
theorem dX4_erase_85 : decode cX4_erase 85 = .ok (.iadd, 1) := by decide +kernel
theorem dX4_erase_86 : decode cX4_erase 86 = .ok (.ireturn, 1) := by decide +kernel
theorem dX4_copy_0 : decode cX4_copy 0 = .ok (.aload_n 0, 1) := by decide +kernel
theorem dX4_copy_1 : decode cX4_copy 1 = .ok (.getfield 19, 3) := by decide +kernel
theorem dX4_copy_4 : decode cX4_copy 4 = .ok (.iload_n 1, 1) := by decide +kernel
theorem dX4_copy_5 : decode cX4_copy 5 = .ok (.invokevirtual 109, 3) := by decide +kernel
theorem dX4_copy_8 : decode cX4_copy 8 = .ok (.ifCond .eq 30, 3) := by decide +kernel
theorem dX4_copy_11 : decode cX4_copy 11 = .ok (.aload_n 0, 1) := by decide +kernel
theorem dX4_copy_12 : decode cX4_copy 12 = .ok (.getfield 19, 3) := by decide +kernel
theorem dX4_copy_15 : decode cX4_copy 15 = .ok (.iload_n 2, 1) := by decide +kernel
theorem dX4_copy_16 : decode cX4_copy 16 = .ok (.invokevirtual 109, 3) := by decide +kernel
theorem dX4_copy_19 : decode cX4_copy 19 = .ok (.ifCond .eq 19, 3) := by decide +kernel
theorem dX4_copy_22 : decode cX4_copy 22 = .ok (.iload_n 1, 1) := by decide +kernel
theorem dX4_copy_23 : decode cX4_copy 23 = .ok (.iload_n 2, 1) := by decide +kernel
theorem dX4_copy_24 : decode cX4_copy 24 = .ok (.if_icmp .eq 14, 3) := by decide +kernel
theorem dX4_copy_27 : decode cX4_copy 27 = .ok (.aload_n 0, 1) := by decide +kernel
theorem dX4_copy_28 : decode cX4_copy 28 = .ok (.getfield 19, 3) := by decide +kernel
theorem dX4_copy_31 : decode cX4_copy 31 = .ok (.iload_n 3, 1) := by decide +kernel
theorem dX4_copy_32 : decode cX4_copy 32 = .ok (.invokevirtual 87, 3) := by decide +kernel
theorem dX4_copy_35 : decode cX4_copy 35 = .ok (.ifCond .ne 5, 3) := by decide +kernel
theorem dX4_copy_38 : decode cX4_copy 38 = .ok (.iconst (-1), 1) := by decide +kernel
theorem dX4_copy_39 : decode cX4_copy 39 = .ok (.ireturn, 1) := by decide +kernel
theorem dX4_copy_40 : decode cX4_copy 40 = .ok (.aload_n 0, 1) := by decide +kernel
theorem dX4_copy_41 : decode cX4_copy 41 = .ok (.getfield 31, 3) := by decide +kernel
theorem dX4_copy_44 : decode cX4_copy 44 = .ok (.aload_n 0, 1) := by decide +kernel
theorem dX4_copy_45 : decode cX4_copy 45 = .ok (.getfield 19, 3) := by decide +kernel
theorem dX4_copy_48 : decode cX4_copy 48 = .ok (.invokevirtual 122, 3) := by decide +kernel
theorem dX4_copy_51 : decode cX4_copy 51 = .ok (.aload_n 0, 1) := by decide +kernel
theorem dX4_copy_52 : decode cX4_copy 52 = .ok (.getfield 19, 3) := by decide +kernel
theorem dX4_copy_55 : decode cX4_copy 55 = .ok (.iload_n 1, 1) := by decide +kernel
theorem dX4_copy_56 : decode cX4_copy 56 = .ok (.iload_n 2, 1) := by decide +kernel
theorem dX4_copy_57 : decode cX4_copy 57 = .ok (.iload_n 3, 1) := by decide +kernel
theorem dX4_copy_58 : decode cX4_copy 58 = .ok (.invokevirtual 129, 3) := by decide +kernel
theorem dX4_copy_61 : decode cX4_copy 61 = .ok (.aload_n 0, 1) := by decide +kernel
theorem dX4_copy_62 : decode cX4_copy 62 = .ok (.getfield 19, 3) := by decide +kernel
theorem dX4_copy_65 : decode cX4_copy 65 = .ok (.iload_n 2, 1) := by decide +kernel
theorem dX4_copy_66 : decode cX4_copy 66 = .ok (.invokevirtual 132, 3) := by decide +kernel
theorem dX4_copy_69 : decode cX4_copy 69 = .ok (.ireturn, 1) := by decide +kernel
theorem dX4_think_0 : decode cX4_think 0 = .ok (.aload_n 0, 1) := by decide +kernel
theorem dX4_think_1 : decode cX4_think 1 = .ok (.getfield 19, 3) := by decide +kernel
theorem dX4_think_4 : decode cX4_think 4 = .ok (.iload_n 1, 1) := by decide +kernel
theorem dX4_think_5 : decode cX4_think 5 = .ok (.invokevirtual 87, 3) := by decide +kernel
theorem dX4_think_8 : decode cX4_think 8 = .ok (.ifCond .eq 19, 3) := by decide +kernel
theorem dX4_think_11 : decode cX4_think 11 = .ok (.iload_n 2, 1) := by decide +kernel
theorem dX4_think_12 : decode cX4_think 12 = .ok (.invokestatic 102, 3) := by decide +kernel
theorem dX4_think_15 : decode cX4_think 15 = .ok (.ifCond .eq 12, 3) := by decide +kernel
theorem dX4_think_18 : decode cX4_think 18 = .ok (.iload_n 3, 1) := by decide +kernel
theorem dX4_think_19 : decode cX4_think 19 = .ok (.bipush 18, 2) := by decide +kernel
theorem dX4_think_21 : decode cX4_think 21 = .ok (.invokestatic 91, 3) := by decide +kernel
theorem dX4_think_24 : decode cX4_think 24 = .ok (.ifCond .ne 5, 3) := by decide +kernel
theorem dX4_think_27 : decode cX4_think 27 = .ok (.iconst (-1), 1) := by decide +kernel
theorem dX4_think_28 : decode cX4_think 28 = .ok (.ireturn, 1) := by decide +kernel
theorem dX4_think_29 : decode cX4_think 29 = .ok (.aload_n 0, 1) := by decide +kernel
theorem dX4_think_30 : decode cX4_think 30 = .ok (.getfield 31, 3) := by decide +kernel
theorem dX4_think_33 : decode cX4_think 33 = .ok (.aload_n 0, 1) := by decide +kernel
theorem dX4_think_34 : decode cX4_think 34 = .ok (.getfield 19, 3) := by decide +kernel
theorem dX4_think_37 : decode cX4_think 37 = .ok (.invokevirtual 122, 3) := by decide +kernel
theorem dX4_think_40 : decode cX4_think 40 = .ok (.aload_n 0, 1) := by decide +kernel
theorem dX4_think_41 : decode cX4_think 41 = .ok (.getfield 19, 3) := by decide +kernel
theorem dX4_think_44 : decode cX4_think 44 = .ok (.iload_n 1, 1) := by decide +kernel
theorem dX4_think_45 : decode cX4_think 45 = .ok (.iload_n 2, 1) := by decide +kernel
theorem dX4_think_46 : decode cX4_think 46 = .ok (.invokevirtual 105, 3) := by decide +kernel
theorem dX4_think_49 : decode cX4_think 49 = .ok (.istore 4, 2) := by decide +kernel
theorem dX4_think_51 : decode cX4_think 51 = .ok (.aload_n 0, 1) := by decide +kernel
theorem dX4_think_52 : decode cX4_think 52 = .ok (.getfield 19, 3) := by decide +kernel
theorem dX4_think_55 : decode cX4_think 55 = .ok (.iload_n 1, 1) := by decide +kernel
theorem dX4_think_56 : decode cX4_think 56 = .ok (.iload_n 2, 1) := by decide +kernel
theorem dX4_think_57 : decode cX4_think 57 = .ok (.iload_n 3, 1) := by decide +kernel
theorem dX4_think_58 : decode cX4_think 58 = .ok (.bipush 9, 2) := by decide +kernel
theorem dX4_think_60 : decode cX4_think 60 = .ok (.isub, 1) := by decide +kernel
theorem dX4_think_61 : decode cX4_think 61 = .ok (.invokevirtual 135, 3) := by decide +kernel
theorem dX4_think_64 : decode cX4_think 64 = .ok (.iload 4, 2) := by decide +kernel
theorem dX4_think_66 : decode cX4_think 66 = .ok (.bipush 9, 2) := by decide +kernel
theorem dX4_think_68 : decode cX4_think 68 = .ok (.iadd, 1) := by decide +kernel
theorem dX4_think_69 : decode cX4_think 69 = .ok (.ireturn, 1) := by decide +kernel
theorem dX4_mind_0 : decode cX4_mind 0 = .ok (.aload_n 0, 1) := by decide +kernel
theorem dX4_mind_1 : decode cX4_mind 1 = .ok (.getfield 19, 3) := by decide +kernel
theorem dX4_mind_4 : decode cX4_mind 4 = .ok (.iload_n 1, 1) := by decide +kernel
theorem dX4_mind_5 : decode cX4_mind 5 = .ok (.invokevirtual 87, 3) := by decide +kernel
theorem dX4_mind_8 : decode cX4_mind 8 = .ok (.ifCond .eq 14, 3) := by decide +kernel
theorem dX4_mind_11 : decode cX4_mind 11 = .ok (.aload_n 0, 1) := by decide +kernel
theorem dX4_mind_12 : decode cX4_mind 12 = .ok (.getfield 19, 3) := by decide +kernel
theorem dX4_mind_15 : decode cX4_mind 15 = .ok (.iload_n 2, 1) := by decide +kernel
theorem dX4_mind_16 : decode cX4_mind 16 = .ok (.invokevirtual 87, 3) := by decide +kernel
theorem dX4_mind_19 : decode cX4_mind 19 = .ok (.ifCond .ne 5, 3) := by decide +kernel
theorem dX4_mind_22 : decode cX4_mind 22 = .ok (.iconst (-1), 1) := by decide +kernel
theorem dX4_mind_23 : decode cX4_mind 23 = .ok (.ireturn, 1) := by decide +kernel
theorem dX4_mind_24 : decode cX4_mind 24 = .ok (.aload_n 0, 1) := by decide +kernel
theorem dX4_mind_25 : decode cX4_mind 25 = .ok (.getfield 31, 3) := by decide +kernel
theorem dX4_mind_28 : decode cX4_mind 28 = .ok (.aload_n 0, 1) := by decide +kernel
theorem dX4_mind_29 : decode cX4_mind 29 = .ok (.getfield 19, 3) := by decide +kernel
theorem dX4_mind_32 : decode cX4_mind 32 = .ok (.invokevirtual 122, 3) := by decide +kernel
theorem dX4_mind_35 : decode cX4_mind 35 = .ok (.aload_n 0, 1) := by decide +kernel
theorem dX4_mind_36 : decode cX4_mind 36 = .ok (.getfield 19, 3) := by decide +kernel
theorem dX4_mind_39 : decode cX4_mind 39 = .ok (.iload_n 1, 1) := by decide +kernel
theorem dX4_mind_40 : decode cX4_mind 40 = .ok (.invokevirtual 99, 3) := by decide +kernel
theorem dX4_mind_43 : decode cX4_mind 43 = .ok (.istore_n 3, 1) := by decide +kernel
theorem dX4_mind_44 : decode cX4_mind 44 = .ok (.aload_n 0, 1) := by decide +kernel
theorem dX4_mind_45 : decode cX4_mind 45 = .ok (.getfield 19, 3) := by decide +kernel
theorem dX4_mind_48 : decode cX4_mind 48 = .ok (.iload_n 1, 1) := by decide +kernel
theorem dX4_mind_49 : decode cX4_mind 49 = .ok (.iload_n 2, 1) := by decide +kernel
theorem dX4_mind_50 : decode cX4_mind 50 = .ok (.invokevirtual 138, 3) := by decide +kernel
theorem dX4_mind_53 : decode cX4_mind 53 = .ok (.iload_n 3, 1) := by decide +kernel
theorem dX4_mind_54 : decode cX4_mind 54 = .ok (.ireturn, 1) := by decide +kernel
theorem dX4_undo_0 : decode cX4_undo 0 = .ok (.aload_n 0, 1) := by decide +kernel
theorem dX4_undo_1 : decode cX4_undo 1 = .ok (.getfield 31, 3) := by decide +kernel
theorem dX4_undo_4 : decode cX4_undo 4 = .ok (.aload_n 0, 1) := by decide +kernel
theorem dX4_undo_5 : decode cX4_undo 5 = .ok (.getfield 19, 3) := by decide +kernel
theorem dX4_undo_8 : decode cX4_undo 8 = .ok (.invokevirtual 142, 3) := by decide +kernel
theorem dX4_undo_11 : decode cX4_undo 11 = .ok (.ifCond .eq 13, 3) := by decide +kernel
theorem dX4_undo_14 : decode cX4_undo 14 = .ok (.aload_n 0, 1) := by decide +kernel
theorem dX4_undo_15 : decode cX4_undo 15 = .ok (.getfield 31, 3) := by decide +kernel
theorem dX4_undo_18 : decode cX4_undo 18 = .ok (.invokevirtual 146, 3) := by decide +kernel
theorem dX4_undo_21 : decode cX4_undo 21 = .ok (.goto 5, 3) := by decide +kernel
theorem dX4_undo_24 : decode cX4_undo 24 = .ok (.bipush (-2), 2) := by decide +kernel
theorem dX4_undo_26 : decode cX4_undo 26 = .ok (.ireturn, 1) := by decide +kernel
theorem dX4_own_0 : decode cX4_own 0 = .ok (.aload_n 0, 1) := by decide +kernel
theorem dX4_own_1 : decode cX4_own 1 = .ok (.getfield 19, 3) := by decide +kernel
theorem dX4_own_4 : decode cX4_own 4 = .ok (.iload_n 1, 1) := by decide +kernel
theorem dX4_own_5 : decode cX4_own 5 = .ok (.invokevirtual 109, 3) := by decide +kernel
theorem dX4_own_8 : decode cX4_own 8 = .ok (.ifCond .eq 14, 3) := by decide +kernel
theorem dX4_own_11 : decode cX4_own 11 = .ok (.aload_n 0, 1) := by decide +kernel
theorem dX4_own_12 : decode cX4_own 12 = .ok (.getfield 19, 3) := by decide +kernel
theorem dX4_own_15 : decode cX4_own 15 = .ok (.iload_n 2, 1) := by decide +kernel
theorem dX4_own_16 : decode cX4_own 16 = .ok (.invokevirtual 87, 3) := by decide +kernel
theorem dX4_own_19 : decode cX4_own 19 = .ok (.ifCond .ne 5, 3) := by decide +kernel
theorem dX4_own_22 : decode cX4_own 22 = .ok (.iconst (-1), 1) := by decide +kernel
theorem dX4_own_23 : decode cX4_own 23 = .ok (.ireturn, 1) := by decide +kernel
theorem dX4_own_24 : decode cX4_own 24 = .ok (.iconst 0, 1) := by decide +kernel
theorem dX4_own_25 : decode cX4_own 25 = .ok (.istore_n 3, 1) := by decide +kernel
theorem dX4_own_26 : decode cX4_own 26 = .ok (.iconst 0, 1) := by decide +kernel
theorem dX4_own_27 : decode cX4_own 27 = .ok (.istore 4, 2) := by decide +kernel
theorem dX4_own_29 : decode cX4_own 29 = .ok (.iload 4, 2) := by decide +kernel
theorem dX4_own_31 : decode cX4_own 31 = .ok (.iconst 5, 1) := by decide +kernel
theorem dX4_own_32 : decode cX4_own 32 = .ok (.if_icmp .ge 39, 3) := by decide +kernel
theorem dX4_own_35 : decode cX4_own 35 = .ok (.aload_n 0, 1) := by decide +kernel
theorem dX4_own_36 : decode cX4_own 36 = .ok (.getfield 19, 3) := by decide +kernel
theorem dX4_own_39 : decode cX4_own 39 = .ok (.iload_n 1, 1) := by decide +kernel
theorem dX4_own_40 : decode cX4_own 40 = .ok (.iload 4, 2) := by decide +kernel
theorem dX4_own_42 : decode cX4_own 42 = .ok (.invokevirtual 112, 3) := by decide +kernel
theorem dX4_own_45 : decode cX4_own 45 = .ok (.aload_n 0, 1) := by decide +kernel
theorem dX4_own_46 : decode cX4_own 46 = .ok (.getfield 19, 3) := by decide +kernel
theorem dX4_own_49 : decode cX4_own 49 = .ok (.iload_n 2, 1) := by decide +kernel
theorem dX4_own_50 : decode cX4_own 50 = .ok (.iload 4, 2) := by decide +kernel
theorem dX4_own_52 : decode cX4_own 52 = .ok (.invokevirtual 105, 3) := by decide +kernel
theorem dX4_own_55 : decode cX4_own 55 = .ok (.if_icmp .ne 10, 3) := by decide +kernel
theorem dX4_own_58 : decode cX4_own 58 = .ok (.iload_n 3, 1) := by decide +kernel
theorem dX4_own_59 : decode cX4_own 59 = .ok (.iconst 1, 1) := by decide +kernel
theorem dX4_own_60 : decode cX4_own 60 = .ok (.iload 4, 2) := by decide +kernel
theorem dX4_own_62 : decode cX4_own 62 = .ok (.ishl, 1) := by decide +kernel
theorem dX4_own_63 : decode cX4_own 63 = .ok (.ior, 1) := by decide +kernel
theorem dX4_own_64 : decode cX4_own 64 = .ok (.istore_n 3, 1) := by decide +kernel
theorem dX4_own_65 : decode cX4_own 65 = .ok (.iinc 4 1, 3) := by decide +kernel
theorem dX4_own_68 : decode cX4_own 68 = .ok (.goto (-39), 3) := by decide +kernel
theorem dX4_own_71 : decode cX4_own 71 = .ok (.iload_n 3, 1) := by decide +kernel
theorem dX4_own_72 : decode cX4_own 72 = .ok (.ireturn, 1) := by decide +kernel
theorem dX4_tears_0 : decode cX4_tears 0 = .ok (.aload_n 0, 1) := by decide +kernel
theorem dX4_tears_1 : decode cX4_tears 1 = .ok (.getfield 19, 3) := by decide +kernel
theorem dX4_tears_4 : decode cX4_tears 4 = .ok (.iload_n 1, 1) := by decide +kernel
theorem dX4_tears_5 : decode cX4_tears 5 = .ok (.invokevirtual 87, 3) := by decide +kernel
theorem dX4_tears_8 : decode cX4_tears 8 = .ok (.ifCond .eq 19, 3) := by decide +kernel
theorem dX4_tears_11 : decode cX4_tears 11 = .ok (.iload_n 2, 1) := by decide +kernel
theorem dX4_tears_12 : decode cX4_tears 12 = .ok (.invokestatic 102, 3) := by decide +kernel
theorem dX4_tears_15 : decode cX4_tears 15 = .ok (.ifCond .eq 12, 3) := by decide +kernel
theorem dX4_tears_18 : decode cX4_tears 18 = .ok (.iload_n 3, 1) := by decide +kernel
theorem dX4_tears_19 : decode cX4_tears 19 = .ok (.bipush 18, 2) := by decide +kernel
theorem dX4_tears_21 : decode cX4_tears 21 = .ok (.invokestatic 91, 3) := by decide +kernel
theorem dX4_tears_24 : decode cX4_tears 24 = .ok (.ifCond .ne 5, 3) := by decide +kernel
theorem dX4_tears_27 : decode cX4_tears 27 = .ok (.iconst (-1), 1) := by decide +kernel
theorem dX4_tears_28 : decode cX4_tears 28 = .ok (.ireturn, 1) := by decide +kernel
theorem dX4_tears_29 : decode cX4_tears 29 = .ok (.iconst 0, 1) := by decide +kernel
theorem dX4_tears_30 : decode cX4_tears 30 = .ok (.istore 4, 2) := by decide +kernel
theorem dX4_tears_32 : decode cX4_tears 32 = .ok (.iload 4, 2) := by decide +kernel
theorem dX4_tears_34 : decode cX4_tears 34 = .ok (.bipush 10, 2) := by decide +kernel
theorem dX4_tears_36 : decode cX4_tears 36 = .ok (.if_icmp .gt 30, 3) := by decide +kernel
theorem dX4_tears_39 : decode cX4_tears 39 = .ok (.aload_n 0, 1) := by decide +kernel
theorem dX4_tears_40 : decode cX4_tears 40 = .ok (.getfield 19, 3) := by decide +kernel
theorem dX4_tears_43 : decode cX4_tears 43 = .ok (.iload_n 1, 1) := by decide +kernel
theorem dX4_tears_44 : decode cX4_tears 44 = .ok (.iload_n 2, 1) := by decide +kernel
theorem dX4_tears_45 : decode cX4_tears 45 = .ok (.iload 4, 2) := by decide +kernel
theorem dX4_tears_47 : decode cX4_tears 47 = .ok (.invokevirtual 118, 3) := by decide +kernel
theorem dX4_tears_50 : decode cX4_tears 50 = .ok (.iload_n 3, 1) := by decide +kernel
theorem dX4_tears_51 : decode cX4_tears 51 = .ok (.bipush 9, 2) := by decide +kernel
theorem dX4_tears_53 : decode cX4_tears 53 = .ok (.isub, 1) := by decide +kernel
theorem dX4_tears_54 : decode cX4_tears 54 = .ok (.if_icmp .ne 6, 3) := by decide +kernel
theorem dX4_tears_57 : decode cX4_tears 57 = .ok (.iload 4, 2) := by decide +kernel
theorem dX4_tears_59 : decode cX4_tears 59 = .ok (.ireturn, 1) := by decide +kernel
theorem dX4_tears_60 : decode cX4_tears 60 = .ok (.iinc 4 1, 3) := by decide +kernel
theorem dX4_tears_63 : decode cX4_tears 63 = .ok (.goto (-31), 3) := by decide +kernel
theorem dX4_tears_66 : decode cX4_tears 66 = .ok (.bipush (-4), 2) := by decide +kernel
theorem dX4_tears_68 : decode cX4_tears 68 = .ok (.ireturn, 1) := by decide +kernel
theorem dX4_whom_0 : decode cX4_whom 0 = .ok (.aload_n 0, 1) := by decide +kernel
theorem dX4_whom_1 : decode cX4_whom 1 = .ok (.getfield 19, 3) := by decide +kernel
theorem dX4_whom_4 : decode cX4_whom 4 = .ok (.iload_n 1, 1) := by decide +kernel
theorem dX4_whom_5 : decode cX4_whom 5 = .ok (.invokevirtual 87, 3) := by decide +kernel
theorem dX4_whom_8 : decode cX4_whom 8 = .ok (.ifCond .eq 19, 3) := by decide +kernel
theorem dX4_whom_11 : decode cX4_whom 11 = .ok (.iload_n 2, 1) := by decide +kernel
theorem dX4_whom_12 : decode cX4_whom 12 = .ok (.invokestatic 102, 3) := by decide +kernel
theorem dX4_whom_15 : decode cX4_whom 15 = .ok (.ifCond .eq 12, 3) := by decide +kernel
theorem dX4_whom_18 : decode cX4_whom 18 = .ok (.iload_n 3, 1) := by decide +kernel
theorem dX4_whom_19 : decode cX4_whom 19 = .ok (.bipush 18, 2) := by decide +kernel
theorem dX4_whom_21 : decode cX4_whom 21 = .ok (.invokestatic 91, 3) := by decide +kernel
theorem dX4_whom_24 : decode cX4_whom 24 = .ok (.ifCond .ne 5, 3) := by decide +kernel
theorem dX4_whom_27 : decode cX4_whom 27 = .ok (.iconst (-1), 1) := by decide +kernel
theorem dX4_whom_28 : decode cX4_whom 28 = .ok (.ireturn, 1) := by decide +kernel
theorem dX4_whom_29 : decode cX4_whom 29 = .ok (.iconst 0, 1) := by decide +kernel
theorem dX4_whom_30 : decode cX4_whom 30 = .ok (.istore 4, 2) := by decide +kernel
theorem dX4_whom_32 : decode cX4_whom 32 = .ok (.iload 4, 2) := by decide +kernel
theorem dX4_whom_34 : decode cX4_whom 34 = .ok (.aload_n 0, 1) := by decide +kernel
theorem dX4_whom_35 : decode cX4_whom 35 = .ok (.getfield 19, 3) := by decide +kernel
theorem dX4_whom_38 : decode cX4_whom 38 = .ok (.invokevirtual 84, 3) := by decide +kernel
theorem dX4_whom_41 : decode cX4_whom 41 = .ok (.if_icmp .ge 37, 3) := by decide +kernel
theorem dX4_whom_44 : decode cX4_whom 44 = .ok (.iload 4, 2) := by decide +kernel
theorem dX4_whom_46 : decode cX4_whom 46 = .ok (.iload_n 1, 1) := by decide +kernel
theorem dX4_whom_47 : decode cX4_whom 47 = .ok (.if_icmp .eq 25, 3) := by decide +kernel
theorem dX4_whom_50 : decode cX4_whom 50 = .ok (.aload_n 0, 1) := by decide +kernel
theorem dX4_whom_51 : decode cX4_whom 51 = .ok (.getfield 19, 3) := by decide +kernel
theorem dX4_whom_54 : decode cX4_whom 54 = .ok (.iload_n 1, 1) := by decide +kernel
theorem dX4_whom_55 : decode cX4_whom 55 = .ok (.iload 4, 2) := by decide +kernel
theorem dX4_whom_57 : decode cX4_whom 57 = .ok (.iload_n 2, 1) := by decide +kernel
theorem dX4_whom_58 : decode cX4_whom 58 = .ok (.iconst 0, 1) := by decide +kernel
theorem dX4_whom_59 : decode cX4_whom 59 = .ok (.invokevirtual 147, 3) := by decide +kernel
theorem dX4_whom_62 : decode cX4_whom 62 = .ok (.iload_n 3, 1) := by decide +kernel
theorem dX4_whom_63 : decode cX4_whom 63 = .ok (.bipush 9, 2) := by decide +kernel
theorem dX4_whom_65 : decode cX4_whom 65 = .ok (.isub, 1) := by decide +kernel
theorem dX4_whom_66 : decode cX4_whom 66 = .ok (.if_icmp .ne 6, 3) := by decide +kernel
theorem dX4_whom_69 : decode cX4_whom 69 = .ok (.iload 4, 2) := by decide +kernel
theorem dX4_whom_71 : decode cX4_whom 71 = .ok (.ireturn, 1) := by decide +kernel
theorem dX4_whom_72 : decode cX4_whom 72 = .ok (.iinc 4 1, 3) := by decide +kernel
theorem dX4_whom_75 : decode cX4_whom 75 = .ok (.goto (-43), 3) := by decide +kernel
theorem dX4_whom_78 : decode cX4_whom 78 = .ok (.bipush (-4), 2) := by decide +kernel
theorem dX4_whom_80 : decode cX4_whom 80 = .ok (.ireturn, 1) := by decide +kernel
theorem dX4_treaty_0 : decode cX4_treaty 0 = .ok (.aload_n 0, 1) := by decide +kernel
theorem dX4_treaty_1 : decode cX4_treaty 1 = .ok (.getfield 19, 3) := by decide +kernel
theorem dX4_treaty_4 : decode cX4_treaty 4 = .ok (.iload_n 1, 1) := by decide +kernel
theorem dX4_treaty_5 : decode cX4_treaty 5 = .ok (.invokevirtual 87, 3) := by decide +kernel
theorem dX4_treaty_8 : decode cX4_treaty 8 = .ok (.ifCond .eq 28, 3) := by decide +kernel
theorem dX4_treaty_11 : decode cX4_treaty 11 = .ok (.aload_n 0, 1) := by decide +kernel
theorem dX4_treaty_12 : decode cX4_treaty 12 = .ok (.getfield 19, 3) := by decide +kernel
theorem dX4_treaty_15 : decode cX4_treaty 15 = .ok (.iload_n 2, 1) := by decide +kernel
theorem dX4_treaty_16 : decode cX4_treaty 16 = .ok (.invokevirtual 87, 3) := by decide +kernel
theorem dX4_treaty_19 : decode cX4_treaty 19 = .ok (.ifCond .eq 17, 3) := by decide +kernel
theorem dX4_treaty_22 : decode cX4_treaty 22 = .ok (.iload_n 1, 1) := by decide +kernel
theorem dX4_treaty_23 : decode cX4_treaty 23 = .ok (.iload_n 2, 1) := by decide +kernel
theorem dX4_treaty_24 : decode cX4_treaty 24 = .ok (.if_icmp .eq 12, 3) := by decide +kernel
theorem dX4_treaty_27 : decode cX4_treaty 27 = .ok (.iload_n 3, 1) := by decide +kernel
theorem dX4_treaty_28 : decode cX4_treaty 28 = .ok (.bipush 10, 2) := by decide +kernel
theorem dX4_treaty_30 : decode cX4_treaty 30 = .ok (.invokestatic 91, 3) := by decide +kernel
theorem dX4_treaty_33 : decode cX4_treaty 33 = .ok (.ifCond .ne 5, 3) := by decide +kernel
theorem dX4_treaty_36 : decode cX4_treaty 36 = .ok (.iconst (-1), 1) := by decide +kernel
theorem dX4_treaty_37 : decode cX4_treaty 37 = .ok (.ireturn, 1) := by decide +kernel
theorem dX4_treaty_38 : decode cX4_treaty 38 = .ok (.iconst 0, 1) := by decide +kernel
theorem dX4_treaty_39 : decode cX4_treaty 39 = .ok (.istore 4, 2) := by decide +kernel
theorem dX4_treaty_41 : decode cX4_treaty 41 = .ok (.iconst 0, 1) := by decide +kernel
theorem dX4_treaty_42 : decode cX4_treaty 42 = .ok (.istore 5, 2) := by decide +kernel
theorem dX4_treaty_44 : decode cX4_treaty 44 = .ok (.iload 5, 2) := by decide +kernel
theorem dX4_treaty_46 : decode cX4_treaty 46 = .ok (.iconst 5, 1) := by decide +kernel
theorem dX4_treaty_47 : decode cX4_treaty 47 = .ok (.if_icmp .ge 45, 3) := by decide +kernel
theorem dX4_treaty_50 : decode cX4_treaty 50 = .ok (.aload_n 0, 1) := by decide +kernel
theorem dX4_treaty_51 : decode cX4_treaty 51 = .ok (.getfield 19, 3) := by decide +kernel
theorem dX4_treaty_54 : decode cX4_treaty 54 = .ok (.iload_n 1, 1) := by decide +kernel
theorem dX4_treaty_55 : decode cX4_treaty 55 = .ok (.iload_n 2, 1) := by decide +kernel
theorem dX4_treaty_56 : decode cX4_treaty 56 = .ok (.iload 5, 2) := by decide +kernel
theorem dX4_treaty_58 : decode cX4_treaty 58 = .ok (.iload_n 3, 1) := by decide +kernel
theorem dX4_treaty_59 : decode cX4_treaty 59 = .ok (.invokevirtual 147, 3) := by decide +kernel
theorem dX4_treaty_62 : decode cX4_treaty 62 = .ok (.aload_n 0, 1) := by decide +kernel
theorem dX4_treaty_63 : decode cX4_treaty 63 = .ok (.getfield 19, 3) := by decide +kernel
theorem dX4_treaty_66 : decode cX4_treaty 66 = .ok (.iload_n 2, 1) := by decide +kernel
theorem dX4_treaty_67 : decode cX4_treaty 67 = .ok (.iload_n 1, 1) := by decide +kernel
theorem dX4_treaty_68 : decode cX4_treaty 68 = .ok (.iload 5, 2) := by decide +kernel
theorem dX4_treaty_70 : decode cX4_treaty 70 = .ok (.iload_n 3, 1) := by decide +kernel
theorem dX4_treaty_71 : decode cX4_treaty 71 = .ok (.invokevirtual 147, 3) := by decide +kernel
theorem dX4_treaty_74 : decode cX4_treaty 74 = .ok (.if_icmp .ne 12, 3) := by decide +kernel
theorem dX4_treaty_77 : decode cX4_treaty 77 = .ok (.iload 4, 2) := by decide +kernel
theorem dX4_treaty_79 : decode cX4_treaty 79 = .ok (.iconst 1, 1) := by decide +kernel
theorem dX4_treaty_80 : decode cX4_treaty 80 = .ok (.iload 5, 2) := by decide +kernel
theorem dX4_treaty_82 : decode cX4_treaty 82 = .ok (.ishl, 1) := by decide +kernel
theorem dX4_treaty_83 : decode cX4_treaty 83 = .ok (.ior, 1) := by decide +kernel
theorem dX4_treaty_84 : decode cX4_treaty 84 = .ok (.istore 4, 2) := by decide +kernel
theorem dX4_treaty_86 : decode cX4_treaty 86 = .ok (.iinc 5 1, 3) := by decide +kernel
theorem dX4_treaty_89 : decode cX4_treaty 89 = .ok (.goto (-45), 3) := by decide +kernel
theorem dX4_treaty_92 : decode cX4_treaty 92 = .ok (.iload 4, 2) := by decide +kernel
theorem dX4_treaty_94 : decode cX4_treaty 94 = .ok (.ireturn, 1) := by decide +kernel
theorem dX4_round_0 : decode cX4_round 0 = .ok (.aload_n 0, 1) := by decide +kernel
theorem dX4_round_1 : decode cX4_round 1 = .ok (.getfield 19, 3) := by decide +kernel
theorem dX4_round_4 : decode cX4_round 4 = .ok (.iload_n 1, 1) := by decide +kernel
theorem dX4_round_5 : decode cX4_round 5 = .ok (.invokevirtual 109, 3) := by decide +kernel
theorem dX4_round_8 : decode cX4_round 8 = .ok (.ifCond .eq 19, 3) := by decide +kernel
theorem dX4_round_11 : decode cX4_round 11 = .ok (.iload_n 2, 1) := by decide +kernel
theorem dX4_round_12 : decode cX4_round 12 = .ok (.invokestatic 102, 3) := by decide +kernel
theorem dX4_round_15 : decode cX4_round 15 = .ok (.ifCond .eq 12, 3) := by decide +kernel
theorem dX4_round_18 : decode cX4_round 18 = .ok (.iload_n 3, 1) := by decide +kernel
theorem dX4_round_19 : decode cX4_round 19 = .ok (.bipush 60, 2) := by decide +kernel
theorem dX4_round_21 : decode cX4_round 21 = .ok (.invokestatic 91, 3) := by decide +kernel
theorem dX4_round_24 : decode cX4_round 24 = .ok (.ifCond .ne 5, 3) := by decide +kernel
theorem dX4_round_27 : decode cX4_round 27 = .ok (.iconst (-1), 1) := by decide +kernel
theorem dX4_round_28 : decode cX4_round 28 = .ok (.ireturn, 1) := by decide +kernel
theorem dX4_round_29 : decode cX4_round 29 = .ok (.aload_n 0, 1) := by decide +kernel
theorem dX4_round_30 : decode cX4_round 30 = .ok (.getfield 19, 3) := by decide +kernel
theorem dX4_round_33 : decode cX4_round 33 = .ok (.iload_n 1, 1) := by decide +kernel
theorem dX4_round_34 : decode cX4_round 34 = .ok (.iload_n 2, 1) := by decide +kernel
theorem dX4_round_35 : decode cX4_round 35 = .ok (.invokevirtual 112, 3) := by decide +kernel
theorem dX4_round_38 : decode cX4_round 38 = .ok (.istore 4, 2) := by decide +kernel
theorem dX4_round_40 : decode cX4_round 40 = .ok (.iconst 0, 1) := by decide +kernel
theorem dX4_round_41 : decode cX4_round 41 = .ok (.istore 5, 2) := by decide +kernel
theorem dX4_round_43 : decode cX4_round 43 = .ok (.iload 5, 2) := by decide +kernel
theorem dX4_round_45 : decode cX4_round 45 = .ok (.iload_n 3, 1) := by decide +kernel
theorem dX4_round_46 : decode cX4_round 46 = .ok (.if_icmp .ge 33, 3) := by decide +kernel
theorem dX4_round_49 : decode cX4_round 49 = .ok (.aload_n 0, 1) := by decide +kernel
theorem dX4_round_50 : decode cX4_round 50 = .ok (.getfield 19, 3) := by decide +kernel
theorem dX4_round_53 : decode cX4_round 53 = .ok (.iload 5, 2) := by decide +kernel
theorem dX4_round_55 : decode cX4_round 55 = .ok (.aload_n 0, 1) := by decide +kernel
theorem dX4_round_56 : decode cX4_round 56 = .ok (.getfield 19, 3) := by decide +kernel
theorem dX4_round_59 : decode cX4_round 59 = .ok (.invokevirtual 84, 3) := by decide +kernel
theorem dX4_round_62 : decode cX4_round 62 = .ok (.invokestatic 151, 3) := by decide +kernel
theorem dX4_round_65 : decode cX4_round 65 = .ok (.iload_n 2, 1) := by decide +kernel
theorem dX4_round_66 : decode cX4_round 66 = .ok (.iload 4, 2) := by decide +kernel
theorem dX4_round_68 : decode cX4_round 68 = .ok (.invokevirtual 154, 3) := by decide +kernel
theorem dX4_round_71 : decode cX4_round 71 = .ok (.istore 4, 2) := by decide +kernel
theorem dX4_round_73 : decode cX4_round 73 = .ok (.iinc 5 1, 3) := by decide +kernel
theorem dX4_round_76 : decode cX4_round 76 = .ok (.goto (-33), 3) := by decide +kernel
theorem dX4_round_79 : decode cX4_round 79 = .ok (.iload 4, 2) := by decide +kernel
theorem dX4_round_81 : decode cX4_round 81 = .ok (.invokestatic 115, 3) := by decide +kernel
theorem dX4_round_84 : decode cX4_round 84 = .ok (.ireturn, 1) := by decide +kernel
theorem dX4_again_0 : decode cX4_again 0 = .ok (.aload_n 0, 1) := by decide +kernel
theorem dX4_again_1 : decode cX4_again 1 = .ok (.getfield 19, 3) := by decide +kernel
theorem dX4_again_4 : decode cX4_again 4 = .ok (.iload_n 1, 1) := by decide +kernel
theorem dX4_again_5 : decode cX4_again 5 = .ok (.invokevirtual 109, 3) := by decide +kernel
theorem dX4_again_8 : decode cX4_again 8 = .ok (.ifCond .eq 11, 3) := by decide +kernel
theorem dX4_again_11 : decode cX4_again 11 = .ok (.iload_n 2, 1) := by decide +kernel
theorem dX4_again_12 : decode cX4_again 12 = .ok (.iconst 1, 1) := by decide +kernel
theorem dX4_again_13 : decode cX4_again 13 = .ok (.invokestatic 91, 3) := by decide +kernel
theorem dX4_again_16 : decode cX4_again 16 = .ok (.ifCond .ne 5, 3) := by decide +kernel
theorem dX4_again_19 : decode cX4_again 19 = .ok (.iconst (-1), 1) := by decide +kernel
theorem dX4_again_20 : decode cX4_again 20 = .ok (.ireturn, 1) := by decide +kernel
theorem dX4_again_21 : decode cX4_again 21 = .ok (.aload_n 0, 1) := by decide +kernel
theorem dX4_again_22 : decode cX4_again 22 = .ok (.getfield 23, 3) := by decide +kernel
theorem dX4_again_25 : decode cX4_again 25 = .ok (.aload_n 0, 1) := by decide +kernel
theorem dX4_again_26 : decode cX4_again 26 = .ok (.getfield 19, 3) := by decide +kernel
theorem dX4_again_29 : decode cX4_again 29 = .ok (.invokevirtual 78, 3) := by decide +kernel
theorem dX4_again_32 : decode cX4_again 32 = .ok (.aload_n 0, 1) := by decide +kernel
theorem dX4_again_33 : decode cX4_again 33 = .ok (.getfield 45, 3) := by decide +kernel
theorem dX4_again_36 : decode cX4_again 36 = .ok (.iconst 0, 1) := by decide +kernel
theorem dX4_again_37 : decode cX4_again 37 = .ok (.aload_n 0, 1) := by decide +kernel
theorem dX4_again_38 : decode cX4_again 38 = .ok (.getfield 23, 3) := by decide +kernel
theorem dX4_again_41 : decode cX4_again 41 = .ok (.iload_n 1, 1) := by decide +kernel
theorem dX4_again_42 : decode cX4_again 42 = .ok (.invokevirtual 157, 3) := by decide +kernel
theorem dX4_again_45 : decode cX4_again 45 = .ok (.invokestatic 160, 3) := by decide +kernel
theorem dX4_again_48 : decode cX4_again 48 = .ok (.iconst 1, 1) := by decide +kernel
theorem dX4_again_49 : decode cX4_again 49 = .ok (.istore_n 3, 1) := by decide +kernel
theorem dX4_again_50 : decode cX4_again 50 = .ok (.iload_n 3, 1) := by decide +kernel
theorem dX4_again_51 : decode cX4_again 51 = .ok (.bipush 40, 2) := by decide +kernel
theorem dX4_again_53 : decode cX4_again 53 = .ok (.if_icmp .gt 63, 3) := by decide +kernel
theorem dX4_again_56 : decode cX4_again 56 = .ok (.aload_n 0, 1) := by decide +kernel
theorem dX4_again_57 : decode cX4_again 57 = .ok (.getfield 23, 3) := by decide +kernel
theorem dX4_again_60 : decode cX4_again 60 = .ok (.iload_n 1, 1) := by decide +kernel
theorem dX4_again_61 : decode cX4_again 61 = .ok (.invokevirtual 164, 3) := by decide +kernel
theorem dX4_again_64 : decode cX4_again 64 = .ok (.aload_n 0, 1) := by decide +kernel
theorem dX4_again_65 : decode cX4_again 65 = .ok (.getfield 23, 3) := by decide +kernel
theorem dX4_again_68 : decode cX4_again 68 = .ok (.iload_n 1, 1) := by decide +kernel
theorem dX4_again_69 : decode cX4_again 69 = .ok (.invokevirtual 157, 3) := by decide +kernel
theorem dX4_again_72 : decode cX4_again 72 = .ok (.istore 4, 2) := by decide +kernel
theorem dX4_again_74 : decode cX4_again 74 = .ok (.aload_n 0, 1) := by decide +kernel
theorem dX4_again_75 : decode cX4_again 75 = .ok (.iload 4, 2) := by decide +kernel
theorem dX4_again_77 : decode cX4_again 77 = .ok (.iload_n 3, 1) := by decide +kernel
theorem dX4_again_78 : decode cX4_again 78 = .ok (.invokevirtual 167, 3) := by decide +kernel
theorem dX4_again_81 : decode cX4_again 81 = .ok (.istore 5, 2) := by decide +kernel
theorem dX4_again_83 : decode cX4_again 83 = .ok (.iload 5, 2) := by decide +kernel
theorem dX4_again_85 : decode cX4_again 85 = .ok (.iload_n 3, 1) := by decide +kernel
theorem dX4_again_86 : decode cX4_again 86 = .ok (.if_icmp .ge 14, 3) := by decide +kernel
theorem dX4_again_89 : decode cX4_again 89 = .ok (.iload_n 2, 1) := by decide +kernel
theorem dX4_again_90 : decode cX4_again 90 = .ok (.ifCond .ne 7, 3) := by decide +kernel
theorem dX4_again_93 : decode cX4_again 93 = .ok (.iload_n 3, 1) := by decide +kernel
theorem dX4_again_94 : decode cX4_again 94 = .ok (.goto 5, 3) := by decide +kernel
theorem dX4_again_97 : decode cX4_again 97 = .ok (.iload 5, 2) := by decide +kernel
theorem dX4_again_99 : decode cX4_again 99 = .ok (.ireturn, 1) := by decide +kernel
theorem dX4_again_100 : decode cX4_again 100 = .ok (.aload_n 0, 1) := by decide +kernel
theorem dX4_again_101 : decode cX4_again 101 = .ok (.getfield 45, 3) := by decide +kernel
theorem dX4_again_104 : decode cX4_again 104 = .ok (.iload_n 3, 1) := by decide +kernel
theorem dX4_again_105 : decode cX4_again 105 = .ok (.iload 4, 2) := by decide +kernel
theorem dX4_again_107 : decode cX4_again 107 = .ok (.invokestatic 160, 3) := by decide +kernel
theorem dX4_again_110 : decode cX4_again 110 = .ok (.iinc 3 1, 3) := by decide +kernel
theorem dX4_again_113 : decode cX4_again 113 = .ok (.goto (-63), 3) := by decide +kernel
theorem dX4_again_116 : decode cX4_again 116 = .ok (.bipush (-4), 2) := by decide +kernel
theorem dX4_again_118 : decode cX4_again 118 = .ok (.ireturn, 1) := by decide +kernel
theorem dX4_least_0 : decode cX4_least 0 = .ok (.aload_n 0, 1) := by decide +kernel
theorem dX4_least_1 : decode cX4_least 1 = .ok (.getfield 19, 3) := by decide +kernel
theorem dX4_least_4 : decode cX4_least 4 = .ok (.iload_n 1, 1) := by decide +kernel
theorem dX4_least_5 : decode cX4_least 5 = .ok (.invokevirtual 109, 3) := by decide +kernel
theorem dX4_least_8 : decode cX4_least 8 = .ok (.ifCond .eq 22, 3) := by decide +kernel
theorem dX4_least_11 : decode cX4_least 11 = .ok (.aload_n 0, 1) := by decide +kernel
theorem dX4_least_12 : decode cX4_least 12 = .ok (.getfield 19, 3) := by decide +kernel
theorem dX4_least_15 : decode cX4_least 15 = .ok (.iload_n 2, 1) := by decide +kernel
theorem dX4_least_16 : decode cX4_least 16 = .ok (.invokevirtual 87, 3) := by decide +kernel
theorem dX4_least_19 : decode cX4_least 19 = .ok (.ifCond .eq 11, 3) := by decide +kernel
theorem dX4_least_22 : decode cX4_least 22 = .ok (.iload_n 3, 1) := by decide +kernel
theorem dX4_least_23 : decode cX4_least 23 = .ok (.iconst 1, 1) := by decide +kernel
theorem dX4_least_24 : decode cX4_least 24 = .ok (.invokestatic 91, 3) := by decide +kernel
theorem dX4_least_27 : decode cX4_least 27 = .ok (.ifCond .ne 5, 3) := by decide +kernel
theorem dX4_least_30 : decode cX4_least 30 = .ok (.iconst (-1), 1) := by decide +kernel
theorem dX4_least_31 : decode cX4_least 31 = .ok (.ireturn, 1) := by decide +kernel
theorem dX4_least_32 : decode cX4_least 32 = .ok (.aload_n 0, 1) := by decide +kernel
theorem dX4_least_33 : decode cX4_least 33 = .ok (.getfield 19, 3) := by decide +kernel
theorem dX4_least_36 : decode cX4_least 36 = .ok (.iload_n 1, 1) := by decide +kernel
theorem dX4_least_37 : decode cX4_least 37 = .ok (.invokevirtual 132, 3) := by decide +kernel
theorem dX4_least_40 : decode cX4_least 40 = .ok (.iconst 5, 1) := by decide +kernel
theorem dX4_least_41 : decode cX4_least 41 = .ok (.if_icmp .ge 6, 3) := by decide +kernel
theorem dX4_least_44 : decode cX4_least 44 = .ok (.bipush (-4), 2) := by decide +kernel
theorem dX4_least_46 : decode cX4_least 46 = .ok (.ireturn, 1) := by decide +kernel
theorem dX4_least_47 : decode cX4_least 47 = .ok (.iconst 0, 1) := by decide +kernel
theorem dX4_least_48 : decode cX4_least 48 = .ok (.istore 4, 2) := by decide +kernel
theorem dX4_least_50 : decode cX4_least 50 = .ok (.iconst 0, 1) := by decide +kernel
theorem dX4_least_51 : decode cX4_least 51 = .ok (.istore 5, 2) := by decide +kernel
theorem dX4_least_53 : decode cX4_least 53 = .ok (.iload 5, 2) := by decide +kernel
theorem dX4_least_55 : decode cX4_least 55 = .ok (.iconst 5, 1) := by decide +kernel
theorem dX4_least_56 : decode cX4_least 56 = .ok (.if_icmp .ge 41, 3) := by decide +kernel
theorem dX4_least_59 : decode cX4_least 59 = .ok (.aload_n 0, 1) := by decide +kernel
theorem dX4_least_60 : decode cX4_least 60 = .ok (.getfield 19, 3) := by decide +kernel
theorem dX4_least_63 : decode cX4_least 63 = .ok (.iload_n 1, 1) := by decide +kernel
theorem dX4_least_64 : decode cX4_least 64 = .ok (.iload 5, 2) := by decide +kernel
theorem dX4_least_66 : decode cX4_least 66 = .ok (.invokevirtual 112, 3) := by decide +kernel
theorem dX4_least_69 : decode cX4_least 69 = .ok (.aload_n 0, 1) := by decide +kernel
theorem dX4_least_70 : decode cX4_least 70 = .ok (.getfield 19, 3) := by decide +kernel
theorem dX4_least_73 : decode cX4_least 73 = .ok (.iload_n 2, 1) := by decide +kernel
theorem dX4_least_74 : decode cX4_least 74 = .ok (.iload 5, 2) := by decide +kernel
theorem dX4_least_76 : decode cX4_least 76 = .ok (.invokevirtual 105, 3) := by decide +kernel
theorem dX4_least_79 : decode cX4_least 79 = .ok (.if_icmp .eq 12, 3) := by decide +kernel
theorem dX4_least_82 : decode cX4_least 82 = .ok (.iload 4, 2) := by decide +kernel
theorem dX4_least_84 : decode cX4_least 84 = .ok (.iconst 1, 1) := by decide +kernel
theorem dX4_least_85 : decode cX4_least 85 = .ok (.iload 5, 2) := by decide +kernel
theorem dX4_least_87 : decode cX4_least 87 = .ok (.ishl, 1) := by decide +kernel
theorem dX4_least_88 : decode cX4_least 88 = .ok (.ior, 1) := by decide +kernel
theorem dX4_least_89 : decode cX4_least 89 = .ok (.istore 4, 2) := by decide +kernel
theorem dX4_least_91 : decode cX4_least 91 = .ok (.iinc 5 1, 3) := by decide +kernel
theorem dX4_least_94 : decode cX4_least 94 = .ok (.goto (-41), 3) := by decide +kernel
theorem dX4_least_97 : decode cX4_least 97 = .ok (.iload_n 3, 1) := by decide +kernel
theorem dX4_least_98 : decode cX4_least 98 = .ok (.ifCond .ne 11, 3) := by decide +kernel
theorem dX4_least_101 : decode cX4_least 101 = .ok (.iload 4, 2) := by decide +kernel
theorem dX4_least_103 : decode cX4_least 103 = .ok (.invokestatic 170, 3) := by decide +kernel
theorem dX4_least_106 : decode cX4_least 106 = .ok (.goto 5, 3) := by decide +kernel
theorem dX4_least_109 : decode cX4_least 109 = .ok (.iload 4, 2) := by decide +kernel
theorem dX4_least_111 : decode cX4_least 111 = .ok (.ireturn, 1) := by decide +kernel
theorem dX4_sign_0 : decode cX4_sign 0 = .ok (.iload_n 1, 1) := by decide +kernel
theorem dX4_sign_1 : decode cX4_sign 1 = .ok (.invokestatic 102, 3) := by decide +kernel
theorem dX4_sign_4 : decode cX4_sign 4 = .ok (.ifCond .eq 12, 3) := by decide +kernel
theorem dX4_sign_7 : decode cX4_sign 7 = .ok (.iload_n 2, 1) := by decide +kernel
theorem dX4_sign_8 : decode cX4_sign 8 = .ok (.bipush 18, 2) := by decide +kernel
theorem dX4_sign_10 : decode cX4_sign 10 = .ok (.invokestatic 91, 3) := by decide +kernel
theorem dX4_sign_13 : decode cX4_sign 13 = .ok (.ifCond .ne 5, 3) := by decide +kernel
theorem dX4_sign_16 : decode cX4_sign 16 = .ok (.iconst (-1), 1) := by decide +kernel
theorem dX4_sign_17 : decode cX4_sign 17 = .ok (.ireturn, 1) := by decide +kernel
theorem dX4_sign_18 : decode cX4_sign 18 = .ok (.aload_n 0, 1) := by decide +kernel
theorem dX4_sign_19 : decode cX4_sign 19 = .ok (.getfield 41, 3) := by decide +kernel
theorem dX4_sign_22 : decode cX4_sign 22 = .ok (.invokevirtual 175, 3) := by decide +kernel
theorem dX4_sign_25 : decode cX4_sign 25 = .ok (.bipush 6, 2) := by decide +kernel
theorem dX4_sign_27 : decode cX4_sign 27 = .ok (.if_icmp .lt 6, 3) := by decide +kernel
theorem dX4_sign_30 : decode cX4_sign 30 = .ok (.bipush (-3), 2) := by decide +kernel
theorem dX4_sign_32 : decode cX4_sign 32 = .ok (.ireturn, 1) := by decide +kernel
theorem dX4_sign_33 : decode cX4_sign 33 = .ok (.aload_n 0, 1) := by decide +kernel
theorem dX4_sign_34 : decode cX4_sign 34 = .ok (.getfield 41, 3) := by decide +kernel
theorem dX4_sign_37 : decode cX4_sign 37 = .ok (.iload_n 1, 1) := by decide +kernel
theorem dX4_sign_38 : decode cX4_sign 38 = .ok (.iload_n 2, 1) := by decide +kernel
theorem dX4_sign_39 : decode cX4_sign 39 = .ok (.bipush 9, 2) := by decide +kernel
theorem dX4_sign_41 : decode cX4_sign 41 = .ok (.isub, 1) := by decide +kernel
theorem dX4_sign_42 : decode cX4_sign 42 = .ok (.invokevirtual 176, 3) := by decide +kernel
theorem dX4_sign_45 : decode cX4_sign 45 = .ok (.aload_n 0, 1) := by decide +kernel
theorem dX4_sign_46 : decode cX4_sign 46 = .ok (.getfield 41, 3) := by decide +kernel
theorem dX4_sign_49 : decode cX4_sign 49 = .ok (.invokevirtual 175, 3) := by decide +kernel
theorem dX4_sign_52 : decode cX4_sign 52 = .ok (.ireturn, 1) := by decide +kernel
theorem dX4_forget_0 : decode cX4_forget 0 = .ok (.aload_n 0, 1) := by decide +kernel
theorem dX4_forget_1 : decode cX4_forget 1 = .ok (.getfield 41, 3) := by decide +kernel
theorem dX4_forget_4 : decode cX4_forget 4 = .ok (.invokevirtual 175, 3) := by decide +kernel
theorem dX4_forget_7 : decode cX4_forget 7 = .ok (.istore_n 1, 1) := by decide +kernel
theorem dX4_forget_8 : decode cX4_forget 8 = .ok (.aload_n 0, 1) := by decide +kernel
theorem dX4_forget_9 : decode cX4_forget 9 = .ok (.getfield 41, 3) := by decide +kernel
theorem dX4_forget_12 : decode cX4_forget 12 = .ok (.invokevirtual 82, 3) := by decide +kernel
theorem dX4_forget_15 : decode cX4_forget 15 = .ok (.iload_n 1, 1) := by decide +kernel
theorem dX4_forget_16 : decode cX4_forget 16 = .ok (.ireturn, 1) := by decide +kernel
theorem dX4_who_0 : decode cX4_who 0 = .ok (.iload_n 1, 1) := by decide +kernel
theorem dX4_who_1 : decode cX4_who 1 = .ok (.iconst 1, 1) := by decide +kernel
theorem dX4_who_2 : decode cX4_who 2 = .ok (.invokestatic 91, 3) := by decide +kernel
theorem dX4_who_5 : decode cX4_who 5 = .ok (.ifCond .ne 5, 3) := by decide +kernel
theorem dX4_who_8 : decode cX4_who 8 = .ok (.iconst (-1), 1) := by decide +kernel
theorem dX4_who_9 : decode cX4_who 9 = .ok (.ireturn, 1) := by decide +kernel
theorem dX4_who_10 : decode cX4_who 10 = .ok (.iconst 0, 1) := by decide +kernel
theorem dX4_who_11 : decode cX4_who 11 = .ok (.istore_n 2, 1) := by decide +kernel
theorem dX4_who_12 : decode cX4_who 12 = .ok (.bipush (-4), 2) := by decide +kernel
theorem dX4_who_14 : decode cX4_who 14 = .ok (.istore_n 3, 1) := by decide +kernel
theorem dX4_who_15 : decode cX4_who 15 = .ok (.iconst 0, 1) := by decide +kernel
theorem dX4_who_16 : decode cX4_who 16 = .ok (.istore 4, 2) := by decide +kernel
theorem dX4_who_18 : decode cX4_who 18 = .ok (.iload 4, 2) := by decide +kernel
theorem dX4_who_20 : decode cX4_who 20 = .ok (.aload_n 0, 1) := by decide +kernel
theorem dX4_who_21 : decode cX4_who 21 = .ok (.getfield 19, 3) := by decide +kernel
theorem dX4_who_24 : decode cX4_who 24 = .ok (.invokevirtual 84, 3) := by decide +kernel
theorem dX4_who_27 : decode cX4_who 27 = .ok (.if_icmp .ge 102, 3) := by decide +kernel
theorem dX4_who_30 : decode cX4_who 30 = .ok (.iconst 0, 1) := by decide +kernel
theorem dX4_who_31 : decode cX4_who 31 = .ok (.istore 5, 2) := by decide +kernel
theorem dX4_who_33 : decode cX4_who 33 = .ok (.iload 5, 2) := by decide +kernel
theorem dX4_who_35 : decode cX4_who 35 = .ok (.aload_n 0, 1) := by decide +kernel
theorem dX4_who_36 : decode cX4_who 36 = .ok (.getfield 19, 3) := by decide +kernel
theorem dX4_who_39 : decode cX4_who 39 = .ok (.invokevirtual 84, 3) := by decide +kernel
theorem dX4_who_42 : decode cX4_who 42 = .ok (.if_icmp .ge 81, 3) := by decide +kernel
theorem dX4_who_45 : decode cX4_who 45 = .ok (.iconst 0, 1) := by decide +kernel
theorem dX4_who_46 : decode cX4_who 46 = .ok (.istore 6, 2) := by decide +kernel
theorem dX4_who_48 : decode cX4_who 48 = .ok (.iload 6, 2) := by decide +kernel
theorem dX4_who_50 : decode cX4_who 50 = .ok (.bipush 10, 2) := by decide +kernel
theorem dX4_who_52 : decode cX4_who 52 = .ok (.if_icmp .gt 65, 3) := by decide +kernel
theorem dX4_who_55 : decode cX4_who 55 = .ok (.iload 5, 2) := by decide +kernel
theorem dX4_who_57 : decode cX4_who 57 = .ok (.iload 4, 2) := by decide +kernel
theorem dX4_who_59 : decode cX4_who 59 = .ok (.if_icmp .eq 52, 3) := by decide +kernel
theorem dX4_who_62 : decode cX4_who 62 = .ok (.aload_n 0, 1) := by decide +kernel
theorem dX4_who_63 : decode cX4_who 63 = .ok (.getfield 41, 3) := by decide +kernel
theorem dX4_who_66 : decode cX4_who 66 = .ok (.aload_n 0, 1) := by decide +kernel
theorem dX4_who_67 : decode cX4_who 67 = .ok (.getfield 19, 3) := by decide +kernel
theorem dX4_who_70 : decode cX4_who 70 = .ok (.iload 4, 2) := by decide +kernel
theorem dX4_who_72 : decode cX4_who 72 = .ok (.iload 5, 2) := by decide +kernel
theorem dX4_who_74 : decode cX4_who 74 = .ok (.iload 6, 2) := by decide +kernel
theorem dX4_who_76 : decode cX4_who 76 = .ok (.invokevirtual 179, 3) := by decide +kernel
theorem dX4_who_79 : decode cX4_who 79 = .ok (.ifCond .eq 32, 3) := by decide +kernel
theorem dX4_who_82 : decode cX4_who 82 = .ok (.iinc 2 1, 3) := by decide +kernel
theorem dX4_who_85 : decode cX4_who 85 = .ok (.iload_n 3, 1) := by decide +kernel
theorem dX4_who_86 : decode cX4_who 86 = .ok (.bipush (-4), 2) := by decide +kernel
theorem dX4_who_88 : decode cX4_who 88 = .ok (.if_icmp .ne 21, 3) := by decide +kernel
theorem dX4_who_91 : decode cX4_who 91 = .ok (.sipush 1000, 3) := by decide +kernel
theorem dX4_who_94 : decode cX4_who 94 = .ok (.iload 4, 2) := by decide +kernel
theorem dX4_who_96 : decode cX4_who 96 = .ok (.imul, 1) := by decide +kernel
theorem dX4_who_97 : decode cX4_who 97 = .ok (.bipush 100, 2) := by decide +kernel
theorem dX4_who_99 : decode cX4_who 99 = .ok (.iload 5, 2) := by decide +kernel
theorem dX4_who_101 : decode cX4_who 101 = .ok (.imul, 1) := by decide +kernel
theorem dX4_who_102 : decode cX4_who 102 = .ok (.iadd, 1) := by decide +kernel
theorem dX4_who_103 : decode cX4_who 103 = .ok (.iload 6, 2) := by decide +kernel
theorem dX4_who_105 : decode cX4_who 105 = .ok (.iadd, 1) := by decide +kernel
theorem dX4_who_106 : decode cX4_who 106 = .ok (.goto 4, 3) := by decide +kernel
theorem dX4_who_109 : decode cX4_who 109 = .ok (.iload_n 3, 1) := by decide +kernel
theorem dX4_who_110 : decode cX4_who 110 = .ok (.istore_n 3, 1) := by decide +kernel
theorem dX4_who_111 : decode cX4_who 111 = .ok (.iinc 6 1, 3) := by decide +kernel
theorem dX4_who_114 : decode cX4_who 114 = .ok (.goto (-66), 3) := by decide +kernel
theorem dX4_who_117 : decode cX4_who 117 = .ok (.iinc 5 1, 3) := by decide +kernel
theorem dX4_who_120 : decode cX4_who 120 = .ok (.goto (-87), 3) := by decide +kernel
theorem dX4_who_123 : decode cX4_who 123 = .ok (.iinc 4 1, 3) := by decide +kernel
theorem dX4_who_126 : decode cX4_who 126 = .ok (.goto (-108), 3) := by decide +kernel
theorem dX4_who_129 : decode cX4_who 129 = .ok (.iload_n 1, 1) := by decide +kernel
theorem dX4_who_130 : decode cX4_who 130 = .ok (.ifCond .ne 7, 3) := by decide +kernel
theorem dX4_who_133 : decode cX4_who 133 = .ok (.iload_n 2, 1) := by decide +kernel
theorem dX4_who_134 : decode cX4_who 134 = .ok (.goto 4, 3) := by decide +kernel
theorem dX4_who_137 : decode cX4_who 137 = .ok (.iload_n 3, 1) := by decide +kernel
theorem dX4_who_138 : decode cX4_who 138 = .ok (.ireturn, 1) := by decide +kernel
theorem dX4_views_0 : decode cX4_views 0 = .ok (.aload_n 0, 1) := by decide +kernel
theorem dX4_views_1 : decode cX4_views 1 = .ok (.getfield 19, 3) := by decide +kernel
theorem dX4_views_4 : decode cX4_views 4 = .ok (.iload_n 1, 1) := by decide +kernel
theorem dX4_views_5 : decode cX4_views 5 = .ok (.invokevirtual 87, 3) := by decide +kernel
theorem dX4_views_8 : decode cX4_views 8 = .ok (.ifCond .eq 19, 3) := by decide +kernel
theorem dX4_views_11 : decode cX4_views 11 = .ok (.iload_n 2, 1) := by decide +kernel
theorem dX4_views_12 : decode cX4_views 12 = .ok (.invokestatic 102, 3) := by decide +kernel
theorem dX4_views_15 : decode cX4_views 15 = .ok (.ifCond .eq 12, 3) := by decide +kernel
theorem dX4_views_18 : decode cX4_views 18 = .ok (.iload_n 3, 1) := by decide +kernel
theorem dX4_views_19 : decode cX4_views 19 = .ok (.bipush 10, 2) := by decide +kernel
theorem dX4_views_21 : decode cX4_views 21 = .ok (.invokestatic 91, 3) := by decide +kernel
theorem dX4_views_24 : decode cX4_views 24 = .ok (.ifCond .ne 5, 3) := by decide +kernel
theorem dX4_views_27 : decode cX4_views 27 = .ok (.iconst (-1), 1) := by decide +kernel
theorem dX4_views_28 : decode cX4_views 28 = .ok (.ireturn, 1) := by decide +kernel
theorem dX4_views_29 : decode cX4_views 29 = .ok (.aload_n 0, 1) := by decide +kernel
theorem dX4_views_30 : decode cX4_views 30 = .ok (.getfield 23, 3) := by decide +kernel
theorem dX4_views_33 : decode cX4_views 33 = .ok (.aload_n 0, 1) := by decide +kernel
theorem dX4_views_34 : decode cX4_views 34 = .ok (.getfield 19, 3) := by decide +kernel
theorem dX4_views_37 : decode cX4_views 37 = .ok (.invokevirtual 78, 3) := by decide +kernel
theorem dX4_views_40 : decode cX4_views 40 = .ok (.iconst 0, 1) := by decide +kernel
theorem dX4_views_41 : decode cX4_views 41 = .ok (.istore 4, 2) := by decide +kernel
theorem dX4_views_43 : decode cX4_views 43 = .ok (.iconst 0, 1) := by decide +kernel
theorem dX4_views_44 : decode cX4_views 44 = .ok (.istore 5, 2) := by decide +kernel
theorem dX4_views_46 : decode cX4_views 46 = .ok (.iload 5, 2) := by decide +kernel
theorem dX4_views_48 : decode cX4_views 48 = .ok (.bipush 18, 2) := by decide +kernel
theorem dX4_views_50 : decode cX4_views 50 = .ok (.if_icmp .gt 56, 3) := by decide +kernel
theorem dX4_views_53 : decode cX4_views 53 = .ok (.aload_n 0, 1) := by decide +kernel
theorem dX4_views_54 : decode cX4_views 54 = .ok (.getfield 23, 3) := by decide +kernel
theorem dX4_views_57 : decode cX4_views 57 = .ok (.iload_n 1, 1) := by decide +kernel
theorem dX4_views_58 : decode cX4_views 58 = .ok (.iload_n 2, 1) := by decide +kernel
theorem dX4_views_59 : decode cX4_views 59 = .ok (.iload 5, 2) := by decide +kernel
theorem dX4_views_61 : decode cX4_views 61 = .ok (.bipush 9, 2) := by decide +kernel
theorem dX4_views_63 : decode cX4_views 63 = .ok (.isub, 1) := by decide +kernel
theorem dX4_views_64 : decode cX4_views 64 = .ok (.invokevirtual 135, 3) := by decide +kernel
theorem dX4_views_67 : decode cX4_views 67 = .ok (.aload_n 0, 1) := by decide +kernel
theorem dX4_views_68 : decode cX4_views 68 = .ok (.getfield 41, 3) := by decide +kernel
theorem dX4_views_71 : decode cX4_views 71 = .ok (.aload_n 0, 1) := by decide +kernel
theorem dX4_views_72 : decode cX4_views 72 = .ok (.getfield 23, 3) := by decide +kernel
theorem dX4_views_75 : decode cX4_views 75 = .ok (.iload_n 1, 1) := by decide +kernel
theorem dX4_views_76 : decode cX4_views 76 = .ok (.aload_n 0, 1) := by decide +kernel
theorem dX4_views_77 : decode cX4_views 77 = .ok (.getfield 23, 3) := by decide +kernel
theorem dX4_views_80 : decode cX4_views 80 = .ok (.iload_n 1, 1) := by decide +kernel
theorem dX4_views_81 : decode cX4_views 81 = .ok (.invokevirtual 99, 3) := by decide +kernel
theorem dX4_views_84 : decode cX4_views 84 = .ok (.iload_n 3, 1) := by decide +kernel
theorem dX4_views_85 : decode cX4_views 85 = .ok (.invokevirtual 179, 3) := by decide +kernel
theorem dX4_views_88 : decode cX4_views 88 = .ok (.ifCond .eq 12, 3) := by decide +kernel
theorem dX4_views_91 : decode cX4_views 91 = .ok (.iload 4, 2) := by decide +kernel
theorem dX4_views_93 : decode cX4_views 93 = .ok (.iconst 1, 1) := by decide +kernel
theorem dX4_views_94 : decode cX4_views 94 = .ok (.iload 5, 2) := by decide +kernel
theorem dX4_views_96 : decode cX4_views 96 = .ok (.ishl, 1) := by decide +kernel
theorem dX4_views_97 : decode cX4_views 97 = .ok (.ior, 1) := by decide +kernel
theorem dX4_views_98 : decode cX4_views 98 = .ok (.istore 4, 2) := by decide +kernel
theorem dX4_views_100 : decode cX4_views 100 = .ok (.iinc 5 1, 3) := by decide +kernel
theorem dX4_views_103 : decode cX4_views 103 = .ok (.goto (-57), 3) := by decide +kernel
theorem dX4_views_106 : decode cX4_views 106 = .ok (.iload 4, 2) := by decide +kernel
theorem dX4_views_108 : decode cX4_views 108 = .ok (.ireturn, 1) := by decide +kernel
theorem dX4_drops_0 : decode cX4_drops 0 = .ok (.aload_n 0, 1) := by decide +kernel
theorem dX4_drops_1 : decode cX4_drops 1 = .ok (.getfield 19, 3) := by decide +kernel
theorem dX4_drops_4 : decode cX4_drops 4 = .ok (.iload_n 1, 1) := by decide +kernel
theorem dX4_drops_5 : decode cX4_drops 5 = .ok (.invokevirtual 87, 3) := by decide +kernel
theorem dX4_drops_8 : decode cX4_drops 8 = .ok (.ifCond .eq 19, 3) := by decide +kernel
theorem dX4_drops_11 : decode cX4_drops 11 = .ok (.iload_n 2, 1) := by decide +kernel
theorem dX4_drops_12 : decode cX4_drops 12 = .ok (.invokestatic 102, 3) := by decide +kernel
theorem dX4_drops_15 : decode cX4_drops 15 = .ok (.ifCond .eq 12, 3) := by decide +kernel
theorem dX4_drops_18 : decode cX4_drops 18 = .ok (.iload_n 3, 1) := by decide +kernel
theorem dX4_drops_19 : decode cX4_drops 19 = .ok (.bipush 18, 2) := by decide +kernel
theorem dX4_drops_21 : decode cX4_drops 21 = .ok (.invokestatic 91, 3) := by decide +kernel
theorem dX4_drops_24 : decode cX4_drops 24 = .ok (.ifCond .ne 7, 3) := by decide +kernel
theorem dX4_drops_27 : decode cX4_drops 27 = .ok (.ldc2_w 183, 3) := by decide +kernel
theorem dX4_drops_30 : decode cX4_drops 30 = .ok (.lreturn, 1) := by decide +kernel
theorem dX4_drops_31 : decode cX4_drops 31 = .ok (.iload 4, 2) := by decide +kernel
theorem dX4_drops_33 : decode cX4_drops 33 = .ok (.bipush 10, 2) := by decide +kernel
theorem dX4_drops_35 : decode cX4_drops 35 = .ok (.invokestatic 91, 3) := by decide +kernel
theorem dX4_drops_38 : decode cX4_drops 38 = .ok (.ifCond .eq 12, 3) := by decide +kernel
theorem dX4_drops_41 : decode cX4_drops 41 = .ok (.iload 5, 2) := by decide +kernel
theorem dX4_drops_43 : decode cX4_drops 43 = .ok (.iconst 1, 1) := by decide +kernel
theorem dX4_drops_44 : decode cX4_drops 44 = .ok (.invokestatic 91, 3) := by decide +kernel
theorem dX4_drops_47 : decode cX4_drops 47 = .ok (.ifCond .ne 7, 3) := by decide +kernel
theorem dX4_drops_50 : decode cX4_drops 50 = .ok (.ldc2_w 183, 3) := by decide +kernel
theorem dX4_drops_53 : decode cX4_drops 53 = .ok (.lreturn, 1) := by decide +kernel
theorem dX4_drops_54 : decode cX4_drops 54 = .ok (.lconst 0, 1) := by decide +kernel
theorem dX4_drops_55 : decode cX4_drops 55 = .ok (.lstore 6, 2) := by decide +kernel
theorem dX4_drops_57 : decode cX4_drops 57 = .ok (.iconst 0, 1) := by decide +kernel
theorem dX4_drops_58 : decode cX4_drops 58 = .ok (.istore 8, 2) := by decide +kernel
theorem dX4_drops_60 : decode cX4_drops 60 = .ok (.iload 8, 2) := by decide +kernel
theorem dX4_drops_62 : decode cX4_drops 62 = .ok (.bipush 10, 2) := by decide +kernel
theorem dX4_drops_64 : decode cX4_drops 64 = .ok (.if_icmp .gt 39, 3) := by decide +kernel
theorem dX4_drops_67 : decode cX4_drops 67 = .ok (.aload_n 0, 1) := by decide +kernel
theorem dX4_drops_68 : decode cX4_drops 68 = .ok (.getfield 19, 3) := by decide +kernel
theorem dX4_drops_71 : decode cX4_drops 71 = .ok (.iload_n 1, 1) := by decide +kernel
theorem dX4_drops_72 : decode cX4_drops 72 = .ok (.iload_n 2, 1) := by decide +kernel
theorem dX4_drops_73 : decode cX4_drops 73 = .ok (.iload 8, 2) := by decide +kernel
theorem dX4_drops_75 : decode cX4_drops 75 = .ok (.invokevirtual 118, 3) := by decide +kernel
theorem dX4_drops_78 : decode cX4_drops 78 = .ok (.iload_n 3, 1) := by decide +kernel
theorem dX4_drops_79 : decode cX4_drops 79 = .ok (.bipush 9, 2) := by decide +kernel
theorem dX4_drops_81 : decode cX4_drops 81 = .ok (.isub, 1) := by decide +kernel
theorem dX4_drops_82 : decode cX4_drops 82 = .ok (.if_icmp .ne 15, 3) := by decide +kernel
theorem dX4_drops_85 : decode cX4_drops 85 = .ok (.lload 6, 2) := by decide +kernel
theorem dX4_drops_87 : decode cX4_drops 87 = .ok (.iload 8, 2) := by decide +kernel
theorem dX4_drops_89 : decode cX4_drops 89 = .ok (.iload 4, 2) := by decide +kernel
theorem dX4_drops_91 : decode cX4_drops 91 = .ok (.invokestatic 185, 3) := by decide +kernel
theorem dX4_drops_94 : decode cX4_drops 94 = .ok (.ladd, 1) := by decide +kernel
theorem dX4_drops_95 : decode cX4_drops 95 = .ok (.lstore 6, 2) := by decide +kernel
theorem dX4_drops_97 : decode cX4_drops 97 = .ok (.iinc 8 1, 3) := by decide +kernel
theorem dX4_drops_100 : decode cX4_drops 100 = .ok (.goto (-40), 3) := by decide +kernel
theorem dX4_drops_103 : decode cX4_drops 103 = .ok (.iload 5, 2) := by decide +kernel
theorem dX4_drops_105 : decode cX4_drops 105 = .ok (.ifCond .ne 8, 3) := by decide +kernel
theorem dX4_drops_108 : decode cX4_drops 108 = .ok (.lload 6, 2) := by decide +kernel
theorem dX4_drops_110 : decode cX4_drops 110 = .ok (.goto 6, 3) := by decide +kernel
theorem dX4_drops_113 : decode cX4_drops 113 = .ok (.ldc2_w 189, 3) := by decide +kernel
theorem dX4_drops_116 : decode cX4_drops 116 = .ok (.lstore 8, 2) := by decide +kernel
theorem dX4_drops_118 : decode cX4_drops 118 = .ok (.lload 6, 2) := by decide +kernel
theorem dX4_drops_120 : decode cX4_drops 120 = .ok (.ldc2_w 189, 3) := by decide +kernel
theorem dX4_drops_123 : decode cX4_drops 123 = .ok (.invokestatic 191, 3) := by decide +kernel
theorem dX4_drops_126 : decode cX4_drops 126 = .ok (.lstore 10, 2) := by decide +kernel
theorem dX4_drops_128 : decode cX4_drops 128 = .ok (.lload 10, 2) := by decide +kernel
theorem dX4_drops_130 : decode cX4_drops 130 = .ok (.lconst 0, 1) := by decide +kernel
theorem dX4_drops_131 : decode cX4_drops 131 = .ok (.lcmp, 1) := by decide +kernel
theorem dX4_drops_132 : decode cX4_drops 132 = .ok (.ifCond .le 11, 3) := by decide +kernel
theorem dX4_drops_135 : decode cX4_drops 135 = .ok (.lload 8, 2) := by decide +kernel
theorem dX4_drops_137 : decode cX4_drops 137 = .ok (.lload 10, 2) := by decide +kernel
theorem dX4_drops_139 : decode cX4_drops 139 = .ok (.ldiv, 1) := by decide +kernel
theorem dX4_drops_140 : decode cX4_drops 140 = .ok (.goto 5, 3) := by decide +kernel
theorem dX4_drops_143 : decode cX4_drops 143 = .ok (.lload 8, 2) := by decide +kernel
theorem dX4_drops_145 : decode cX4_drops 145 = .ok (.lreturn, 1) := by decide +kernel
theorem dX4_weeks_0 : decode cX4_weeks 0 = .ok (.iload_n 1, 1) := by decide +kernel
theorem dX4_weeks_1 : decode cX4_weeks 1 = .ok (.sipush 9999, 3) := by decide +kernel
theorem dX4_weeks_4 : decode cX4_weeks 4 = .ok (.invokestatic 91, 3) := by decide +kernel
theorem dX4_weeks_7 : decode cX4_weeks 7 = .ok (.ifCond .eq 22, 3) := by decide +kernel
theorem dX4_weeks_10 : decode cX4_weeks 10 = .ok (.iload_n 2, 1) := by decide +kernel
theorem dX4_weeks_11 : decode cX4_weeks 11 = .ok (.iconst 1, 1) := by decide +kernel
theorem dX4_weeks_12 : decode cX4_weeks 12 = .ok (.if_icmp .lt 17, 3) := by decide +kernel
theorem dX4_weeks_15 : decode cX4_weeks 15 = .ok (.iload_n 2, 1) := by decide +kernel
theorem dX4_weeks_16 : decode cX4_weeks 16 = .ok (.bipush 60, 2) := by decide +kernel
theorem dX4_weeks_18 : decode cX4_weeks 18 = .ok (.if_icmp .gt 11, 3) := by decide +kernel
theorem dX4_weeks_21 : decode cX4_weeks 21 = .ok (.iload_n 3, 1) := by decide +kernel
theorem dX4_weeks_22 : decode cX4_weeks 22 = .ok (.iconst 1, 1) := by decide +kernel
theorem dX4_weeks_23 : decode cX4_weeks 23 = .ok (.invokestatic 91, 3) := by decide +kernel
theorem dX4_weeks_26 : decode cX4_weeks 26 = .ok (.ifCond .ne 5, 3) := by decide +kernel
theorem dX4_weeks_29 : decode cX4_weeks 29 = .ok (.iconst (-1), 1) := by decide +kernel
theorem dX4_weeks_30 : decode cX4_weeks 30 = .ok (.ireturn, 1) := by decide +kernel
theorem dX4_weeks_31 : decode cX4_weeks 31 = .ok (.aload_n 0, 1) := by decide +kernel
theorem dX4_weeks_32 : decode cX4_weeks 32 = .ok (.getfield 23, 3) := by decide +kernel
theorem dX4_weeks_35 : decode cX4_weeks 35 = .ok (.aload_n 0, 1) := by decide +kernel
theorem dX4_weeks_36 : decode cX4_weeks 36 = .ok (.getfield 19, 3) := by decide +kernel
theorem dX4_weeks_39 : decode cX4_weeks 39 = .ok (.invokevirtual 78, 3) := by decide +kernel
theorem dX4_weeks_42 : decode cX4_weeks 42 = .ok (.iconst 0, 1) := by decide +kernel
theorem dX4_weeks_43 : decode cX4_weeks 43 = .ok (.istore 4, 2) := by decide +kernel
theorem dX4_weeks_45 : decode cX4_weeks 45 = .ok (.iload 4, 2) := by decide +kernel
theorem dX4_weeks_47 : decode cX4_weeks 47 = .ok (.iload_n 2, 1) := by decide +kernel
theorem dX4_weeks_48 : decode cX4_weeks 48 = .ok (.if_icmp .ge 80, 3) := by decide +kernel
theorem dX4_weeks_51 : decode cX4_weeks 51 = .ok (.iload_n 1, 1) := by decide +kernel
theorem dX4_weeks_52 : decode cX4_weeks 52 = .ok (.iload 4, 2) := by decide +kernel
theorem dX4_weeks_54 : decode cX4_weeks 54 = .ok (.invokestatic 195, 3) := by decide +kernel
theorem dX4_weeks_57 : decode cX4_weeks 57 = .ok (.istore 5, 2) := by decide +kernel
theorem dX4_weeks_59 : decode cX4_weeks 59 = .ok (.iload 5, 2) := by decide +kernel
theorem dX4_weeks_61 : decode cX4_weeks 61 = .ok (.bipush 8, 2) := by decide +kernel
theorem dX4_weeks_63 : decode cX4_weeks 63 = .ok (.idiv, 1) := by decide +kernel
theorem dX4_weeks_64 : decode cX4_weeks 64 = .ok (.iconst 5, 1) := by decide +kernel
theorem dX4_weeks_65 : decode cX4_weeks 65 = .ok (.irem, 1) := by decide +kernel
theorem dX4_weeks_66 : decode cX4_weeks 66 = .ok (.istore 6, 2) := by decide +kernel
theorem dX4_weeks_68 : decode cX4_weeks 68 = .ok (.aload_n 0, 1) := by decide +kernel
theorem dX4_weeks_69 : decode cX4_weeks 69 = .ok (.getfield 23, 3) := by decide +kernel
theorem dX4_weeks_72 : decode cX4_weeks 72 = .ok (.iload 5, 2) := by decide +kernel
theorem dX4_weeks_74 : decode cX4_weeks 74 = .ok (.aload_n 0, 1) := by decide +kernel
theorem dX4_weeks_75 : decode cX4_weeks 75 = .ok (.getfield 23, 3) := by decide +kernel
theorem dX4_weeks_78 : decode cX4_weeks 78 = .ok (.invokevirtual 84, 3) := by decide +kernel
theorem dX4_weeks_81 : decode cX4_weeks 81 = .ok (.invokestatic 151, 3) := by decide +kernel
theorem dX4_weeks_84 : decode cX4_weeks 84 = .ok (.iload 6, 2) := by decide +kernel
theorem dX4_weeks_86 : decode cX4_weeks 86 = .ok (.iload 5, 2) := by decide +kernel
theorem dX4_weeks_88 : decode cX4_weeks 88 = .ok (.bipush 64, 2) := by decide +kernel
theorem dX4_weeks_90 : decode cX4_weeks 90 = .ok (.idiv, 1) := by decide +kernel
theorem dX4_weeks_91 : decode cX4_weeks 91 = .ok (.bipush 11, 2) := by decide +kernel
theorem dX4_weeks_93 : decode cX4_weeks 93 = .ok (.irem, 1) := by decide +kernel
theorem dX4_weeks_94 : decode cX4_weeks 94 = .ok (.invokevirtual 118, 3) := by decide +kernel
theorem dX4_weeks_97 : decode cX4_weeks 97 = .ok (.istore 7, 2) := by decide +kernel
theorem dX4_weeks_99 : decode cX4_weeks 99 = .ok (.aload_n 0, 1) := by decide +kernel
theorem dX4_weeks_100 : decode cX4_weeks 100 = .ok (.getfield 23, 3) := by decide +kernel
theorem dX4_weeks_103 : decode cX4_weeks 103 = .ok (.iload 4, 2) := by decide +kernel
theorem dX4_weeks_105 : decode cX4_weeks 105 = .ok (.aload_n 0, 1) := by decide +kernel
theorem dX4_weeks_106 : decode cX4_weeks 106 = .ok (.getfield 23, 3) := by decide +kernel
theorem dX4_weeks_109 : decode cX4_weeks 109 = .ok (.invokevirtual 198, 3) := by decide +kernel
theorem dX4_weeks_112 : decode cX4_weeks 112 = .ok (.invokestatic 151, 3) := by decide +kernel
theorem dX4_weeks_115 : decode cX4_weeks 115 = .ok (.iload 6, 2) := by decide +kernel
theorem dX4_weeks_117 : decode cX4_weeks 117 = .ok (.iload 7, 2) := by decide +kernel
theorem dX4_weeks_119 : decode cX4_weeks 119 = .ok (.invokevirtual 125, 3) := by decide +kernel
theorem dX4_weeks_122 : decode cX4_weeks 122 = .ok (.iinc 4 1, 3) := by decide +kernel
theorem dX4_weeks_125 : decode cX4_weeks 125 = .ok (.goto (-80), 3) := by decide +kernel
theorem dX4_weeks_128 : decode cX4_weeks 128 = .ok (.iload_n 3, 1) := by decide +kernel
theorem dX4_weeks_129 : decode cX4_weeks 129 = .ok (.ifCond .ne 13, 3) := by decide +kernel
theorem dX4_weeks_132 : decode cX4_weeks 132 = .ok (.aload_n 0, 1) := by decide +kernel
theorem dX4_weeks_133 : decode cX4_weeks 133 = .ok (.getfield 23, 3) := by decide +kernel
theorem dX4_weeks_136 : decode cX4_weeks 136 = .ok (.invokevirtual 201, 3) := by decide +kernel
theorem dX4_weeks_139 : decode cX4_weeks 139 = .ok (.goto 14, 3) := by decide +kernel
theorem dX4_weeks_142 : decode cX4_weeks 142 = .ok (.aload_n 0, 1) := by decide +kernel
theorem dX4_weeks_143 : decode cX4_weeks 143 = .ok (.getfield 23, 3) := by decide +kernel
theorem dX4_weeks_146 : decode cX4_weeks 146 = .ok (.invokevirtual 204, 3) := by decide +kernel
theorem dX4_weeks_149 : decode cX4_weeks 149 = .ok (.sipush 500, 3) := by decide +kernel
theorem dX4_weeks_152 : decode cX4_weeks 152 = .ok (.iadd, 1) := by decide +kernel
theorem dX4_weeks_153 : decode cX4_weeks 153 = .ok (.ireturn, 1) := by decide +kernel
theorem dX4_keep_0 : decode cX4_keep 0 = .ok (.aload_n 0, 1) := by decide +kernel
theorem dX4_keep_1 : decode cX4_keep 1 = .ok (.getfield 35, 3) := by decide +kernel
theorem dX4_keep_4 : decode cX4_keep 4 = .ok (.invokevirtual 146, 3) := by decide +kernel
theorem dX4_keep_7 : decode cX4_keep 7 = .ok (.iconst 2, 1) := by decide +kernel
theorem dX4_keep_8 : decode cX4_keep 8 = .ok (.if_icmp .lt 6, 3) := by decide +kernel
theorem dX4_keep_11 : decode cX4_keep 11 = .ok (.bipush (-3), 2) := by decide +kernel
theorem dX4_keep_13 : decode cX4_keep 13 = .ok (.ireturn, 1) := by decide +kernel
theorem dX4_keep_14 : decode cX4_keep 14 = .ok (.aload_n 0, 1) := by decide +kernel
theorem dX4_keep_15 : decode cX4_keep 15 = .ok (.getfield 35, 3) := by decide +kernel
theorem dX4_keep_18 : decode cX4_keep 18 = .ok (.aload_n 0, 1) := by decide +kernel
theorem dX4_keep_19 : decode cX4_keep 19 = .ok (.getfield 19, 3) := by decide +kernel
theorem dX4_keep_22 : decode cX4_keep 22 = .ok (.invokevirtual 122, 3) := by decide +kernel
theorem dX4_keep_25 : decode cX4_keep 25 = .ok (.aload_n 0, 1) := by decide +kernel
theorem dX4_keep_26 : decode cX4_keep 26 = .ok (.getfield 35, 3) := by decide +kernel
theorem dX4_keep_29 : decode cX4_keep 29 = .ok (.invokevirtual 146, 3) := by decide +kernel
theorem dX4_keep_32 : decode cX4_keep 32 = .ok (.ireturn, 1) := by decide +kernel
theorem dX4_back_0 : decode cX4_back 0 = .ok (.aload_n 0, 1) := by decide +kernel
theorem dX4_back_1 : decode cX4_back 1 = .ok (.getfield 35, 3) := by decide +kernel
theorem dX4_back_4 : decode cX4_back 4 = .ok (.aload_n 0, 1) := by decide +kernel
theorem dX4_back_5 : decode cX4_back 5 = .ok (.getfield 19, 3) := by decide +kernel
theorem dX4_back_8 : decode cX4_back 8 = .ok (.invokevirtual 142, 3) := by decide +kernel
theorem dX4_back_11 : decode cX4_back 11 = .ok (.ifCond .ne 6, 3) := by decide +kernel
theorem dX4_back_14 : decode cX4_back 14 = .ok (.bipush (-2), 2) := by decide +kernel
theorem dX4_back_16 : decode cX4_back 16 = .ok (.ireturn, 1) := by decide +kernel
theorem dX4_back_17 : decode cX4_back 17 = .ok (.aload_n 0, 1) := by decide +kernel
theorem dX4_back_18 : decode cX4_back 18 = .ok (.getfield 31, 3) := by decide +kernel
theorem dX4_back_21 : decode cX4_back 21 = .ok (.invokevirtual 83, 3) := by decide +kernel
theorem dX4_back_24 : decode cX4_back 24 = .ok (.aload_n 0, 1) := by decide +kernel
theorem dX4_back_25 : decode cX4_back 25 = .ok (.getfield 35, 3) := by decide +kernel
theorem dX4_back_28 : decode cX4_back 28 = .ok (.invokevirtual 146, 3) := by decide +kernel
theorem dX4_back_31 : decode cX4_back 31 = .ok (.ireturn, 1) := by decide +kernel
theorem dX4_count_0 : decode cX4_count 0 = .ok (.iload_n 1, 1) := by decide +kernel
theorem dX4_count_1 : decode cX4_count 1 = .ok (.tableswitch 99 0 6 #[43, 51, 59, 67, 75, 83, 91], 43) := by decide +kernel
theorem dX4_count_44 : decode cX4_count 44 = .ok (.aload_n 0, 1) := by decide +kernel
theorem dX4_count_45 : decode cX4_count 45 = .ok (.getfield 19, 3) := by decide +kernel
theorem dX4_count_48 : decode cX4_count 48 = .ok (.invokevirtual 84, 3) := by decide +kernel
theorem dX4_count_51 : decode cX4_count 51 = .ok (.ireturn, 1) := by decide +kernel
theorem dX4_count_52 : decode cX4_count 52 = .ok (.aload_n 0, 1) := by decide +kernel
theorem dX4_count_53 : decode cX4_count 53 = .ok (.getfield 19, 3) := by decide +kernel
theorem dX4_count_56 : decode cX4_count 56 = .ok (.invokevirtual 198, 3) := by decide +kernel
theorem dX4_count_59 : decode cX4_count 59 = .ok (.ireturn, 1) := by decide +kernel
theorem dX4_count_60 : decode cX4_count 60 = .ok (.aload_n 0, 1) := by decide +kernel
theorem dX4_count_61 : decode cX4_count 61 = .ok (.getfield 19, 3) := by decide +kernel
theorem dX4_count_64 : decode cX4_count 64 = .ok (.invokevirtual 201, 3) := by decide +kernel
theorem dX4_count_67 : decode cX4_count 67 = .ok (.ireturn, 1) := by decide +kernel
theorem dX4_count_68 : decode cX4_count 68 = .ok (.aload_n 0, 1) := by decide +kernel
theorem dX4_count_69 : decode cX4_count 69 = .ok (.getfield 41, 3) := by decide +kernel
theorem dX4_count_72 : decode cX4_count 72 = .ok (.invokevirtual 175, 3) := by decide +kernel
theorem dX4_count_75 : decode cX4_count 75 = .ok (.ireturn, 1) := by decide +kernel
theorem dX4_count_76 : decode cX4_count 76 = .ok (.aload_n 0, 1) := by decide +kernel
theorem dX4_count_77 : decode cX4_count 77 = .ok (.getfield 31, 3) := by decide +kernel
theorem dX4_count_80 : decode cX4_count 80 = .ok (.invokevirtual 146, 3) := by decide +kernel
theorem dX4_count_83 : decode cX4_count 83 = .ok (.ireturn, 1) := by decide +kernel
theorem dX4_count_84 : decode cX4_count 84 = .ok (.aload_n 0, 1) := by decide +kernel
theorem dX4_count_85 : decode cX4_count 85 = .ok (.getfield 35, 3) := by decide +kernel
theorem dX4_count_88 : decode cX4_count 88 = .ok (.invokevirtual 146, 3) := by decide +kernel
theorem dX4_count_91 : decode cX4_count 91 = .ok (.ireturn, 1) := by decide +kernel
theorem dX4_count_92 : decode cX4_count 92 = .ok (.aload_n 0, 1) := by decide +kernel
theorem dX4_count_93 : decode cX4_count 93 = .ok (.getfield 10, 3) := by decide +kernel
theorem dX4_count_96 : decode cX4_count 96 = .ok (.invokevirtual 71, 3) := by decide +kernel
theorem dX4_count_99 : decode cX4_count 99 = .ok (.ireturn, 1) := by decide +kernel
theorem dX4_count_100 : decode cX4_count 100 = .ok (.iconst (-1), 1) := by decide +kernel
theorem dX4_count_101 : decode cX4_count 101 = .ok (.ireturn, 1) := by decide +kernel
theorem dX4_firstSeen_0 : decode cX4_firstSeen 0 = .ok (.iconst 0, 1) := by decide +kernel
theorem dX4_firstSeen_1 : decode cX4_firstSeen 1 = .ok (.istore_n 3, 1) := by decide +kernel
theorem dX4_firstSeen_2 : decode cX4_firstSeen 2 = .ok (.iload_n 3, 1) := by decide +kernel
theorem dX4_firstSeen_3 : decode cX4_firstSeen 3 = .ok (.iload_n 2, 1) := by decide +kernel
theorem dX4_firstSeen_4 : decode cX4_firstSeen 4 = .ok (.if_icmp .ge 23, 3) := by decide +kernel
theorem dX4_firstSeen_7 : decode cX4_firstSeen 7 = .ok (.aload_n 0, 1) := by decide +kernel
theorem dX4_firstSeen_8 : decode cX4_firstSeen 8 = .ok (.getfield 45, 3) := by decide +kernel
theorem dX4_firstSeen_11 : decode cX4_firstSeen 11 = .ok (.iload_n 3, 1) := by decide +kernel
theorem dX4_firstSeen_12 : decode cX4_firstSeen 12 = .ok (.invokestatic 207, 3) := by decide +kernel
theorem dX4_firstSeen_15 : decode cX4_firstSeen 15 = .ok (.iload_n 1, 1) := by decide +kernel
theorem dX4_firstSeen_16 : decode cX4_firstSeen 16 = .ok (.if_icmp .ne 5, 3) := by decide +kernel
theorem dX4_firstSeen_19 : decode cX4_firstSeen 19 = .ok (.iload_n 3, 1) := by decide +kernel
theorem dX4_firstSeen_20 : decode cX4_firstSeen 20 = .ok (.ireturn, 1) := by decide +kernel
theorem dX4_firstSeen_21 : decode cX4_firstSeen 21 = .ok (.iinc 3 1, 3) := by decide +kernel
theorem dX4_firstSeen_24 : decode cX4_firstSeen 24 = .ok (.goto (-22), 3) := by decide +kernel
theorem dX4_firstSeen_27 : decode cX4_firstSeen 27 = .ok (.iload_n 2, 1) := by decide +kernel
theorem dX4_firstSeen_28 : decode cX4_firstSeen 28 = .ok (.ireturn, 1) := by decide +kernel
theorem dX4_isUpTo_0 : decode cX4_isUpTo 0 = .ok (.iload_n 0, 1) := by decide +kernel
theorem dX4_isUpTo_1 : decode cX4_isUpTo 1 = .ok (.ifCond .lt 12, 3) := by decide +kernel
theorem dX4_isUpTo_4 : decode cX4_isUpTo 4 = .ok (.iload_n 0, 1) := by decide +kernel
theorem dX4_isUpTo_5 : decode cX4_isUpTo 5 = .ok (.iload_n 1, 1) := by decide +kernel
theorem dX4_isUpTo_6 : decode cX4_isUpTo 6 = .ok (.if_icmp .gt 7, 3) := by decide +kernel
theorem dX4_isUpTo_9 : decode cX4_isUpTo 9 = .ok (.iconst 1, 1) := by decide +kernel
theorem dX4_isUpTo_10 : decode cX4_isUpTo 10 = .ok (.goto 4, 3) := by decide +kernel
theorem dX4_isUpTo_13 : decode cX4_isUpTo 13 = .ok (.iconst 0, 1) := by decide +kernel
theorem dX4_isUpTo_14 : decode cX4_isUpTo 14 = .ok (.ireturn, 1) := by decide +kernel
theorem dX4_isTheme_0 : decode cX4_isTheme 0 = .ok (.iload_n 0, 1) := by decide +kernel
theorem dX4_isTheme_1 : decode cX4_isTheme 1 = .ok (.ifCond .lt 12, 3) := by decide +kernel
theorem dX4_isTheme_4 : decode cX4_isTheme 4 = .ok (.iload_n 0, 1) := by decide +kernel
theorem dX4_isTheme_5 : decode cX4_isTheme 5 = .ok (.iconst 5, 1) := by decide +kernel
theorem dX4_isTheme_6 : decode cX4_isTheme 6 = .ok (.if_icmp .ge 7, 3) := by decide +kernel
theorem dX4_isTheme_9 : decode cX4_isTheme 9 = .ok (.iconst 1, 1) := by decide +kernel
theorem dX4_isTheme_10 : decode cX4_isTheme 10 = .ok (.goto 4, 3) := by decide +kernel
theorem dX4_isTheme_13 : decode cX4_isTheme 13 = .ok (.iconst 0, 1) := by decide +kernel
theorem dX4_isTheme_14 : decode cX4_isTheme 14 = .ok (.ireturn, 1) := by decide +kernel
theorem dX4_told_0 : decode cX4_told 0 = .ok (.iload_n 0, 1) := by decide +kernel
theorem dX4_told_1 : decode cX4_told 1 = .ok (.bipush 100, 2) := by decide +kernel
theorem dX4_told_3 : decode cX4_told 3 = .ok (.if_icmp .ne 8, 3) := by decide +kernel
theorem dX4_told_6 : decode cX4_told 6 = .ok (.bipush (-4), 2) := by decide +kernel
theorem dX4_told_8 : decode cX4_told 8 = .ok (.goto 7, 3) := by decide +kernel
theorem dX4_told_11 : decode cX4_told 11 = .ok (.iload_n 0, 1) := by decide +kernel
theorem dX4_told_12 : decode cX4_told 12 = .ok (.bipush 9, 2) := by decide +kernel
theorem dX4_told_14 : decode cX4_told 14 = .ok (.iadd, 1) := by decide +kernel
theorem dX4_told_15 : decode cX4_told 15 = .ok (.ireturn, 1) := by decide +kernel
theorem dX4_at_0 : decode cX4_at 0 = .ok (.iload_n 1, 1) := by decide +kernel
theorem dX4_at_1 : decode cX4_at 1 = .ok (.ifCond .lt 15, 3) := by decide +kernel
theorem dX4_at_4 : decode cX4_at 4 = .ok (.iload_n 1, 1) := by decide +kernel
theorem dX4_at_5 : decode cX4_at 5 = .ok (.aload_n 0, 1) := by decide +kernel
theorem dX4_at_6 : decode cX4_at 6 = .ok (.arraylength, 1) := by decide +kernel
theorem dX4_at_7 : decode cX4_at 7 = .ok (.if_icmp .ge 9, 3) := by decide +kernel
theorem dX4_at_10 : decode cX4_at 10 = .ok (.aload_n 0, 1) := by decide +kernel
theorem dX4_at_11 : decode cX4_at 11 = .ok (.iload_n 1, 1) := by decide +kernel
theorem dX4_at_12 : decode cX4_at 12 = .ok (.iaload, 1) := by decide +kernel
theorem dX4_at_13 : decode cX4_at 13 = .ok (.goto 4, 3) := by decide +kernel
theorem dX4_at_16 : decode cX4_at 16 = .ok (.iconst 0, 1) := by decide +kernel
theorem dX4_at_17 : decode cX4_at 17 = .ok (.ireturn, 1) := by decide +kernel
theorem dX4_put_0 : decode cX4_put 0 = .ok (.iload_n 1, 1) := by decide +kernel
theorem dX4_put_1 : decode cX4_put 1 = .ok (.ifCond .lt 13, 3) := by decide +kernel
theorem dX4_put_4 : decode cX4_put 4 = .ok (.iload_n 1, 1) := by decide +kernel
theorem dX4_put_5 : decode cX4_put 5 = .ok (.aload_n 0, 1) := by decide +kernel
theorem dX4_put_6 : decode cX4_put 6 = .ok (.arraylength, 1) := by decide +kernel
theorem dX4_put_7 : decode cX4_put 7 = .ok (.if_icmp .ge 7, 3) := by decide +kernel
theorem dX4_put_10 : decode cX4_put 10 = .ok (.aload_n 0, 1) := by decide +kernel
theorem dX4_put_11 : decode cX4_put 11 = .ok (.iload_n 1, 1) := by decide +kernel
theorem dX4_put_12 : decode cX4_put 12 = .ok (.iload_n 2, 1) := by decide +kernel
theorem dX4_put_13 : decode cX4_put 13 = .ok (.iastore, 1) := by decide +kernel
theorem dX4_put_14 : decode cX4_put 14 = .ok (.return_, 1) := by decide +kernel
theorem dX4_remainder_0 : decode cX4_remainder 0 = .ok (.iload_n 1, 1) := by decide +kernel
theorem dX4_remainder_1 : decode cX4_remainder 1 = .ok (.ifCond .le 9, 3) := by decide +kernel
theorem dX4_remainder_4 : decode cX4_remainder 4 = .ok (.iload_n 0, 1) := by decide +kernel
theorem dX4_remainder_5 : decode cX4_remainder 5 = .ok (.iload_n 1, 1) := by decide +kernel
theorem dX4_remainder_6 : decode cX4_remainder 6 = .ok (.irem, 1) := by decide +kernel
theorem dX4_remainder_7 : decode cX4_remainder 7 = .ok (.goto 4, 3) := by decide +kernel
theorem dX4_remainder_10 : decode cX4_remainder 10 = .ok (.iconst 0, 1) := by decide +kernel
theorem dX4_remainder_11 : decode cX4_remainder 11 = .ok (.ireturn, 1) := by decide +kernel
theorem dX4_drawOf_0 : decode cX4_drawOf 0 = .ok (.ldc2_w 211, 3) := by decide +kernel
theorem dX4_drawOf_3 : decode cX4_drawOf 3 = .ok (.iload_n 0, 1) := by decide +kernel
theorem dX4_drawOf_4 : decode cX4_drawOf 4 = .ok (.i2l, 1) := by decide +kernel
theorem dX4_drawOf_5 : decode cX4_drawOf 5 = .ok (.lmul, 1) := by decide +kernel
theorem dX4_drawOf_6 : decode cX4_drawOf 6 = .ok (.ldc2_w 213, 3) := by decide +kernel
theorem dX4_drawOf_9 : decode cX4_drawOf 9 = .ok (.iload_n 1, 1) := by decide +kernel
theorem dX4_drawOf_10 : decode cX4_drawOf 10 = .ok (.i2l, 1) := by decide +kernel
theorem dX4_drawOf_11 : decode cX4_drawOf 11 = .ok (.lmul, 1) := by decide +kernel
theorem dX4_drawOf_12 : decode cX4_drawOf 12 = .ok (.ladd, 1) := by decide +kernel
theorem dX4_drawOf_13 : decode cX4_drawOf 13 = .ok (.lconst 1, 1) := by decide +kernel
theorem dX4_drawOf_14 : decode cX4_drawOf 14 = .ok (.ladd, 1) := by decide +kernel
theorem dX4_drawOf_15 : decode cX4_drawOf 15 = .ok (.lstore_n 2, 1) := by decide +kernel
theorem dX4_drawOf_16 : decode cX4_drawOf 16 = .ok (.lload_n 2, 1) := by decide +kernel
theorem dX4_drawOf_17 : decode cX4_drawOf 17 = .ok (.lload_n 2, 1) := by decide +kernel
theorem dX4_drawOf_18 : decode cX4_drawOf 18 = .ok (.lmul, 1) := by decide +kernel
theorem dX4_drawOf_19 : decode cX4_drawOf 19 = .ok (.ldc2_w 215, 3) := by decide +kernel
theorem dX4_drawOf_22 : decode cX4_drawOf 22 = .ok (.lrem, 1) := by decide +kernel
theorem dX4_drawOf_23 : decode cX4_drawOf 23 = .ok (.ldc2_w 217, 3) := by decide +kernel
theorem dX4_drawOf_26 : decode cX4_drawOf 26 = .ok (.ldiv, 1) := by decide +kernel
theorem dX4_drawOf_27 : decode cX4_drawOf 27 = .ok (.l2i, 1) := by decide +kernel
theorem dX4_drawOf_28 : decode cX4_drawOf 28 = .ok (.ireturn, 1) := by decide +kernel
theorem dX4_waysOfTears_0 : decode cX4_waysOfTears 0 = .ok (.iload_n 0, 1) := by decide +kernel
theorem dX4_waysOfTears_1 : decode cX4_waysOfTears 1 = .ok (.ifCond .lt 19, 3) := by decide +kernel
theorem dX4_waysOfTears_4 : decode cX4_waysOfTears 4 = .ok (.iload_n 0, 1) := by decide +kernel
theorem dX4_waysOfTears_5 : decode cX4_waysOfTears 5 = .ok (.getstatic 219, 3) := by decide +kernel
theorem dX4_waysOfTears_8 : decode cX4_waysOfTears 8 = .ok (.arraylength, 1) := by decide +kernel
theorem dX4_waysOfTears_9 : decode cX4_waysOfTears 9 = .ok (.if_icmp .ge 11, 3) := by decide +kernel
theorem dX4_waysOfTears_12 : decode cX4_waysOfTears 12 = .ok (.getstatic 219, 3) := by decide +kernel
theorem dX4_waysOfTears_15 : decode cX4_waysOfTears 15 = .ok (.iload_n 0, 1) := by decide +kernel
theorem dX4_waysOfTears_16 : decode cX4_waysOfTears 16 = .ok (.laload, 1) := by decide +kernel
theorem dX4_waysOfTears_17 : decode cX4_waysOfTears 17 = .ok (.goto 4, 3) := by decide +kernel
theorem dX4_waysOfTears_20 : decode cX4_waysOfTears 20 = .ok (.lconst 0, 1) := by decide +kernel
theorem dX4_waysOfTears_21 : decode cX4_waysOfTears 21 = .ok (.lstore_n 2, 1) := by decide +kernel
theorem dX4_waysOfTears_22 : decode cX4_waysOfTears 22 = .ok (.iconst 0, 1) := by decide +kernel
theorem dX4_waysOfTears_23 : decode cX4_waysOfTears 23 = .ok (.istore 4, 2) := by decide +kernel
theorem dX4_waysOfTears_25 : decode cX4_waysOfTears 25 = .ok (.iload 4, 2) := by decide +kernel
theorem dX4_waysOfTears_27 : decode cX4_waysOfTears 27 = .ok (.bipush 10, 2) := by decide +kernel
theorem dX4_waysOfTears_29 : decode cX4_waysOfTears 29 = .ok (.if_icmp .ge 28, 3) := by decide +kernel
theorem dX4_waysOfTears_32 : decode cX4_waysOfTears 32 = .ok (.lload_n 2, 1) := by decide +kernel
theorem dX4_waysOfTears_33 : decode cX4_waysOfTears 33 = .ok (.iload 4, 2) := by decide +kernel
theorem dX4_waysOfTears_35 : decode cX4_waysOfTears 35 = .ok (.iload_n 0, 1) := by decide +kernel
theorem dX4_waysOfTears_36 : decode cX4_waysOfTears 36 = .ok (.if_icmp .ge 8, 3) := by decide +kernel
theorem dX4_waysOfTears_39 : decode cX4_waysOfTears 39 = .ok (.iload_n 1, 1) := by decide +kernel
theorem dX4_waysOfTears_40 : decode cX4_waysOfTears 40 = .ok (.i2l, 1) := by decide +kernel
theorem dX4_waysOfTears_41 : decode cX4_waysOfTears 41 = .ok (.goto 8, 3) := by decide +kernel
theorem dX4_waysOfTears_44 : decode cX4_waysOfTears 44 = .ok (.bipush 10, 2) := by decide +kernel
theorem dX4_waysOfTears_46 : decode cX4_waysOfTears 46 = .ok (.iload_n 1, 1) := by decide +kernel
theorem dX4_waysOfTears_47 : decode cX4_waysOfTears 47 = .ok (.isub, 1) := by decide +kernel
theorem dX4_waysOfTears_48 : decode cX4_waysOfTears 48 = .ok (.i2l, 1) := by decide +kernel
theorem dX4_waysOfTears_49 : decode cX4_waysOfTears 49 = .ok (.lmul, 1) := by decide +kernel
theorem dX4_waysOfTears_50 : decode cX4_waysOfTears 50 = .ok (.lstore_n 2, 1) := by decide +kernel
theorem dX4_waysOfTears_51 : decode cX4_waysOfTears 51 = .ok (.iinc 4 1, 3) := by decide +kernel
theorem dX4_waysOfTears_54 : decode cX4_waysOfTears 54 = .ok (.goto (-29), 3) := by decide +kernel
theorem dX4_waysOfTears_57 : decode cX4_waysOfTears 57 = .ok (.lload_n 2, 1) := by decide +kernel
theorem dX4_waysOfTears_58 : decode cX4_waysOfTears 58 = .ok (.lreturn, 1) := by decide +kernel
theorem dX4_greatestDivisor_0 : decode cX4_greatestDivisor 0 = .ok (.lload_n 2, 1) := by decide +kernel
theorem dX4_greatestDivisor_1 : decode cX4_greatestDivisor 1 = .ok (.lstore 4, 2) := by decide +kernel
theorem dX4_greatestDivisor_3 : decode cX4_greatestDivisor 3 = .ok (.lload_n 0, 1) := by decide +kernel
theorem dX4_greatestDivisor_4 : decode cX4_greatestDivisor 4 = .ok (.lstore 6, 2) := by decide +kernel
theorem dX4_greatestDivisor_6 : decode cX4_greatestDivisor 6 = .ok (.iconst 0, 1) := by decide +kernel
theorem dX4_greatestDivisor_7 : decode cX4_greatestDivisor 7 = .ok (.istore 8, 2) := by decide +kernel
theorem dX4_greatestDivisor_9 : decode cX4_greatestDivisor 9 = .ok (.iload 8, 2) := by decide +kernel
theorem dX4_greatestDivisor_11 : decode cX4_greatestDivisor 11 = .ok (.bipush 100, 2) := by decide +kernel
theorem dX4_greatestDivisor_13 : decode cX4_greatestDivisor 13 = .ok (.if_icmp .ge 31, 3) := by decide +kernel
theorem dX4_greatestDivisor_16 : decode cX4_greatestDivisor 16 = .ok (.lload 6, 2) := by decide +kernel
theorem dX4_greatestDivisor_18 : decode cX4_greatestDivisor 18 = .ok (.lconst 0, 1) := by decide +kernel
theorem dX4_greatestDivisor_19 : decode cX4_greatestDivisor 19 = .ok (.lcmp, 1) := by decide +kernel
theorem dX4_greatestDivisor_20 : decode cX4_greatestDivisor 20 = .ok (.ifCond .eq 24, 3) := by decide +kernel
theorem dX4_greatestDivisor_23 : decode cX4_greatestDivisor 23 = .ok (.lload 4, 2) := by decide +kernel
theorem dX4_greatestDivisor_25 : decode cX4_greatestDivisor 25 = .ok (.lload 6, 2) := by decide +kernel
theorem dX4_greatestDivisor_27 : decode cX4_greatestDivisor 27 = .ok (.lrem, 1) := by decide +kernel
theorem dX4_greatestDivisor_28 : decode cX4_greatestDivisor 28 = .ok (.lstore 9, 2) := by decide +kernel
theorem dX4_greatestDivisor_30 : decode cX4_greatestDivisor 30 = .ok (.lload 6, 2) := by decide +kernel
theorem dX4_greatestDivisor_32 : decode cX4_greatestDivisor 32 = .ok (.lstore 4, 2) := by decide +kernel
theorem dX4_greatestDivisor_34 : decode cX4_greatestDivisor 34 = .ok (.lload 9, 2) := by decide +kernel
theorem dX4_greatestDivisor_36 : decode cX4_greatestDivisor 36 = .ok (.lstore 6, 2) := by decide +kernel
theorem dX4_greatestDivisor_38 : decode cX4_greatestDivisor 38 = .ok (.iinc 8 1, 3) := by decide +kernel
theorem dX4_greatestDivisor_41 : decode cX4_greatestDivisor 41 = .ok (.goto (-32), 3) := by decide +kernel
theorem dX4_greatestDivisor_44 : decode cX4_greatestDivisor 44 = .ok (.lload 4, 2) := by decide +kernel
theorem dX4_greatestDivisor_46 : decode cX4_greatestDivisor 46 = .ok (.lreturn, 1) := by decide +kernel
theorem dX4_inked_0 : decode cX4_inked 0 = .ok (.iload_n 0, 1) := by decide +kernel
theorem dX4_inked_1 : decode cX4_inked 1 = .ok (.tableswitch 46 1 4 #[31, 33, 41, 43], 31) := by decide +kernel
theorem dX4_inked_32 : decode cX4_inked 32 = .ok (.iload_n 1, 1) := by decide +kernel
theorem dX4_inked_33 : decode cX4_inked 33 = .ok (.ireturn, 1) := by decide +kernel
theorem dX4_inked_34 : decode cX4_inked 34 = .ok (.iload_n 1, 1) := by decide +kernel
theorem dX4_inked_35 : decode cX4_inked 35 = .ok (.ineg, 1) := by decide +kernel
theorem dX4_inked_36 : decode cX4_inked 36 = .ok (.iload_n 2, 1) := by decide +kernel
theorem dX4_inked_37 : decode cX4_inked 37 = .ok (.iload_n 3, 1) := by decide +kernel
theorem dX4_inked_38 : decode cX4_inked 38 = .ok (.invokestatic 223, 3) := by decide +kernel
theorem dX4_inked_41 : decode cX4_inked 41 = .ok (.ireturn, 1) := by decide +kernel
theorem dX4_inked_42 : decode cX4_inked 42 = .ok (.iconst 0, 1) := by decide +kernel
theorem dX4_inked_43 : decode cX4_inked 43 = .ok (.ireturn, 1) := by decide +kernel
theorem dX4_inked_44 : decode cX4_inked 44 = .ok (.bipush 9, 2) := by decide +kernel
theorem dX4_inked_46 : decode cX4_inked 46 = .ok (.ireturn, 1) := by decide +kernel
theorem dX4_inked_47 : decode cX4_inked 47 = .ok (.iload_n 1, 1) := by decide +kernel
theorem dX4_inked_48 : decode cX4_inked 48 = .ok (.iload_n 2, 1) := by decide +kernel
theorem dX4_inked_49 : decode cX4_inked 49 = .ok (.iload_n 3, 1) := by decide +kernel
theorem dX4_inked_50 : decode cX4_inked 50 = .ok (.invokestatic 223, 3) := by decide +kernel
theorem dX4_inked_53 : decode cX4_inked 53 = .ok (.ireturn, 1) := by decide +kernel
theorem dX4_mixed_0 : decode cX4_mixed 0 = .ok (.bipush 10, 2) := by decide +kernel
theorem dX4_mixed_2 : decode cX4_mixed 2 = .ok (.iload_n 2, 1) := by decide +kernel
theorem dX4_mixed_3 : decode cX4_mixed 3 = .ok (.isub, 1) := by decide +kernel
theorem dX4_mixed_4 : decode cX4_mixed 4 = .ok (.iload_n 0, 1) := by decide +kernel
theorem dX4_mixed_5 : decode cX4_mixed 5 = .ok (.imul, 1) := by decide +kernel
theorem dX4_mixed_6 : decode cX4_mixed 6 = .ok (.iload_n 2, 1) := by decide +kernel
theorem dX4_mixed_7 : decode cX4_mixed 7 = .ok (.iload_n 1, 1) := by decide +kernel
theorem dX4_mixed_8 : decode cX4_mixed 8 = .ok (.imul, 1) := by decide +kernel
theorem dX4_mixed_9 : decode cX4_mixed 9 = .ok (.iadd, 1) := by decide +kernel
theorem dX4_mixed_10 : decode cX4_mixed 10 = .ok (.bipush 10, 2) := by decide +kernel
theorem dX4_mixed_12 : decode cX4_mixed 12 = .ok (.idiv, 1) := by decide +kernel
theorem dX4_mixed_13 : decode cX4_mixed 13 = .ok (.ireturn, 1) := by decide +kernel
theorem dX4_carried_0 : decode cX4_carried 0 = .ok (.iload_n 0, 1) := by decide +kernel
theorem dX4_carried_1 : decode cX4_carried 1 = .ok (.tableswitch 53 1 4 #[31, 53, 38, 45], 31) := by decide +kernel
theorem dX4_carried_32 : decode cX4_carried 32 = .ok (.iload_n 1, 1) := by decide +kernel
theorem dX4_carried_33 : decode cX4_carried 33 = .ok (.iload_n 2, 1) := by decide +kernel
theorem dX4_carried_34 : decode cX4_carried 34 = .ok (.iconst 2, 1) := by decide +kernel
theorem dX4_carried_35 : decode cX4_carried 35 = .ok (.invokestatic 226, 3) := by decide +kernel
theorem dX4_carried_38 : decode cX4_carried 38 = .ok (.ireturn, 1) := by decide +kernel
theorem dX4_carried_39 : decode cX4_carried 39 = .ok (.iload_n 1, 1) := by decide +kernel
theorem dX4_carried_40 : decode cX4_carried 40 = .ok (.iconst 0, 1) := by decide +kernel
theorem dX4_carried_41 : decode cX4_carried 41 = .ok (.iconst 1, 1) := by decide +kernel
theorem dX4_carried_42 : decode cX4_carried 42 = .ok (.invokestatic 226, 3) := by decide +kernel
theorem dX4_carried_45 : decode cX4_carried 45 = .ok (.ireturn, 1) := by decide +kernel
theorem dX4_carried_46 : decode cX4_carried 46 = .ok (.iload_n 1, 1) := by decide +kernel
theorem dX4_carried_47 : decode cX4_carried 47 = .ok (.bipush 9, 2) := by decide +kernel
theorem dX4_carried_49 : decode cX4_carried 49 = .ok (.iconst 1, 1) := by decide +kernel
theorem dX4_carried_50 : decode cX4_carried 50 = .ok (.invokestatic 226, 3) := by decide +kernel
theorem dX4_carried_53 : decode cX4_carried 53 = .ok (.ireturn, 1) := by decide +kernel
theorem dX4_carried_54 : decode cX4_carried 54 = .ok (.iload_n 1, 1) := by decide +kernel
theorem dX4_carried_55 : decode cX4_carried 55 = .ok (.iload_n 2, 1) := by decide +kernel
theorem dX4_carried_56 : decode cX4_carried 56 = .ok (.iconst 1, 1) := by decide +kernel
theorem dX4_carried_57 : decode cX4_carried 57 = .ok (.invokestatic 226, 3) := by decide +kernel
theorem dX4_carried_60 : decode cX4_carried 60 = .ok (.ireturn, 1) := by decide +kernel
theorem dX4_toward_0 : decode cX4_toward 0 = .ok (.iload_n 0, 1) := by decide +kernel
theorem dX4_toward_1 : decode cX4_toward 1 = .ok (.iload_n 1, 1) := by decide +kernel
theorem dX4_toward_2 : decode cX4_toward 2 = .ok (.if_icmp .ge 13, 3) := by decide +kernel
theorem dX4_toward_5 : decode cX4_toward 5 = .ok (.iload_n 1, 1) := by decide +kernel
theorem dX4_toward_6 : decode cX4_toward 6 = .ok (.iload_n 0, 1) := by decide +kernel
theorem dX4_toward_7 : decode cX4_toward 7 = .ok (.iload_n 2, 1) := by decide +kernel
theorem dX4_toward_8 : decode cX4_toward 8 = .ok (.iadd, 1) := by decide +kernel
theorem dX4_toward_9 : decode cX4_toward 9 = .ok (.invokestatic 229, 3) := by decide +kernel
theorem dX4_toward_12 : decode cX4_toward 12 = .ok (.goto 10, 3) := by decide +kernel
theorem dX4_toward_15 : decode cX4_toward 15 = .ok (.iload_n 1, 1) := by decide +kernel
theorem dX4_toward_16 : decode cX4_toward 16 = .ok (.iload_n 0, 1) := by decide +kernel
theorem dX4_toward_17 : decode cX4_toward 17 = .ok (.iload_n 2, 1) := by decide +kernel
theorem dX4_toward_18 : decode cX4_toward 18 = .ok (.isub, 1) := by decide +kernel
theorem dX4_toward_19 : decode cX4_toward 19 = .ok (.invokestatic 234, 3) := by decide +kernel
theorem dX4_toward_22 : decode cX4_toward 22 = .ok (.ireturn, 1) := by decide +kernel
theorem dJ6_bitCount_0f7a4_0 : decode cJ6_bitCount_0f7a4 0 = .ok (.iload_n 0, 1) := by decide +kernel
theorem dJ6_bitCount_0f7a4_1 : decode cJ6_bitCount_0f7a4 1 = .ok (.iload_n 0, 1) := by decide +kernel
theorem dJ6_bitCount_0f7a4_2 : decode cJ6_bitCount_0f7a4 2 = .ok (.iconst 1, 1) := by decide +kernel
theorem dJ6_bitCount_0f7a4_3 : decode cJ6_bitCount_0f7a4 3 = .ok (.iushr, 1) := by decide +kernel
theorem dJ6_bitCount_0f7a4_4 : decode cJ6_bitCount_0f7a4 4 = .ok (.ldc_w 265, 3) := by decide +kernel
theorem dJ6_bitCount_0f7a4_7 : decode cJ6_bitCount_0f7a4 7 = .ok (.iand, 1) := by decide +kernel
theorem dJ6_bitCount_0f7a4_8 : decode cJ6_bitCount_0f7a4 8 = .ok (.isub, 1) := by decide +kernel
theorem dJ6_bitCount_0f7a4_9 : decode cJ6_bitCount_0f7a4 9 = .ok (.istore_n 0, 1) := by decide +kernel
theorem dJ6_bitCount_0f7a4_10 : decode cJ6_bitCount_0f7a4 10 = .ok (.iload_n 0, 1) := by decide +kernel
theorem dJ6_bitCount_0f7a4_11 : decode cJ6_bitCount_0f7a4 11 = .ok (.ldc_w 266, 3) := by decide +kernel
theorem dJ6_bitCount_0f7a4_14 : decode cJ6_bitCount_0f7a4 14 = .ok (.iand, 1) := by decide +kernel
theorem dJ6_bitCount_0f7a4_15 : decode cJ6_bitCount_0f7a4 15 = .ok (.iload_n 0, 1) := by decide +kernel
theorem dJ6_bitCount_0f7a4_16 : decode cJ6_bitCount_0f7a4 16 = .ok (.iconst 2, 1) := by decide +kernel
theorem dJ6_bitCount_0f7a4_17 : decode cJ6_bitCount_0f7a4 17 = .ok (.iushr, 1) := by decide +kernel
theorem dJ6_bitCount_0f7a4_18 : decode cJ6_bitCount_0f7a4 18 = .ok (.ldc_w 266, 3) := by decide +kernel
theorem dJ6_bitCount_0f7a4_21 : decode cJ6_bitCount_0f7a4 21 = .ok (.iand, 1) := by decide +kernel
theorem dJ6_bitCount_0f7a4_22 : decode cJ6_bitCount_0f7a4 22 = .ok (.iadd, 1) := by decide +kernel
theorem dJ6_bitCount_0f7a4_23 : decode cJ6_bitCount_0f7a4 23 = .ok (.istore_n 0, 1) := by decide +kernel
theorem dJ6_bitCount_0f7a4_24 : decode cJ6_bitCount_0f7a4 24 = .ok (.iload_n 0, 1) := by decide +kernel
theorem dJ6_bitCount_0f7a4_25 : decode cJ6_bitCount_0f7a4 25 = .ok (.iload_n 0, 1) := by decide +kernel
theorem dJ6_bitCount_0f7a4_26 : decode cJ6_bitCount_0f7a4 26 = .ok (.iconst 4, 1) := by decide +kernel
theorem dJ6_bitCount_0f7a4_27 : decode cJ6_bitCount_0f7a4 27 = .ok (.iushr, 1) := by decide +kernel
theorem dJ6_bitCount_0f7a4_28 : decode cJ6_bitCount_0f7a4 28 = .ok (.iadd, 1) := by decide +kernel
theorem dJ6_bitCount_0f7a4_29 : decode cJ6_bitCount_0f7a4 29 = .ok (.ldc_w 267, 3) := by decide +kernel
theorem dJ6_bitCount_0f7a4_32 : decode cJ6_bitCount_0f7a4 32 = .ok (.iand, 1) := by decide +kernel
theorem dJ6_bitCount_0f7a4_33 : decode cJ6_bitCount_0f7a4 33 = .ok (.istore_n 0, 1) := by decide +kernel
theorem dJ6_bitCount_0f7a4_34 : decode cJ6_bitCount_0f7a4 34 = .ok (.iload_n 0, 1) := by decide +kernel
theorem dJ6_bitCount_0f7a4_35 : decode cJ6_bitCount_0f7a4 35 = .ok (.iload_n 0, 1) := by decide +kernel
theorem dJ6_bitCount_0f7a4_36 : decode cJ6_bitCount_0f7a4 36 = .ok (.bipush 8, 2) := by decide +kernel
theorem dJ6_bitCount_0f7a4_38 : decode cJ6_bitCount_0f7a4 38 = .ok (.iushr, 1) := by decide +kernel
theorem dJ6_bitCount_0f7a4_39 : decode cJ6_bitCount_0f7a4 39 = .ok (.iadd, 1) := by decide +kernel
theorem dJ6_bitCount_0f7a4_40 : decode cJ6_bitCount_0f7a4 40 = .ok (.istore_n 0, 1) := by decide +kernel
theorem dJ6_bitCount_0f7a4_41 : decode cJ6_bitCount_0f7a4 41 = .ok (.iload_n 0, 1) := by decide +kernel
theorem dJ6_bitCount_0f7a4_42 : decode cJ6_bitCount_0f7a4 42 = .ok (.iload_n 0, 1) := by decide +kernel
theorem dJ6_bitCount_0f7a4_43 : decode cJ6_bitCount_0f7a4 43 = .ok (.bipush 16, 2) := by decide +kernel
theorem dJ6_bitCount_0f7a4_45 : decode cJ6_bitCount_0f7a4 45 = .ok (.iushr, 1) := by decide +kernel
theorem dJ6_bitCount_0f7a4_46 : decode cJ6_bitCount_0f7a4 46 = .ok (.iadd, 1) := by decide +kernel
theorem dJ6_bitCount_0f7a4_47 : decode cJ6_bitCount_0f7a4 47 = .ok (.istore_n 0, 1) := by decide +kernel
theorem dJ6_bitCount_0f7a4_48 : decode cJ6_bitCount_0f7a4 48 = .ok (.iload_n 0, 1) := by decide +kernel
theorem dJ6_bitCount_0f7a4_49 : decode cJ6_bitCount_0f7a4 49 = .ok (.bipush 63, 2) := by decide +kernel
theorem dJ6_bitCount_0f7a4_51 : decode cJ6_bitCount_0f7a4 51 = .ok (.iand, 1) := by decide +kernel
theorem dJ6_bitCount_0f7a4_52 : decode cJ6_bitCount_0f7a4 52 = .ok (.ireturn, 1) := by decide +kernel
theorem dJ9_max_7cf53_0 : decode cJ9_max_7cf53 0 = .ok (.iload_n 0, 1) := by decide +kernel
theorem dJ9_max_7cf53_1 : decode cJ9_max_7cf53 1 = .ok (.iload_n 1, 1) := by decide +kernel
theorem dJ9_max_7cf53_2 : decode cJ9_max_7cf53 2 = .ok (.if_icmp .lt 7, 3) := by decide +kernel
theorem dJ9_max_7cf53_5 : decode cJ9_max_7cf53 5 = .ok (.iload_n 0, 1) := by decide +kernel
theorem dJ9_max_7cf53_6 : decode cJ9_max_7cf53 6 = .ok (.goto 4, 3) := by decide +kernel
theorem dJ9_max_7cf53_9 : decode cJ9_max_7cf53 9 = .ok (.iload_n 1, 1) := by decide +kernel
theorem dJ9_max_7cf53_10 : decode cJ9_max_7cf53 10 = .ok (.ireturn, 1) := by decide +kernel
theorem dJ9_min_7cf53_0 : decode cJ9_min_7cf53 0 = .ok (.iload_n 0, 1) := by decide +kernel
theorem dJ9_min_7cf53_1 : decode cJ9_min_7cf53 1 = .ok (.iload_n 1, 1) := by decide +kernel
theorem dJ9_min_7cf53_2 : decode cJ9_min_7cf53 2 = .ok (.if_icmp .gt 7, 3) := by decide +kernel
theorem dJ9_min_7cf53_5 : decode cJ9_min_7cf53 5 = .ok (.iload_n 0, 1) := by decide +kernel
theorem dJ9_min_7cf53_6 : decode cJ9_min_7cf53 6 = .ok (.goto 4, 3) := by decide +kernel
theorem dJ9_min_7cf53_9 : decode cJ9_min_7cf53 9 = .ok (.iload_n 1, 1) := by decide +kernel
theorem dJ9_min_7cf53_10 : decode cJ9_min_7cf53 10 = .ok (.ireturn, 1) := by decide +kernel
theorem dJ0_length_8abf5_0 : decode cJ0_length_8abf5 0 = .ok (.aload_n 0, 1) := by decide +kernel
theorem dJ0_length_8abf5_1 : decode cJ0_length_8abf5 1 = .ok (.getfield 9, 3) := by decide +kernel
theorem dJ0_length_8abf5_4 : decode cJ0_length_8abf5 4 = .ok (.arraylength, 1) := by decide +kernel
theorem dJ0_length_8abf5_5 : decode cJ0_length_8abf5 5 = .ok (.aload_n 0, 1) := by decide +kernel
theorem dJ0_length_8abf5_6 : decode cJ0_length_8abf5 6 = .ok (.invokevirtual 335, 3) := by decide +kernel
theorem dJ0_length_8abf5_9 : decode cJ0_length_8abf5 9 = .ok (.ishr, 1) := by decide +kernel
theorem dJ0_length_8abf5_10 : decode cJ0_length_8abf5 10 = .ok (.ireturn, 1) := by decide +kernel
theorem dJ0_charAt_5068e_0 : decode cJ0_charAt_5068e 0 = .ok (.aload_n 0, 1) := by decide +kernel
theorem dJ0_charAt_5068e_1 : decode cJ0_charAt_5068e 1 = .ok (.invokevirtual 492, 3) := by decide +kernel
theorem dJ0_charAt_5068e_4 : decode cJ0_charAt_5068e 4 = .ok (.ifCond .eq 12, 3) := by decide +kernel
theorem dJ0_charAt_5068e_7 : decode cJ0_charAt_5068e 7 = .ok (.aload_n 0, 1) := by decide +kernel
theorem dJ0_charAt_5068e_8 : decode cJ0_charAt_5068e 8 = .ok (.getfield 9, 3) := by decide +kernel
theorem dJ0_charAt_5068e_11 : decode cJ0_charAt_5068e 11 = .ok (.iload_n 1, 1) := by decide +kernel
theorem dJ0_charAt_5068e_12 : decode cJ0_charAt_5068e 12 = .ok (.invokestatic 495, 3) := by decide +kernel
theorem dJ0_charAt_5068e_15 : decode cJ0_charAt_5068e 15 = .ok (.ireturn, 1) := by decide +kernel
theorem dJ0_charAt_5068e_16 : decode cJ0_charAt_5068e 16 = .ok (.aload_n 0, 1) := by decide +kernel
theorem dJ0_charAt_5068e_17 : decode cJ0_charAt_5068e 17 = .ok (.getfield 9, 3) := by decide +kernel
theorem dJ0_charAt_5068e_20 : decode cJ0_charAt_5068e 20 = .ok (.iload_n 1, 1) := by decide +kernel
theorem dJ0_charAt_5068e_21 : decode cJ0_charAt_5068e 21 = .ok (.invokestatic 498, 3) := by decide +kernel
theorem dJ0_charAt_5068e_24 : decode cJ0_charAt_5068e 24 = .ok (.ireturn, 1) := by decide +kernel
theorem dJ0_coder_7d493_0 : decode cJ0_coder_7d493 0 = .ok (.getstatic 38, 3) := by decide +kernel
theorem dJ0_coder_7d493_3 : decode cJ0_coder_7d493 3 = .ok (.ifCond .eq 10, 3) := by decide +kernel
theorem dJ0_coder_7d493_6 : decode cJ0_coder_7d493 6 = .ok (.aload_n 0, 1) := by decide +kernel
theorem dJ0_coder_7d493_7 : decode cJ0_coder_7d493 7 = .ok (.getfield 15, 3) := by decide +kernel
theorem dJ0_coder_7d493_10 : decode cJ0_coder_7d493 10 = .ok (.goto 4, 3) := by decide +kernel
theorem dJ0_coder_7d493_13 : decode cJ0_coder_7d493 13 = .ok (.iconst 1, 1) := by decide +kernel
theorem dJ0_coder_7d493_14 : decode cJ0_coder_7d493 14 = .ok (.ireturn, 1) := by decide +kernel
theorem dJ0_isLatin1_aae02_0 : decode cJ0_isLatin1_aae02 0 = .ok (.getstatic 38, 3) := by decide +kernel
theorem dJ0_isLatin1_aae02_3 : decode cJ0_isLatin1_aae02 3 = .ok (.ifCond .eq 14, 3) := by decide +kernel
theorem dJ0_isLatin1_aae02_6 : decode cJ0_isLatin1_aae02 6 = .ok (.aload_n 0, 1) := by decide +kernel
theorem dJ0_isLatin1_aae02_7 : decode cJ0_isLatin1_aae02 7 = .ok (.getfield 15, 3) := by decide +kernel
theorem dJ0_isLatin1_aae02_10 : decode cJ0_isLatin1_aae02 10 = .ok (.ifCond .ne 7, 3) := by decide +kernel
theorem dJ0_isLatin1_aae02_13 : decode cJ0_isLatin1_aae02 13 = .ok (.iconst 1, 1) := by decide +kernel
theorem dJ0_isLatin1_aae02_14 : decode cJ0_isLatin1_aae02 14 = .ok (.goto 4, 3) := by decide +kernel
theorem dJ0_isLatin1_aae02_17 : decode cJ0_isLatin1_aae02 17 = .ok (.iconst 0, 1) := by decide +kernel
theorem dJ0_isLatin1_aae02_18 : decode cJ0_isLatin1_aae02 18 = .ok (.ireturn, 1) := by decide +kernel
theorem dJ0_checkIndex_df160_0 : decode cJ0_checkIndex_df160 0 = .ok (.iload_n 0, 1) := by decide +kernel
theorem dJ0_checkIndex_df160_1 : decode cJ0_checkIndex_df160 1 = .ok (.iload_n 1, 1) := by decide +kernel
theorem dJ0_checkIndex_df160_2 : decode cJ0_checkIndex_df160 2 = .ok (.getstatic 1053, 3) := by decide +kernel
theorem dJ0_checkIndex_df160_5 : decode cJ0_checkIndex_df160 5 = .ok (.invokestatic 1059, 3) := by decide +kernel
theorem dJ0_checkIndex_df160_8 : decode cJ0_checkIndex_df160 8 = .ok (.pop, 1) := by decide +kernel
theorem dJ0_checkIndex_df160_9 : decode cJ0_checkIndex_df160 9 = .ok (.return_, 1) := by decide +kernel
theorem dJ1_charAt_3b067_0 : decode cJ1_charAt_3b067 0 = .ok (.iload_n 1, 1) := by decide +kernel
theorem dJ1_charAt_3b067_1 : decode cJ1_charAt_3b067 1 = .ok (.aload_n 0, 1) := by decide +kernel
theorem dJ1_charAt_3b067_2 : decode cJ1_charAt_3b067 2 = .ok (.arraylength, 1) := by decide +kernel
theorem dJ1_charAt_3b067_3 : decode cJ1_charAt_3b067 3 = .ok (.invokestatic 9, 3) := by decide +kernel
theorem dJ1_charAt_3b067_6 : decode cJ1_charAt_3b067 6 = .ok (.aload_n 0, 1) := by decide +kernel
theorem dJ1_charAt_3b067_7 : decode cJ1_charAt_3b067 7 = .ok (.iload_n 1, 1) := by decide +kernel
theorem dJ1_charAt_3b067_8 : decode cJ1_charAt_3b067 8 = .ok (.baload, 1) := by decide +kernel
theorem dJ1_charAt_3b067_9 : decode cJ1_charAt_3b067 9 = .ok (.sipush 255, 3) := by decide +kernel
theorem dJ1_charAt_3b067_12 : decode cJ1_charAt_3b067 12 = .ok (.iand, 1) := by decide +kernel
theorem dJ1_charAt_3b067_13 : decode cJ1_charAt_3b067 13 = .ok (.i2c, 1) := by decide +kernel
theorem dJ1_charAt_3b067_14 : decode cJ1_charAt_3b067 14 = .ok (.ireturn, 1) := by decide +kernel
theorem dJ2_getChar_3b067_0 : decode cJ2_getChar_3b067 0 = .ok (.getstatic 44, 3) := by decide +kernel
theorem dJ2_getChar_3b067_3 : decode cJ2_getChar_3b067 3 = .ok (.ifCond .ne 25, 3) := by decide +kernel
theorem dJ2_getChar_3b067_6 : decode cJ2_getChar_3b067 6 = .ok (.iload_n 1, 1) := by decide +kernel
theorem dJ2_getChar_3b067_7 : decode cJ2_getChar_3b067 7 = .ok (.ifCond .lt 11, 3) := by decide +kernel
theorem dJ2_getChar_3b067_10 : decode cJ2_getChar_3b067 10 = .ok (.iload_n 1, 1) := by decide +kernel
theorem dJ2_getChar_3b067_11 : decode cJ2_getChar_3b067 11 = .ok (.aload_n 0, 1) := by decide +kernel
theorem dJ2_getChar_3b067_12 : decode cJ2_getChar_3b067 12 = .ok (.invokestatic 48, 3) := by decide +kernel
theorem dJ2_getChar_3b067_15 : decode cJ2_getChar_3b067 15 = .ok (.if_icmp .lt 13, 3) := by decide +kernel
theorem dJ2_getChar_3b067_18 : decode cJ2_getChar_3b067 18 = .ok (.new 52, 3) := by decide +kernel
theorem dJ2_getChar_3b067_21 : decode cJ2_getChar_3b067 21 = .ok (.dup, 1) := by decide +kernel
theorem dJ2_getChar_3b067_22 : decode cJ2_getChar_3b067 22 = .ok (.ldc 54, 2) := by decide +kernel
theorem dJ2_getChar_3b067_24 : decode cJ2_getChar_3b067 24 = .ok (.invokespecial 56, 3) := by decide +kernel
theorem dJ2_getChar_3b067_27 : decode cJ2_getChar_3b067 27 = .ok (.athrow, 1) := by decide +kernel
theorem dJ2_getChar_3b067_28 : decode cJ2_getChar_3b067 28 = .ok (.iload_n 1, 1) := by decide +kernel
theorem dJ2_getChar_3b067_29 : decode cJ2_getChar_3b067 29 = .ok (.iconst 1, 1) := by decide +kernel
theorem dJ2_getChar_3b067_30 : decode cJ2_getChar_3b067 30 = .ok (.ishl, 1) := by decide +kernel
theorem dJ2_getChar_3b067_31 : decode cJ2_getChar_3b067 31 = .ok (.istore_n 1, 1) := by decide +kernel
theorem dJ2_getChar_3b067_32 : decode cJ2_getChar_3b067 32 = .ok (.aload_n 0, 1) := by decide +kernel
theorem dJ2_getChar_3b067_33 : decode cJ2_getChar_3b067 33 = .ok (.iload_n 1, 1) := by decide +kernel
theorem dJ2_getChar_3b067_34 : decode cJ2_getChar_3b067 34 = .ok (.iinc 1 1, 3) := by decide +kernel
theorem dJ2_getChar_3b067_37 : decode cJ2_getChar_3b067 37 = .ok (.baload, 1) := by decide +kernel
theorem dJ2_getChar_3b067_38 : decode cJ2_getChar_3b067 38 = .ok (.sipush 255, 3) := by decide +kernel
theorem dJ2_getChar_3b067_41 : decode cJ2_getChar_3b067 41 = .ok (.iand, 1) := by decide +kernel
theorem dJ2_getChar_3b067_42 : decode cJ2_getChar_3b067 42 = .ok (.getstatic 59, 3) := by decide +kernel
theorem dJ2_getChar_3b067_45 : decode cJ2_getChar_3b067 45 = .ok (.ishl, 1) := by decide +kernel
theorem dJ2_getChar_3b067_46 : decode cJ2_getChar_3b067 46 = .ok (.aload_n 0, 1) := by decide +kernel
theorem dJ2_getChar_3b067_47 : decode cJ2_getChar_3b067 47 = .ok (.iload_n 1, 1) := by decide +kernel
theorem dJ2_getChar_3b067_48 : decode cJ2_getChar_3b067 48 = .ok (.baload, 1) := by decide +kernel
theorem dJ2_getChar_3b067_49 : decode cJ2_getChar_3b067 49 = .ok (.sipush 255, 3) := by decide +kernel
theorem dJ2_getChar_3b067_52 : decode cJ2_getChar_3b067 52 = .ok (.iand, 1) := by decide +kernel
theorem dJ2_getChar_3b067_53 : decode cJ2_getChar_3b067 53 = .ok (.getstatic 63, 3) := by decide +kernel
theorem dJ2_getChar_3b067_56 : decode cJ2_getChar_3b067 56 = .ok (.ishl, 1) := by decide +kernel
theorem dJ2_getChar_3b067_57 : decode cJ2_getChar_3b067 57 = .ok (.ior, 1) := by decide +kernel
theorem dJ2_getChar_3b067_58 : decode cJ2_getChar_3b067 58 = .ok (.i2c, 1) := by decide +kernel
theorem dJ2_getChar_3b067_59 : decode cJ2_getChar_3b067 59 = .ok (.ireturn, 1) := by decide +kernel
theorem dJ2_length_9d52b_0 : decode cJ2_length_9d52b 0 = .ok (.aload_n 0, 1) := by decide +kernel
theorem dJ2_length_9d52b_1 : decode cJ2_length_9d52b 1 = .ok (.arraylength, 1) := by decide +kernel
theorem dJ2_length_9d52b_2 : decode cJ2_length_9d52b 2 = .ok (.iconst 1, 1) := by decide +kernel
theorem dJ2_length_9d52b_3 : decode cJ2_length_9d52b 3 = .ok (.ishr, 1) := by decide +kernel
theorem dJ2_length_9d52b_4 : decode cJ2_length_9d52b 4 = .ok (.ireturn, 1) := by decide +kernel
theorem dJ2_charAt_3b067_0 : decode cJ2_charAt_3b067 0 = .ok (.iload_n 1, 1) := by decide +kernel
theorem dJ2_charAt_3b067_1 : decode cJ2_charAt_3b067 1 = .ok (.aload_n 0, 1) := by decide +kernel
theorem dJ2_charAt_3b067_2 : decode cJ2_charAt_3b067 2 = .ok (.invokestatic 67, 3) := by decide +kernel
theorem dJ2_charAt_3b067_5 : decode cJ2_charAt_3b067 5 = .ok (.aload_n 0, 1) := by decide +kernel
theorem dJ2_charAt_3b067_6 : decode cJ2_charAt_3b067 6 = .ok (.iload_n 1, 1) := by decide +kernel
theorem dJ2_charAt_3b067_7 : decode cJ2_charAt_3b067 7 = .ok (.invokestatic 71, 3) := by decide +kernel
theorem dJ2_charAt_3b067_10 : decode cJ2_charAt_3b067 10 = .ok (.ireturn, 1) := by decide +kernel
theorem dJ2_checkIndex_2214a_0 : decode cJ2_checkIndex_2214a 0 = .ok (.iload_n 0, 1) := by decide +kernel
theorem dJ2_checkIndex_2214a_1 : decode cJ2_checkIndex_2214a 1 = .ok (.aload_n 1, 1) := by decide +kernel
theorem dJ2_checkIndex_2214a_2 : decode cJ2_checkIndex_2214a 2 = .ok (.invokestatic 48, 3) := by decide +kernel
theorem dJ2_checkIndex_2214a_5 : decode cJ2_checkIndex_2214a 5 = .ok (.invokestatic 414, 3) := by decide +kernel
theorem dJ2_checkIndex_2214a_8 : decode cJ2_checkIndex_2214a 8 = .ok (.return_, 1) := by decide +kernel
theorem dJ7_fill_53178_0 : decode cJ7_fill_53178 0 = .ok (.iconst 0, 1) := by decide +kernel
theorem dJ7_fill_53178_1 : decode cJ7_fill_53178 1 = .ok (.istore_n 2, 1) := by decide +kernel
theorem dJ7_fill_53178_2 : decode cJ7_fill_53178 2 = .ok (.aload_n 0, 1) := by decide +kernel
theorem dJ7_fill_53178_3 : decode cJ7_fill_53178 3 = .ok (.arraylength, 1) := by decide +kernel
theorem dJ7_fill_53178_4 : decode cJ7_fill_53178 4 = .ok (.istore_n 3, 1) := by decide +kernel
theorem dJ7_fill_53178_5 : decode cJ7_fill_53178 5 = .ok (.iload_n 2, 1) := by decide +kernel
theorem dJ7_fill_53178_6 : decode cJ7_fill_53178 6 = .ok (.iload_n 3, 1) := by decide +kernel
theorem dJ7_fill_53178_7 : decode cJ7_fill_53178 7 = .ok (.if_icmp .ge 13, 3) := by decide +kernel
theorem dJ7_fill_53178_10 : decode cJ7_fill_53178 10 = .ok (.aload_n 0, 1) := by decide +kernel
theorem dJ7_fill_53178_11 : decode cJ7_fill_53178 11 = .ok (.iload_n 2, 1) := by decide +kernel
theorem dJ7_fill_53178_12 : decode cJ7_fill_53178 12 = .ok (.iload_n 1, 1) := by decide +kernel
theorem dJ7_fill_53178_13 : decode cJ7_fill_53178 13 = .ok (.iastore, 1) := by decide +kernel
theorem dJ7_fill_53178_14 : decode cJ7_fill_53178 14 = .ok (.iinc 2 1, 3) := by decide +kernel
theorem dJ7_fill_53178_17 : decode cJ7_fill_53178 17 = .ok (.goto (-12), 3) := by decide +kernel
theorem dJ7_fill_53178_20 : decode cJ7_fill_53178 20 = .ok (.return_, 1) := by decide +kernel
theorem dJ3_checkIndex_8e157_0 : decode cJ3_checkIndex_8e157 0 = .ok (.iload_n 0, 1) := by decide +kernel
theorem dJ3_checkIndex_8e157_1 : decode cJ3_checkIndex_8e157 1 = .ok (.ifCond .lt 8, 3) := by decide +kernel
theorem dJ3_checkIndex_8e157_4 : decode cJ3_checkIndex_8e157 4 = .ok (.iload_n 0, 1) := by decide +kernel
theorem dJ3_checkIndex_8e157_5 : decode cJ3_checkIndex_8e157 5 = .ok (.iload_n 1, 1) := by decide +kernel
theorem dJ3_checkIndex_8e157_6 : decode cJ3_checkIndex_8e157 6 = .ok (.if_icmp .lt 10, 3) := by decide +kernel
theorem dJ3_checkIndex_8e157_9 : decode cJ3_checkIndex_8e157 9 = .ok (.aload_n 2, 1) := by decide +kernel
theorem dJ3_checkIndex_8e157_10 : decode cJ3_checkIndex_8e157 10 = .ok (.iload_n 0, 1) := by decide +kernel
theorem dJ3_checkIndex_8e157_11 : decode cJ3_checkIndex_8e157 11 = .ok (.iload_n 1, 1) := by decide +kernel
theorem dJ3_checkIndex_8e157_12 : decode cJ3_checkIndex_8e157 12 = .ok (.invokestatic 95, 3) := by decide +kernel
theorem dJ3_checkIndex_8e157_15 : decode cJ3_checkIndex_8e157 15 = .ok (.athrow, 1) := by decide +kernel
theorem dJ3_checkIndex_8e157_16 : decode cJ3_checkIndex_8e157 16 = .ok (.iload_n 0, 1) := by decide +kernel
theorem dJ3_checkIndex_8e157_17 : decode cJ3_checkIndex_8e157 17 = .ok (.ireturn, 1) := by decide +kernel
