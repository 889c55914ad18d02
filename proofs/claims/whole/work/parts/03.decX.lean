theorem dX0_init_0 : decode cX0_init 0 = .ok (.aload_n 0, 1) := by decide +kernel
theorem dX0_init_1 : decode cX0_init 1 = .ok (.invokespecial 3, 3) := by decide +kernel
theorem dX0_init_4 : decode cX0_init 4 = .ok (.aload_n 0, 1) := by decide +kernel
theorem dX0_init_5 : decode cX0_init 5 = .ok (.bipush 9, 2) := by decide +kernel
theorem dX0_init_7 : decode cX0_init 7 = .ok (.newarray .int, 2) := by decide +kernel
theorem dX0_init_9 : decode cX0_init 9 = .ok (.putfield 9, 3) := by decide +kernel
theorem dX0_init_12 : decode cX0_init 12 = .ok (.aload_n 0, 1) := by decide +kernel
theorem dX0_init_13 : decode cX0_init 13 = .ok (.bipush 9, 2) := by decide +kernel
theorem dX0_init_15 : decode cX0_init 15 = .ok (.newarray .int, 2) := by decide +kernel
theorem dX0_init_17 : decode cX0_init 17 = .ok (.putfield 15, 3) := by decide +kernel
theorem dX0_init_20 : decode cX0_init 20 = .ok (.aload_n 0, 1) := by decide +kernel
theorem dX0_init_21 : decode cX0_init 21 = .ok (.bipush 9, 2) := by decide +kernel
theorem dX0_init_23 : decode cX0_init 23 = .ok (.newarray .int, 2) := by decide +kernel
theorem dX0_init_25 : decode cX0_init 25 = .ok (.putfield 18, 3) := by decide +kernel
theorem dX0_init_28 : decode cX0_init 28 = .ok (.aload_n 0, 1) := by decide +kernel
theorem dX0_init_29 : decode cX0_init 29 = .ok (.bipush 9, 2) := by decide +kernel
theorem dX0_init_31 : decode cX0_init 31 = .ok (.newarray .int, 2) := by decide +kernel
theorem dX0_init_33 : decode cX0_init 33 = .ok (.putfield 21, 3) := by decide +kernel
theorem dX0_init_36 : decode cX0_init 36 = .ok (.aload_n 0, 1) := by decide +kernel
theorem dX0_init_37 : decode cX0_init 37 = .ok (.bipush 9, 2) := by decide +kernel
theorem dX0_init_39 : decode cX0_init 39 = .ok (.newarray .int, 2) := by decide +kernel
theorem dX0_init_41 : decode cX0_init 41 = .ok (.putfield 24, 3) := by decide +kernel
theorem dX0_init_44 : decode cX0_init 44 = .ok (.aload_n 0, 1) := by decide +kernel
theorem dX0_init_45 : decode cX0_init 45 = .ok (.aload_n 1, 1) := by decide +kernel
theorem dX0_init_46 : decode cX0_init 46 = .ok (.putfield 27, 3) := by decide +kernel
theorem dX0_init_49 : decode cX0_init 49 = .ok (.return_, 1) := by decide +kernel
theorem dX0_begin_0 : decode cX0_begin 0 = .ok (.aload_n 0, 1) := by decide +kernel
theorem dX0_begin_1 : decode cX0_begin 1 = .ok (.aload_n 0, 1) := by decide +kernel
theorem dX0_begin_2 : decode cX0_begin 2 = .ok (.getfield 27, 3) := by decide +kernel
theorem dX0_begin_5 : decode cX0_begin 5 = .ok (.getfield 31, 3) := by decide +kernel
theorem dX0_begin_8 : decode cX0_begin 8 = .ok (.putfield 37, 3) := by decide +kernel
theorem dX0_begin_11 : decode cX0_begin 11 = .ok (.aload_n 0, 1) := by decide +kernel
theorem dX0_begin_12 : decode cX0_begin 12 = .ok (.aload_n 0, 1) := by decide +kernel
theorem dX0_begin_13 : decode cX0_begin 13 = .ok (.getfield 27, 3) := by decide +kernel
theorem dX0_begin_16 : decode cX0_begin 16 = .ok (.getfield 38, 3) := by decide +kernel
theorem dX0_begin_19 : decode cX0_begin 19 = .ok (.putfield 41, 3) := by decide +kernel
theorem dX0_begin_22 : decode cX0_begin 22 = .ok (.aload_n 0, 1) := by decide +kernel
theorem dX0_begin_23 : decode cX0_begin 23 = .ok (.iconst 0, 1) := by decide +kernel
theorem dX0_begin_24 : decode cX0_begin 24 = .ok (.putfield 42, 3) := by decide +kernel
theorem dX0_begin_27 : decode cX0_begin 27 = .ok (.iconst 0, 1) := by decide +kernel
theorem dX0_begin_28 : decode cX0_begin 28 = .ok (.istore_n 1, 1) := by decide +kernel
theorem dX0_begin_29 : decode cX0_begin 29 = .ok (.iload_n 1, 1) := by decide +kernel
theorem dX0_begin_30 : decode cX0_begin 30 = .ok (.bipush 9, 2) := by decide +kernel
theorem dX0_begin_32 : decode cX0_begin 32 = .ok (.if_icmp .ge 45, 3) := by decide +kernel
theorem dX0_begin_35 : decode cX0_begin 35 = .ok (.aload_n 0, 1) := by decide +kernel
theorem dX0_begin_36 : decode cX0_begin 36 = .ok (.getfield 9, 3) := by decide +kernel
theorem dX0_begin_39 : decode cX0_begin 39 = .ok (.iload_n 1, 1) := by decide +kernel
theorem dX0_begin_40 : decode cX0_begin 40 = .ok (.iconst 0, 1) := by decide +kernel
theorem dX0_begin_41 : decode cX0_begin 41 = .ok (.iastore, 1) := by decide +kernel
theorem dX0_begin_42 : decode cX0_begin 42 = .ok (.aload_n 0, 1) := by decide +kernel
theorem dX0_begin_43 : decode cX0_begin 43 = .ok (.getfield 15, 3) := by decide +kernel
theorem dX0_begin_46 : decode cX0_begin 46 = .ok (.iload_n 1, 1) := by decide +kernel
theorem dX0_begin_47 : decode cX0_begin 47 = .ok (.iconst 0, 1) := by decide +kernel
theorem dX0_begin_48 : decode cX0_begin 48 = .ok (.iastore, 1) := by decide +kernel
theorem dX0_begin_49 : decode cX0_begin 49 = .ok (.aload_n 0, 1) := by decide +kernel
theorem dX0_begin_50 : decode cX0_begin 50 = .ok (.getfield 18, 3) := by decide +kernel
theorem dX0_begin_53 : decode cX0_begin 53 = .ok (.iload_n 1, 1) := by decide +kernel
theorem dX0_begin_54 : decode cX0_begin 54 = .ok (.iconst 0, 1) := by decide +kernel
theorem dX0_begin_55 : decode cX0_begin 55 = .ok (.iastore, 1) := by decide +kernel
theorem dX0_begin_56 : decode cX0_begin 56 = .ok (.aload_n 0, 1) := by decide +kernel
theorem dX0_begin_57 : decode cX0_begin 57 = .ok (.getfield 21, 3) := by decide +kernel
theorem dX0_begin_60 : decode cX0_begin 60 = .ok (.iload_n 1, 1) := by decide +kernel
theorem dX0_begin_61 : decode cX0_begin 61 = .ok (.iconst 0, 1) := by decide +kernel
theorem dX0_begin_62 : decode cX0_begin 62 = .ok (.iastore, 1) := by decide +kernel
theorem dX0_begin_63 : decode cX0_begin 63 = .ok (.aload_n 0, 1) := by decide +kernel
theorem dX0_begin_64 : decode cX0_begin 64 = .ok (.getfield 24, 3) := by decide +kernel
theorem dX0_begin_67 : decode cX0_begin 67 = .ok (.iload_n 1, 1) := by decide +kernel
theorem dX0_begin_68 : decode cX0_begin 68 = .ok (.bipush (-4), 2) := by decide +kernel
theorem dX0_begin_70 : decode cX0_begin 70 = .ok (.iastore, 1) := by decide +kernel
theorem dX0_begin_71 : decode cX0_begin 71 = .ok (.iinc 1 1, 3) := by decide +kernel
theorem dX0_begin_74 : decode cX0_begin 74 = .ok (.goto (-45), 3) := by decide +kernel
theorem dX0_begin_77 : decode cX0_begin 77 = .ok (.return_, 1) := by decide +kernel
theorem dX0_copyFrom_0 : decode cX0_copyFrom 0 = .ok (.aload_n 0, 1) := by decide +kernel
theorem dX0_copyFrom_1 : decode cX0_copyFrom 1 = .ok (.aload_n 1, 1) := by decide +kernel
theorem dX0_copyFrom_2 : decode cX0_copyFrom 2 = .ok (.getfield 37, 3) := by decide +kernel
theorem dX0_copyFrom_5 : decode cX0_copyFrom 5 = .ok (.putfield 37, 3) := by decide +kernel
theorem dX0_copyFrom_8 : decode cX0_copyFrom 8 = .ok (.aload_n 0, 1) := by decide +kernel
theorem dX0_copyFrom_9 : decode cX0_copyFrom 9 = .ok (.aload_n 1, 1) := by decide +kernel
theorem dX0_copyFrom_10 : decode cX0_copyFrom 10 = .ok (.getfield 41, 3) := by decide +kernel
theorem dX0_copyFrom_13 : decode cX0_copyFrom 13 = .ok (.putfield 41, 3) := by decide +kernel
theorem dX0_copyFrom_16 : decode cX0_copyFrom 16 = .ok (.aload_n 0, 1) := by decide +kernel
theorem dX0_copyFrom_17 : decode cX0_copyFrom 17 = .ok (.aload_n 1, 1) := by decide +kernel
theorem dX0_copyFrom_18 : decode cX0_copyFrom 18 = .ok (.getfield 42, 3) := by decide +kernel
theorem dX0_copyFrom_21 : decode cX0_copyFrom 21 = .ok (.putfield 42, 3) := by decide +kernel
theorem dX0_copyFrom_24 : decode cX0_copyFrom 24 = .ok (.aload_n 1, 1) := by decide +kernel
theorem dX0_copyFrom_25 : decode cX0_copyFrom 25 = .ok (.getfield 9, 3) := by decide +kernel
theorem dX0_copyFrom_28 : decode cX0_copyFrom 28 = .ok (.iconst 0, 1) := by decide +kernel
theorem dX0_copyFrom_29 : decode cX0_copyFrom 29 = .ok (.aload_n 0, 1) := by decide +kernel
theorem dX0_copyFrom_30 : decode cX0_copyFrom 30 = .ok (.getfield 9, 3) := by decide +kernel
theorem dX0_copyFrom_33 : decode cX0_copyFrom 33 = .ok (.iconst 0, 1) := by decide +kernel
theorem dX0_copyFrom_34 : decode cX0_copyFrom 34 = .ok (.bipush 9, 2) := by decide +kernel
theorem dX0_copyFrom_36 : decode cX0_copyFrom 36 = .ok (.invokestatic 45, 3) := by decide +kernel
theorem dX0_copyFrom_39 : decode cX0_copyFrom 39 = .ok (.aload_n 1, 1) := by decide +kernel
theorem dX0_copyFrom_40 : decode cX0_copyFrom 40 = .ok (.getfield 15, 3) := by decide +kernel
theorem dX0_copyFrom_43 : decode cX0_copyFrom 43 = .ok (.iconst 0, 1) := by decide +kernel
theorem dX0_copyFrom_44 : decode cX0_copyFrom 44 = .ok (.aload_n 0, 1) := by decide +kernel
theorem dX0_copyFrom_45 : decode cX0_copyFrom 45 = .ok (.getfield 15, 3) := by decide +kernel
theorem dX0_copyFrom_48 : decode cX0_copyFrom 48 = .ok (.iconst 0, 1) := by decide +kernel
theorem dX0_copyFrom_49 : decode cX0_copyFrom 49 = .ok (.bipush 9, 2) := by decide +kernel
theorem dX0_copyFrom_51 : decode cX0_copyFrom 51 = .ok (.invokestatic 45, 3) := by decide +kernel
theorem dX0_copyFrom_54 : decode cX0_copyFrom 54 = .ok (.aload_n 1, 1) := by decide +kernel
theorem dX0_copyFrom_55 : decode cX0_copyFrom 55 = .ok (.getfield 18, 3) := by decide +kernel
theorem dX0_copyFrom_58 : decode cX0_copyFrom 58 = .ok (.iconst 0, 1) := by decide +kernel
theorem dX0_copyFrom_59 : decode cX0_copyFrom 59 = .ok (.aload_n 0, 1) := by decide +kernel
theorem dX0_copyFrom_60 : decode cX0_copyFrom 60 = .ok (.getfield 18, 3) := by decide +kernel
theorem dX0_copyFrom_63 : decode cX0_copyFrom 63 = .ok (.iconst 0, 1) := by decide +kernel
theorem dX0_copyFrom_64 : decode cX0_copyFrom 64 = .ok (.bipush 9, 2) := by decide +kernel
theorem dX0_copyFrom_66 : decode cX0_copyFrom 66 = .ok (.invokestatic 45, 3) := by decide +kernel
theorem dX0_copyFrom_69 : decode cX0_copyFrom 69 = .ok (.aload_n 1, 1) := by decide +kernel
theorem dX0_copyFrom_70 : decode cX0_copyFrom 70 = .ok (.getfield 21, 3) := by decide +kernel
theorem dX0_copyFrom_73 : decode cX0_copyFrom 73 = .ok (.iconst 0, 1) := by decide +kernel
theorem dX0_copyFrom_74 : decode cX0_copyFrom 74 = .ok (.aload_n 0, 1) := by decide +kernel
theorem dX0_copyFrom_75 : decode cX0_copyFrom 75 = .ok (.getfield 21, 3) := by decide +kernel
theorem dX0_copyFrom_78 : decode cX0_copyFrom 78 = .ok (.iconst 0, 1) := by decide +kernel
theorem dX0_copyFrom_79 : decode cX0_copyFrom 79 = .ok (.bipush 9, 2) := by decide +kernel
theorem dX0_copyFrom_81 : decode cX0_copyFrom 81 = .ok (.invokestatic 45, 3) := by decide +kernel
theorem dX0_copyFrom_84 : decode cX0_copyFrom 84 = .ok (.aload_n 1, 1) := by decide +kernel
theorem dX0_copyFrom_85 : decode cX0_copyFrom 85 = .ok (.getfield 24, 3) := by decide +kernel
theorem dX0_copyFrom_88 : decode cX0_copyFrom 88 = .ok (.iconst 0, 1) := by decide +kernel
theorem dX0_copyFrom_89 : decode cX0_copyFrom 89 = .ok (.aload_n 0, 1) := by decide +kernel
theorem dX0_copyFrom_90 : decode cX0_copyFrom 90 = .ok (.getfield 24, 3) := by decide +kernel
theorem dX0_copyFrom_93 : decode cX0_copyFrom 93 = .ok (.iconst 0, 1) := by decide +kernel
theorem dX0_copyFrom_94 : decode cX0_copyFrom 94 = .ok (.bipush 9, 2) := by decide +kernel
theorem dX0_copyFrom_96 : decode cX0_copyFrom 96 = .ok (.invokestatic 45, 3) := by decide +kernel
theorem dX0_copyFrom_99 : decode cX0_copyFrom 99 = .ok (.return_, 1) := by decide +kernel
theorem dX0_howMany_0 : decode cX0_howMany 0 = .ok (.iconst 0, 1) := by decide +kernel
theorem dX0_howMany_1 : decode cX0_howMany 1 = .ok (.istore_n 2, 1) := by decide +kernel
theorem dX0_howMany_2 : decode cX0_howMany 2 = .ok (.iconst 0, 1) := by decide +kernel
theorem dX0_howMany_3 : decode cX0_howMany 3 = .ok (.istore_n 3, 1) := by decide +kernel
theorem dX0_howMany_4 : decode cX0_howMany 4 = .ok (.iload_n 3, 1) := by decide +kernel
theorem dX0_howMany_5 : decode cX0_howMany 5 = .ok (.aload_n 0, 1) := by decide +kernel
theorem dX0_howMany_6 : decode cX0_howMany 6 = .ok (.getfield 27, 3) := by decide +kernel
theorem dX0_howMany_9 : decode cX0_howMany 9 = .ok (.getfield 51, 3) := by decide +kernel
theorem dX0_howMany_12 : decode cX0_howMany 12 = .ok (.if_icmp .ge 22, 3) := by decide +kernel
theorem dX0_howMany_15 : decode cX0_howMany 15 = .ok (.aload_n 0, 1) := by decide +kernel
theorem dX0_howMany_16 : decode cX0_howMany 16 = .ok (.getfield 9, 3) := by decide +kernel
theorem dX0_howMany_19 : decode cX0_howMany 19 = .ok (.iload_n 3, 1) := by decide +kernel
theorem dX0_howMany_20 : decode cX0_howMany 20 = .ok (.iaload, 1) := by decide +kernel
theorem dX0_howMany_21 : decode cX0_howMany 21 = .ok (.iload_n 1, 1) := by decide +kernel
theorem dX0_howMany_22 : decode cX0_howMany 22 = .ok (.if_icmp .ne 6, 3) := by decide +kernel
theorem dX0_howMany_25 : decode cX0_howMany 25 = .ok (.iinc 2 1, 3) := by decide +kernel
theorem dX0_howMany_28 : decode cX0_howMany 28 = .ok (.iinc 3 1, 3) := by decide +kernel
theorem dX0_howMany_31 : decode cX0_howMany 31 = .ok (.goto (-27), 3) := by decide +kernel
theorem dX0_howMany_34 : decode cX0_howMany 34 = .ok (.iload_n 2, 1) := by decide +kernel
theorem dX0_howMany_35 : decode cX0_howMany 35 = .ok (.ireturn, 1) := by decide +kernel
theorem dX0_alikeOnTray_0 : decode cX0_alikeOnTray 0 = .ok (.iconst 0, 1) := by decide +kernel
theorem dX0_alikeOnTray_1 : decode cX0_alikeOnTray 1 = .ok (.istore_n 2, 1) := by decide +kernel
theorem dX0_alikeOnTray_2 : decode cX0_alikeOnTray 2 = .ok (.iconst 0, 1) := by decide +kernel
theorem dX0_alikeOnTray_3 : decode cX0_alikeOnTray 3 = .ok (.istore_n 3, 1) := by decide +kernel
theorem dX0_alikeOnTray_4 : decode cX0_alikeOnTray 4 = .ok (.iload_n 3, 1) := by decide +kernel
theorem dX0_alikeOnTray_5 : decode cX0_alikeOnTray 5 = .ok (.aload_n 0, 1) := by decide +kernel
theorem dX0_alikeOnTray_6 : decode cX0_alikeOnTray 6 = .ok (.getfield 27, 3) := by decide +kernel
theorem dX0_alikeOnTray_9 : decode cX0_alikeOnTray 9 = .ok (.getfield 51, 3) := by decide +kernel
theorem dX0_alikeOnTray_12 : decode cX0_alikeOnTray 12 = .ok (.if_icmp .ge 35, 3) := by decide +kernel
theorem dX0_alikeOnTray_15 : decode cX0_alikeOnTray 15 = .ok (.aload_n 0, 1) := by decide +kernel
theorem dX0_alikeOnTray_16 : decode cX0_alikeOnTray 16 = .ok (.getfield 9, 3) := by decide +kernel
theorem dX0_alikeOnTray_19 : decode cX0_alikeOnTray 19 = .ok (.iload_n 3, 1) := by decide +kernel
theorem dX0_alikeOnTray_20 : decode cX0_alikeOnTray 20 = .ok (.iaload, 1) := by decide +kernel
theorem dX0_alikeOnTray_21 : decode cX0_alikeOnTray 21 = .ok (.iconst 2, 1) := by decide +kernel
theorem dX0_alikeOnTray_22 : decode cX0_alikeOnTray 22 = .ok (.if_icmp .ne 19, 3) := by decide +kernel
theorem dX0_alikeOnTray_25 : decode cX0_alikeOnTray 25 = .ok (.aload_n 0, 1) := by decide +kernel
theorem dX0_alikeOnTray_26 : decode cX0_alikeOnTray 26 = .ok (.getfield 27, 3) := by decide +kernel
theorem dX0_alikeOnTray_29 : decode cX0_alikeOnTray 29 = .ok (.getfield 54, 3) := by decide +kernel
theorem dX0_alikeOnTray_32 : decode cX0_alikeOnTray 32 = .ok (.iload_n 3, 1) := by decide +kernel
theorem dX0_alikeOnTray_33 : decode cX0_alikeOnTray 33 = .ok (.iaload, 1) := by decide +kernel
theorem dX0_alikeOnTray_34 : decode cX0_alikeOnTray 34 = .ok (.iload_n 1, 1) := by decide +kernel
theorem dX0_alikeOnTray_35 : decode cX0_alikeOnTray 35 = .ok (.if_icmp .ne 6, 3) := by decide +kernel
theorem dX0_alikeOnTray_38 : decode cX0_alikeOnTray 38 = .ok (.iinc 2 1, 3) := by decide +kernel
theorem dX0_alikeOnTray_41 : decode cX0_alikeOnTray 41 = .ok (.iinc 3 1, 3) := by decide +kernel
theorem dX0_alikeOnTray_44 : decode cX0_alikeOnTray 44 = .ok (.goto (-40), 3) := by decide +kernel
theorem dX0_alikeOnTray_47 : decode cX0_alikeOnTray 47 = .ok (.iload_n 2, 1) := by decide +kernel
theorem dX0_alikeOnTray_48 : decode cX0_alikeOnTray 48 = .ok (.ireturn, 1) := by decide +kernel
theorem dX0_eatenBy_0 : decode cX0_eatenBy 0 = .ok (.iconst 0, 1) := by decide +kernel
theorem dX0_eatenBy_1 : decode cX0_eatenBy 1 = .ok (.istore_n 2, 1) := by decide +kernel
theorem dX0_eatenBy_2 : decode cX0_eatenBy 2 = .ok (.iload_n 2, 1) := by decide +kernel
theorem dX0_eatenBy_3 : decode cX0_eatenBy 3 = .ok (.aload_n 0, 1) := by decide +kernel
theorem dX0_eatenBy_4 : decode cX0_eatenBy 4 = .ok (.getfield 27, 3) := by decide +kernel
theorem dX0_eatenBy_7 : decode cX0_eatenBy 7 = .ok (.getfield 51, 3) := by decide +kernel
theorem dX0_eatenBy_10 : decode cX0_eatenBy 10 = .ok (.if_icmp .ge 21, 3) := by decide +kernel
theorem dX0_eatenBy_13 : decode cX0_eatenBy 13 = .ok (.aload_n 0, 1) := by decide +kernel
theorem dX0_eatenBy_14 : decode cX0_eatenBy 14 = .ok (.getfield 24, 3) := by decide +kernel
theorem dX0_eatenBy_17 : decode cX0_eatenBy 17 = .ok (.iload_n 2, 1) := by decide +kernel
theorem dX0_eatenBy_18 : decode cX0_eatenBy 18 = .ok (.iaload, 1) := by decide +kernel
theorem dX0_eatenBy_19 : decode cX0_eatenBy 19 = .ok (.iload_n 1, 1) := by decide +kernel
theorem dX0_eatenBy_20 : decode cX0_eatenBy 20 = .ok (.if_icmp .ne 5, 3) := by decide +kernel
theorem dX0_eatenBy_23 : decode cX0_eatenBy 23 = .ok (.iload_n 2, 1) := by decide +kernel
theorem dX0_eatenBy_24 : decode cX0_eatenBy 24 = .ok (.ireturn, 1) := by decide +kernel
theorem dX0_eatenBy_25 : decode cX0_eatenBy 25 = .ok (.iinc 2 1, 3) := by decide +kernel
theorem dX0_eatenBy_28 : decode cX0_eatenBy 28 = .ok (.goto (-26), 3) := by decide +kernel
theorem dX0_eatenBy_31 : decode cX0_eatenBy 31 = .ok (.bipush (-4), 2) := by decide +kernel
theorem dX0_eatenBy_33 : decode cX0_eatenBy 33 = .ok (.ireturn, 1) := by decide +kernel
theorem dX0_isRight_0 : decode cX0_isRight 0 = .ok (.aload_n 0, 1) := by decide +kernel
theorem dX0_isRight_1 : decode cX0_isRight 1 = .ok (.getfield 21, 3) := by decide +kernel
theorem dX0_isRight_4 : decode cX0_isRight 4 = .ok (.iload_n 2, 1) := by decide +kernel
theorem dX0_isRight_5 : decode cX0_isRight 5 = .ok (.iaload, 1) := by decide +kernel
theorem dX0_isRight_6 : decode cX0_isRight 6 = .ok (.aload_n 0, 1) := by decide +kernel
theorem dX0_isRight_7 : decode cX0_isRight 7 = .ok (.getfield 27, 3) := by decide +kernel
theorem dX0_isRight_10 : decode cX0_isRight 10 = .ok (.getfield 57, 3) := by decide +kernel
theorem dX0_isRight_13 : decode cX0_isRight 13 = .ok (.iload_n 1, 1) := by decide +kernel
theorem dX0_isRight_14 : decode cX0_isRight 14 = .ok (.iaload, 1) := by decide +kernel
theorem dX0_isRight_15 : decode cX0_isRight 15 = .ok (.aload_n 0, 1) := by decide +kernel
theorem dX0_isRight_16 : decode cX0_isRight 16 = .ok (.getfield 27, 3) := by decide +kernel
theorem dX0_isRight_19 : decode cX0_isRight 19 = .ok (.getfield 60, 3) := by decide +kernel
theorem dX0_isRight_22 : decode cX0_isRight 22 = .ok (.iload_n 1, 1) := by decide +kernel
theorem dX0_isRight_23 : decode cX0_isRight 23 = .ok (.iaload, 1) := by decide +kernel
theorem dX0_isRight_24 : decode cX0_isRight 24 = .ok (.invokestatic 63, 3) := by decide +kernel
theorem dX0_isRight_27 : decode cX0_isRight 27 = .ok (.ireturn, 1) := by decide +kernel
theorem dX0_canGoIn_0 : decode cX0_canGoIn 0 = .ok (.aload_n 0, 1) := by decide +kernel
theorem dX0_canGoIn_1 : decode cX0_canGoIn 1 = .ok (.getfield 9, 3) := by decide +kernel
theorem dX0_canGoIn_4 : decode cX0_canGoIn 4 = .ok (.iload_n 1, 1) := by decide +kernel
theorem dX0_canGoIn_5 : decode cX0_canGoIn 5 = .ok (.iaload, 1) := by decide +kernel
theorem dX0_canGoIn_6 : decode cX0_canGoIn 6 = .ok (.ifCond .eq 13, 3) := by decide +kernel
theorem dX0_canGoIn_9 : decode cX0_canGoIn 9 = .ok (.aload_n 0, 1) := by decide +kernel
theorem dX0_canGoIn_10 : decode cX0_canGoIn 10 = .ok (.getfield 9, 3) := by decide +kernel
theorem dX0_canGoIn_13 : decode cX0_canGoIn 13 = .ok (.iload_n 1, 1) := by decide +kernel
theorem dX0_canGoIn_14 : decode cX0_canGoIn 14 = .ok (.iaload, 1) := by decide +kernel
theorem dX0_canGoIn_15 : decode cX0_canGoIn 15 = .ok (.iconst 2, 1) := by decide +kernel
theorem dX0_canGoIn_16 : decode cX0_canGoIn 16 = .ok (.if_icmp .ne 7, 3) := by decide +kernel
theorem dX0_canGoIn_19 : decode cX0_canGoIn 19 = .ok (.iconst 1, 1) := by decide +kernel
theorem dX0_canGoIn_20 : decode cX0_canGoIn 20 = .ok (.goto 4, 3) := by decide +kernel
theorem dX0_canGoIn_23 : decode cX0_canGoIn 23 = .ok (.iconst 0, 1) := by decide +kernel
theorem dX0_canGoIn_24 : decode cX0_canGoIn 24 = .ok (.ireturn, 1) := by decide +kernel
theorem dX0_isFreeAtStart_0 : decode cX0_isFreeAtStart 0 = .ok (.iconst 0, 1) := by decide +kernel
theorem dX0_isFreeAtStart_1 : decode cX0_isFreeAtStart 1 = .ok (.istore_n 2, 1) := by decide +kernel
theorem dX0_isFreeAtStart_2 : decode cX0_isFreeAtStart 2 = .ok (.iload_n 2, 1) := by decide +kernel
theorem dX0_isFreeAtStart_3 : decode cX0_isFreeAtStart 3 = .ok (.aload_n 0, 1) := by decide +kernel
theorem dX0_isFreeAtStart_4 : decode cX0_isFreeAtStart 4 = .ok (.getfield 27, 3) := by decide +kernel
theorem dX0_isFreeAtStart_7 : decode cX0_isFreeAtStart 7 = .ok (.getfield 51, 3) := by decide +kernel
theorem dX0_isFreeAtStart_10 : decode cX0_isFreeAtStart 10 = .ok (.if_icmp .ge 40, 3) := by decide +kernel
theorem dX0_isFreeAtStart_13 : decode cX0_isFreeAtStart 13 = .ok (.aload_n 0, 1) := by decide +kernel
theorem dX0_isFreeAtStart_14 : decode cX0_isFreeAtStart 14 = .ok (.getfield 9, 3) := by decide +kernel
theorem dX0_isFreeAtStart_17 : decode cX0_isFreeAtStart 17 = .ok (.iload_n 2, 1) := by decide +kernel
theorem dX0_isFreeAtStart_18 : decode cX0_isFreeAtStart 18 = .ok (.iaload, 1) := by decide +kernel
theorem dX0_isFreeAtStart_19 : decode cX0_isFreeAtStart 19 = .ok (.iconst 1, 1) := by decide +kernel
theorem dX0_isFreeAtStart_20 : decode cX0_isFreeAtStart 20 = .ok (.if_icmp .ne 24, 3) := by decide +kernel
theorem dX0_isFreeAtStart_23 : decode cX0_isFreeAtStart 23 = .ok (.aload_n 0, 1) := by decide +kernel
theorem dX0_isFreeAtStart_24 : decode cX0_isFreeAtStart 24 = .ok (.getfield 15, 3) := by decide +kernel
theorem dX0_isFreeAtStart_27 : decode cX0_isFreeAtStart 27 = .ok (.iload_n 2, 1) := by decide +kernel
theorem dX0_isFreeAtStart_28 : decode cX0_isFreeAtStart 28 = .ok (.iaload, 1) := by decide +kernel
theorem dX0_isFreeAtStart_29 : decode cX0_isFreeAtStart 29 = .ok (.iload_n 1, 1) := by decide +kernel
theorem dX0_isFreeAtStart_30 : decode cX0_isFreeAtStart 30 = .ok (.if_icmp .ne 14, 3) := by decide +kernel
theorem dX0_isFreeAtStart_33 : decode cX0_isFreeAtStart 33 = .ok (.aload_n 0, 1) := by decide +kernel
theorem dX0_isFreeAtStart_34 : decode cX0_isFreeAtStart 34 = .ok (.getfield 18, 3) := by decide +kernel
theorem dX0_isFreeAtStart_37 : decode cX0_isFreeAtStart 37 = .ok (.iload_n 2, 1) := by decide +kernel
theorem dX0_isFreeAtStart_38 : decode cX0_isFreeAtStart 38 = .ok (.iaload, 1) := by decide +kernel
theorem dX0_isFreeAtStart_39 : decode cX0_isFreeAtStart 39 = .ok (.ifCond .ne 5, 3) := by decide +kernel
theorem dX0_isFreeAtStart_42 : decode cX0_isFreeAtStart 42 = .ok (.iconst 0, 1) := by decide +kernel
theorem dX0_isFreeAtStart_43 : decode cX0_isFreeAtStart 43 = .ok (.ireturn, 1) := by decide +kernel
theorem dX0_isFreeAtStart_44 : decode cX0_isFreeAtStart 44 = .ok (.iinc 2 1, 3) := by decide +kernel
theorem dX0_isFreeAtStart_47 : decode cX0_isFreeAtStart 47 = .ok (.goto (-45), 3) := by decide +kernel
theorem dX0_isFreeAtStart_50 : decode cX0_isFreeAtStart 50 = .ok (.iconst 1, 1) := by decide +kernel
theorem dX0_isFreeAtStart_51 : decode cX0_isFreeAtStart 51 = .ok (.ireturn, 1) := by decide +kernel
theorem dX0_setAtStart_0 : decode cX0_setAtStart 0 = .ok (.aload_n 0, 1) := by decide +kernel
theorem dX0_setAtStart_1 : decode cX0_setAtStart 1 = .ok (.getfield 9, 3) := by decide +kernel
theorem dX0_setAtStart_4 : decode cX0_setAtStart 4 = .ok (.iload_n 1, 1) := by decide +kernel
theorem dX0_setAtStart_5 : decode cX0_setAtStart 5 = .ok (.iconst 1, 1) := by decide +kernel
theorem dX0_setAtStart_6 : decode cX0_setAtStart 6 = .ok (.iastore, 1) := by decide +kernel
theorem dX0_setAtStart_7 : decode cX0_setAtStart 7 = .ok (.aload_n 0, 1) := by decide +kernel
theorem dX0_setAtStart_8 : decode cX0_setAtStart 8 = .ok (.getfield 15, 3) := by decide +kernel
theorem dX0_setAtStart_11 : decode cX0_setAtStart 11 = .ok (.iload_n 1, 1) := by decide +kernel
theorem dX0_setAtStart_12 : decode cX0_setAtStart 12 = .ok (.iload_n 2, 1) := by decide +kernel
theorem dX0_setAtStart_13 : decode cX0_setAtStart 13 = .ok (.iastore, 1) := by decide +kernel
theorem dX0_setAtStart_14 : decode cX0_setAtStart 14 = .ok (.aload_n 0, 1) := by decide +kernel
theorem dX0_setAtStart_15 : decode cX0_setAtStart 15 = .ok (.getfield 18, 3) := by decide +kernel
theorem dX0_setAtStart_18 : decode cX0_setAtStart 18 = .ok (.iload_n 1, 1) := by decide +kernel
theorem dX0_setAtStart_19 : decode cX0_setAtStart 19 = .ok (.iconst 0, 1) := by decide +kernel
theorem dX0_setAtStart_20 : decode cX0_setAtStart 20 = .ok (.iastore, 1) := by decide +kernel
theorem dX0_setAtStart_21 : decode cX0_setAtStart 21 = .ok (.return_, 1) := by decide +kernel
theorem dX0_mayEat_0 : decode cX0_mayEat 0 = .ok (.aload_n 0, 1) := by decide +kernel
theorem dX0_mayEat_1 : decode cX0_mayEat 1 = .ok (.getfield 9, 3) := by decide +kernel
theorem dX0_mayEat_4 : decode cX0_mayEat 4 = .ok (.iload_n 2, 1) := by decide +kernel
theorem dX0_mayEat_5 : decode cX0_mayEat 5 = .ok (.iaload, 1) := by decide +kernel
theorem dX0_mayEat_6 : decode cX0_mayEat 6 = .ok (.iconst 2, 1) := by decide +kernel
theorem dX0_mayEat_7 : decode cX0_mayEat 7 = .ok (.if_icmp .ne 38, 3) := by decide +kernel
theorem dX0_mayEat_10 : decode cX0_mayEat 10 = .ok (.aload_n 0, 1) := by decide +kernel
theorem dX0_mayEat_11 : decode cX0_mayEat 11 = .ok (.getfield 27, 3) := by decide +kernel
theorem dX0_mayEat_14 : decode cX0_mayEat 14 = .ok (.getfield 54, 3) := by decide +kernel
theorem dX0_mayEat_17 : decode cX0_mayEat 17 = .ok (.iload_n 2, 1) := by decide +kernel
theorem dX0_mayEat_18 : decode cX0_mayEat 18 = .ok (.iaload, 1) := by decide +kernel
theorem dX0_mayEat_19 : decode cX0_mayEat 19 = .ok (.aload_n 0, 1) := by decide +kernel
theorem dX0_mayEat_20 : decode cX0_mayEat 20 = .ok (.getfield 27, 3) := by decide +kernel
theorem dX0_mayEat_23 : decode cX0_mayEat 23 = .ok (.getfield 54, 3) := by decide +kernel
theorem dX0_mayEat_26 : decode cX0_mayEat 26 = .ok (.iload_n 1, 1) := by decide +kernel
theorem dX0_mayEat_27 : decode cX0_mayEat 27 = .ok (.iaload, 1) := by decide +kernel
theorem dX0_mayEat_28 : decode cX0_mayEat 28 = .ok (.if_icmp .ne 17, 3) := by decide +kernel
theorem dX0_mayEat_31 : decode cX0_mayEat 31 = .ok (.aload_n 0, 1) := by decide +kernel
theorem dX0_mayEat_32 : decode cX0_mayEat 32 = .ok (.iload_n 1, 1) := by decide +kernel
theorem dX0_mayEat_33 : decode cX0_mayEat 33 = .ok (.invokevirtual 67, 3) := by decide +kernel
theorem dX0_mayEat_36 : decode cX0_mayEat 36 = .ok (.bipush (-4), 2) := by decide +kernel
theorem dX0_mayEat_38 : decode cX0_mayEat 38 = .ok (.if_icmp .ne 7, 3) := by decide +kernel
theorem dX0_mayEat_41 : decode cX0_mayEat 41 = .ok (.iconst 1, 1) := by decide +kernel
theorem dX0_mayEat_42 : decode cX0_mayEat 42 = .ok (.goto 4, 3) := by decide +kernel
theorem dX0_mayEat_45 : decode cX0_mayEat 45 = .ok (.iconst 0, 1) := by decide +kernel
theorem dX0_mayEat_46 : decode cX0_mayEat 46 = .ok (.ireturn, 1) := by decide +kernel
theorem dX0_eat_0 : decode cX0_eat 0 = .ok (.aload_n 0, 1) := by decide +kernel
theorem dX0_eat_1 : decode cX0_eat 1 = .ok (.getfield 9, 3) := by decide +kernel
theorem dX0_eat_4 : decode cX0_eat 4 = .ok (.iload_n 2, 1) := by decide +kernel
theorem dX0_eat_5 : decode cX0_eat 5 = .ok (.iconst 3, 1) := by decide +kernel
theorem dX0_eat_6 : decode cX0_eat 6 = .ok (.iastore, 1) := by decide +kernel
theorem dX0_eat_7 : decode cX0_eat 7 = .ok (.aload_n 0, 1) := by decide +kernel
theorem dX0_eat_8 : decode cX0_eat 8 = .ok (.getfield 24, 3) := by decide +kernel
theorem dX0_eat_11 : decode cX0_eat 11 = .ok (.iload_n 2, 1) := by decide +kernel
theorem dX0_eat_12 : decode cX0_eat 12 = .ok (.iload_n 1, 1) := by decide +kernel
theorem dX0_eat_13 : decode cX0_eat 13 = .ok (.iastore, 1) := by decide +kernel
theorem dX0_eat_14 : decode cX0_eat 14 = .ok (.return_, 1) := by decide +kernel
theorem dX0_goOn_0 : decode cX0_goOn 0 = .ok (.aload_n 0, 1) := by decide +kernel
theorem dX0_goOn_1 : decode cX0_goOn 1 = .ok (.iconst 1, 1) := by decide +kernel
theorem dX0_goOn_2 : decode cX0_goOn 2 = .ok (.invokevirtual 71, 3) := by decide +kernel
theorem dX0_goOn_5 : decode cX0_goOn 5 = .ok (.istore_n 1, 1) := by decide +kernel
theorem dX0_goOn_6 : decode cX0_goOn 6 = .ok (.iconst 0, 1) := by decide +kernel
theorem dX0_goOn_7 : decode cX0_goOn 7 = .ok (.istore_n 2, 1) := by decide +kernel
theorem dX0_goOn_8 : decode cX0_goOn 8 = .ok (.iload_n 2, 1) := by decide +kernel
theorem dX0_goOn_9 : decode cX0_goOn 9 = .ok (.aload_n 0, 1) := by decide +kernel
theorem dX0_goOn_10 : decode cX0_goOn 10 = .ok (.getfield 27, 3) := by decide +kernel
theorem dX0_goOn_13 : decode cX0_goOn 13 = .ok (.getfield 51, 3) := by decide +kernel
theorem dX0_goOn_16 : decode cX0_goOn 16 = .ok (.if_icmp .ge 24, 3) := by decide +kernel
theorem dX0_goOn_19 : decode cX0_goOn 19 = .ok (.aload_n 0, 1) := by decide +kernel
theorem dX0_goOn_20 : decode cX0_goOn 20 = .ok (.getfield 9, 3) := by decide +kernel
theorem dX0_goOn_23 : decode cX0_goOn 23 = .ok (.iload_n 2, 1) := by decide +kernel
theorem dX0_goOn_24 : decode cX0_goOn 24 = .ok (.iaload, 1) := by decide +kernel
theorem dX0_goOn_25 : decode cX0_goOn 25 = .ok (.iconst 1, 1) := by decide +kernel
theorem dX0_goOn_26 : decode cX0_goOn 26 = .ok (.if_icmp .ne 8, 3) := by decide +kernel
theorem dX0_goOn_29 : decode cX0_goOn 29 = .ok (.aload_n 0, 1) := by decide +kernel
theorem dX0_goOn_30 : decode cX0_goOn 30 = .ok (.iload_n 2, 1) := by decide +kernel
theorem dX0_goOn_31 : decode cX0_goOn 31 = .ok (.invokevirtual 74, 3) := by decide +kernel
theorem dX0_goOn_34 : decode cX0_goOn 34 = .ok (.iinc 2 1, 3) := by decide +kernel
theorem dX0_goOn_37 : decode cX0_goOn 37 = .ok (.goto (-29), 3) := by decide +kernel
theorem dX0_goOn_40 : decode cX0_goOn 40 = .ok (.iload_n 1, 1) := by decide +kernel
theorem dX0_goOn_41 : decode cX0_goOn 41 = .ok (.ifCond .le 22, 3) := by decide +kernel
theorem dX0_goOn_44 : decode cX0_goOn 44 = .ok (.aload_n 0, 1) := by decide +kernel
theorem dX0_goOn_45 : decode cX0_goOn 45 = .ok (.iconst 0, 1) := by decide +kernel
theorem dX0_goOn_46 : decode cX0_goOn 46 = .ok (.aload_n 0, 1) := by decide +kernel
theorem dX0_goOn_47 : decode cX0_goOn 47 = .ok (.getfield 41, 3) := by decide +kernel
theorem dX0_goOn_50 : decode cX0_goOn 50 = .ok (.iload_n 1, 1) := by decide +kernel
theorem dX0_goOn_51 : decode cX0_goOn 51 = .ok (.iconst 2, 1) := by decide +kernel
theorem dX0_goOn_52 : decode cX0_goOn 52 = .ok (.idiv, 1) := by decide +kernel
theorem dX0_goOn_53 : decode cX0_goOn 53 = .ok (.isub, 1) := by decide +kernel
theorem dX0_goOn_54 : decode cX0_goOn 54 = .ok (.invokestatic 78, 3) := by decide +kernel
theorem dX0_goOn_57 : decode cX0_goOn 57 = .ok (.putfield 41, 3) := by decide +kernel
theorem dX0_goOn_60 : decode cX0_goOn 60 = .ok (.goto 27, 3) := by decide +kernel
theorem dX0_goOn_63 : decode cX0_goOn 63 = .ok (.aload_n 0, 1) := by decide +kernel
theorem dX0_goOn_64 : decode cX0_goOn 64 = .ok (.getfield 41, 3) := by decide +kernel
theorem dX0_goOn_67 : decode cX0_goOn 67 = .ok (.aload_n 0, 1) := by decide +kernel
theorem dX0_goOn_68 : decode cX0_goOn 68 = .ok (.getfield 27, 3) := by decide +kernel
theorem dX0_goOn_71 : decode cX0_goOn 71 = .ok (.getfield 84, 3) := by decide +kernel
theorem dX0_goOn_74 : decode cX0_goOn 74 = .ok (.if_icmp .ge 13, 3) := by decide +kernel
theorem dX0_goOn_77 : decode cX0_goOn 77 = .ok (.aload_n 0, 1) := by decide +kernel
theorem dX0_goOn_78 : decode cX0_goOn 78 = .ok (.dup, 1) := by decide +kernel
theorem dX0_goOn_79 : decode cX0_goOn 79 = .ok (.getfield 41, 3) := by decide +kernel
theorem dX0_goOn_82 : decode cX0_goOn 82 = .ok (.iconst 1, 1) := by decide +kernel
theorem dX0_goOn_83 : decode cX0_goOn 83 = .ok (.iadd, 1) := by decide +kernel
theorem dX0_goOn_84 : decode cX0_goOn 84 = .ok (.putfield 41, 3) := by decide +kernel
theorem dX0_goOn_87 : decode cX0_goOn 87 = .ok (.aload_n 0, 1) := by decide +kernel
theorem dX0_goOn_88 : decode cX0_goOn 88 = .ok (.dup, 1) := by decide +kernel
theorem dX0_goOn_89 : decode cX0_goOn 89 = .ok (.getfield 42, 3) := by decide +kernel
theorem dX0_goOn_92 : decode cX0_goOn 92 = .ok (.iconst 1, 1) := by decide +kernel
theorem dX0_goOn_93 : decode cX0_goOn 93 = .ok (.iadd, 1) := by decide +kernel
theorem dX0_goOn_94 : decode cX0_goOn 94 = .ok (.putfield 42, 3) := by decide +kernel
theorem dX0_goOn_97 : decode cX0_goOn 97 = .ok (.return_, 1) := by decide +kernel
theorem dX0_carry_0 : decode cX0_carry 0 = .ok (.aload_n 0, 1) := by decide +kernel
theorem dX0_carry_1 : decode cX0_carry 1 = .ok (.getfield 21, 3) := by decide +kernel
theorem dX0_carry_4 : decode cX0_carry 4 = .ok (.iload_n 1, 1) := by decide +kernel
theorem dX0_carry_5 : decode cX0_carry 5 = .ok (.dup2, 1) := by decide +kernel
theorem dX0_carry_6 : decode cX0_carry 6 = .ok (.iaload, 1) := by decide +kernel
theorem dX0_carry_7 : decode cX0_carry 7 = .ok (.aload_n 0, 1) := by decide +kernel
theorem dX0_carry_8 : decode cX0_carry 8 = .ok (.getfield 27, 3) := by decide +kernel
theorem dX0_carry_11 : decode cX0_carry 11 = .ok (.getfield 54, 3) := by decide +kernel
theorem dX0_carry_14 : decode cX0_carry 14 = .ok (.iload_n 1, 1) := by decide +kernel
theorem dX0_carry_15 : decode cX0_carry 15 = .ok (.iaload, 1) := by decide +kernel
theorem dX0_carry_16 : decode cX0_carry 16 = .ok (.aload_n 0, 1) := by decide +kernel
theorem dX0_carry_17 : decode cX0_carry 17 = .ok (.getfield 15, 3) := by decide +kernel
theorem dX0_carry_20 : decode cX0_carry 20 = .ok (.iload_n 1, 1) := by decide +kernel
theorem dX0_carry_21 : decode cX0_carry 21 = .ok (.iaload, 1) := by decide +kernel
theorem dX0_carry_22 : decode cX0_carry 22 = .ok (.aload_n 0, 1) := by decide +kernel
theorem dX0_carry_23 : decode cX0_carry 23 = .ok (.getfield 41, 3) := by decide +kernel
theorem dX0_carry_26 : decode cX0_carry 26 = .ok (.invokestatic 87, 3) := by decide +kernel
theorem dX0_carry_29 : decode cX0_carry 29 = .ok (.iadd, 1) := by decide +kernel
theorem dX0_carry_30 : decode cX0_carry 30 = .ok (.iastore, 1) := by decide +kernel
theorem dX0_carry_31 : decode cX0_carry 31 = .ok (.aload_n 0, 1) := by decide +kernel
theorem dX0_carry_32 : decode cX0_carry 32 = .ok (.getfield 18, 3) := by decide +kernel
theorem dX0_carry_35 : decode cX0_carry 35 = .ok (.iload_n 1, 1) := by decide +kernel
theorem dX0_carry_36 : decode cX0_carry 36 = .ok (.dup2, 1) := by decide +kernel
theorem dX0_carry_37 : decode cX0_carry 37 = .ok (.iaload, 1) := by decide +kernel
theorem dX0_carry_38 : decode cX0_carry 38 = .ok (.aload_n 0, 1) := by decide +kernel
theorem dX0_carry_39 : decode cX0_carry 39 = .ok (.getfield 37, 3) := by decide +kernel
theorem dX0_carry_42 : decode cX0_carry 42 = .ok (.iadd, 1) := by decide +kernel
theorem dX0_carry_43 : decode cX0_carry 43 = .ok (.iastore, 1) := by decide +kernel
theorem dX0_carry_44 : decode cX0_carry 44 = .ok (.aload_n 0, 1) := by decide +kernel
theorem dX0_carry_45 : decode cX0_carry 45 = .ok (.getfield 18, 3) := by decide +kernel
theorem dX0_carry_48 : decode cX0_carry 48 = .ok (.iload_n 1, 1) := by decide +kernel
theorem dX0_carry_49 : decode cX0_carry 49 = .ok (.iaload, 1) := by decide +kernel
theorem dX0_carry_50 : decode cX0_carry 50 = .ok (.aload_n 0, 1) := by decide +kernel
theorem dX0_carry_51 : decode cX0_carry 51 = .ok (.getfield 27, 3) := by decide +kernel
theorem dX0_carry_54 : decode cX0_carry 54 = .ok (.getfield 91, 3) := by decide +kernel
theorem dX0_carry_57 : decode cX0_carry 57 = .ok (.if_icmp .lt 10, 3) := by decide +kernel
theorem dX0_carry_60 : decode cX0_carry 60 = .ok (.aload_n 0, 1) := by decide +kernel
theorem dX0_carry_61 : decode cX0_carry 61 = .ok (.getfield 9, 3) := by decide +kernel
theorem dX0_carry_64 : decode cX0_carry 64 = .ok (.iload_n 1, 1) := by decide +kernel
theorem dX0_carry_65 : decode cX0_carry 65 = .ok (.iconst 2, 1) := by decide +kernel
theorem dX0_carry_66 : decode cX0_carry 66 = .ok (.iastore, 1) := by decide +kernel
theorem dX0_carry_67 : decode cX0_carry 67 = .ok (.return_, 1) := by decide +kernel
theorem dX0_goOnTillFallen_0 : decode cX0_goOnTillFallen 0 = .ok (.iconst 0, 1) := by decide +kernel
theorem dX0_goOnTillFallen_1 : decode cX0_goOnTillFallen 1 = .ok (.istore_n 2, 1) := by decide +kernel
theorem dX0_goOnTillFallen_2 : decode cX0_goOnTillFallen 2 = .ok (.iload_n 2, 1) := by decide +kernel
theorem dX0_goOnTillFallen_3 : decode cX0_goOnTillFallen 3 = .ok (.bipush 40, 2) := by decide +kernel
theorem dX0_goOnTillFallen_5 : decode cX0_goOnTillFallen 5 = .ok (.if_icmp .ge 23, 3) := by decide +kernel
theorem dX0_goOnTillFallen_8 : decode cX0_goOnTillFallen 8 = .ok (.aload_n 0, 1) := by decide +kernel
theorem dX0_goOnTillFallen_9 : decode cX0_goOnTillFallen 9 = .ok (.getfield 9, 3) := by decide +kernel
theorem dX0_goOnTillFallen_12 : decode cX0_goOnTillFallen 12 = .ok (.iload_n 1, 1) := by decide +kernel
theorem dX0_goOnTillFallen_13 : decode cX0_goOnTillFallen 13 = .ok (.iaload, 1) := by decide +kernel
theorem dX0_goOnTillFallen_14 : decode cX0_goOnTillFallen 14 = .ok (.iconst 1, 1) := by decide +kernel
theorem dX0_goOnTillFallen_15 : decode cX0_goOnTillFallen 15 = .ok (.if_icmp .ne 13, 3) := by decide +kernel
theorem dX0_goOnTillFallen_18 : decode cX0_goOnTillFallen 18 = .ok (.aload_n 0, 1) := by decide +kernel
theorem dX0_goOnTillFallen_19 : decode cX0_goOnTillFallen 19 = .ok (.invokevirtual 93, 3) := by decide +kernel
theorem dX0_goOnTillFallen_22 : decode cX0_goOnTillFallen 22 = .ok (.iinc 2 1, 3) := by decide +kernel
theorem dX0_goOnTillFallen_25 : decode cX0_goOnTillFallen 25 = .ok (.goto (-23), 3) := by decide +kernel
theorem dX0_goOnTillFallen_28 : decode cX0_goOnTillFallen 28 = .ok (.return_, 1) := by decide +kernel
theorem dX0_isRightAfterRide_0 : decode cX0_isRightAfterRide 0 = .ok (.aload_n 0, 1) := by decide +kernel
theorem dX0_isRightAfterRide_1 : decode cX0_isRightAfterRide 1 = .ok (.iload_n 1, 1) := by decide +kernel
theorem dX0_isRightAfterRide_2 : decode cX0_isRightAfterRide 2 = .ok (.iload_n 2, 1) := by decide +kernel
theorem dX0_isRightAfterRide_3 : decode cX0_isRightAfterRide 3 = .ok (.invokevirtual 96, 3) := by decide +kernel
theorem dX0_isRightAfterRide_6 : decode cX0_isRightAfterRide 6 = .ok (.aload_n 0, 1) := by decide +kernel
theorem dX0_isRightAfterRide_7 : decode cX0_isRightAfterRide 7 = .ok (.iload_n 1, 1) := by decide +kernel
theorem dX0_isRightAfterRide_8 : decode cX0_isRightAfterRide 8 = .ok (.invokevirtual 100, 3) := by decide +kernel
theorem dX0_isRightAfterRide_11 : decode cX0_isRightAfterRide 11 = .ok (.aload_n 0, 1) := by decide +kernel
theorem dX0_isRightAfterRide_12 : decode cX0_isRightAfterRide 12 = .ok (.iload_n 1, 1) := by decide +kernel
theorem dX0_isRightAfterRide_13 : decode cX0_isRightAfterRide 13 = .ok (.iload_n 1, 1) := by decide +kernel
theorem dX0_isRightAfterRide_14 : decode cX0_isRightAfterRide 14 = .ok (.invokevirtual 103, 3) := by decide +kernel
theorem dX0_isRightAfterRide_17 : decode cX0_isRightAfterRide 17 = .ok (.ireturn, 1) := by decide +kernel
theorem dX0_contentBits_0 : decode cX0_contentBits 0 = .ok (.iconst 0, 1) := by decide +kernel
theorem dX0_contentBits_1 : decode cX0_contentBits 1 = .ok (.istore_n 1, 1) := by decide +kernel
theorem dX0_contentBits_2 : decode cX0_contentBits 2 = .ok (.iconst 0, 1) := by decide +kernel
theorem dX0_contentBits_3 : decode cX0_contentBits 3 = .ok (.istore_n 2, 1) := by decide +kernel
theorem dX0_contentBits_4 : decode cX0_contentBits 4 = .ok (.iload_n 2, 1) := by decide +kernel
theorem dX0_contentBits_5 : decode cX0_contentBits 5 = .ok (.aload_n 0, 1) := by decide +kernel
theorem dX0_contentBits_6 : decode cX0_contentBits 6 = .ok (.getfield 27, 3) := by decide +kernel
theorem dX0_contentBits_9 : decode cX0_contentBits 9 = .ok (.getfield 51, 3) := by decide +kernel
theorem dX0_contentBits_12 : decode cX0_contentBits 12 = .ok (.if_icmp .ge 35, 3) := by decide +kernel
theorem dX0_contentBits_15 : decode cX0_contentBits 15 = .ok (.aload_n 0, 1) := by decide +kernel
theorem dX0_contentBits_16 : decode cX0_contentBits 16 = .ok (.getfield 24, 3) := by decide +kernel
theorem dX0_contentBits_19 : decode cX0_contentBits 19 = .ok (.iload_n 2, 1) := by decide +kernel
theorem dX0_contentBits_20 : decode cX0_contentBits 20 = .ok (.iaload, 1) := by decide +kernel
theorem dX0_contentBits_21 : decode cX0_contentBits 21 = .ok (.istore_n 3, 1) := by decide +kernel
theorem dX0_contentBits_22 : decode cX0_contentBits 22 = .ok (.iload_n 3, 1) := by decide +kernel
theorem dX0_contentBits_23 : decode cX0_contentBits 23 = .ok (.ifCond .lt 18, 3) := by decide +kernel
theorem dX0_contentBits_26 : decode cX0_contentBits 26 = .ok (.aload_n 0, 1) := by decide +kernel
theorem dX0_contentBits_27 : decode cX0_contentBits 27 = .ok (.iload_n 3, 1) := by decide +kernel
theorem dX0_contentBits_28 : decode cX0_contentBits 28 = .ok (.iload_n 2, 1) := by decide +kernel
theorem dX0_contentBits_29 : decode cX0_contentBits 29 = .ok (.invokevirtual 103, 3) := by decide +kernel
theorem dX0_contentBits_32 : decode cX0_contentBits 32 = .ok (.ifCond .eq 9, 3) := by decide +kernel
theorem dX0_contentBits_35 : decode cX0_contentBits 35 = .ok (.iload_n 1, 1) := by decide +kernel
theorem dX0_contentBits_36 : decode cX0_contentBits 36 = .ok (.iconst 1, 1) := by decide +kernel
theorem dX0_contentBits_37 : decode cX0_contentBits 37 = .ok (.iload_n 3, 1) := by decide +kernel
theorem dX0_contentBits_38 : decode cX0_contentBits 38 = .ok (.ishl, 1) := by decide +kernel
theorem dX0_contentBits_39 : decode cX0_contentBits 39 = .ok (.ior, 1) := by decide +kernel
theorem dX0_contentBits_40 : decode cX0_contentBits 40 = .ok (.istore_n 1, 1) := by decide +kernel
theorem dX0_contentBits_41 : decode cX0_contentBits 41 = .ok (.iinc 2 1, 3) := by decide +kernel
theorem dX0_contentBits_44 : decode cX0_contentBits 44 = .ok (.goto (-40), 3) := by decide +kernel
theorem dX0_contentBits_47 : decode cX0_contentBits 47 = .ok (.iload_n 1, 1) := by decide +kernel
theorem dX0_contentBits_48 : decode cX0_contentBits 48 = .ok (.ireturn, 1) := by decide +kernel
theorem dX0_actByDraw_0 : decode cX0_actByDraw 0 = .ok (.aload_n 0, 1) := by decide +kernel
theorem dX0_actByDraw_1 : decode cX0_actByDraw 1 = .ok (.getfield 27, 3) := by decide +kernel
theorem dX0_actByDraw_4 : decode cX0_actByDraw 4 = .ok (.getfield 51, 3) := by decide +kernel
theorem dX0_actByDraw_7 : decode cX0_actByDraw 7 = .ok (.iconst 1, 1) := by decide +kernel
theorem dX0_actByDraw_8 : decode cX0_actByDraw 8 = .ok (.if_icmp .ge 4, 3) := by decide +kernel
theorem dX0_actByDraw_11 : decode cX0_actByDraw 11 = .ok (.return_, 1) := by decide +kernel
theorem dX0_actByDraw_12 : decode cX0_actByDraw 12 = .ok (.iload_n 1, 1) := by decide +kernel
theorem dX0_actByDraw_13 : decode cX0_actByDraw 13 = .ok (.aload_n 0, 1) := by decide +kernel
theorem dX0_actByDraw_14 : decode cX0_actByDraw 14 = .ok (.getfield 27, 3) := by decide +kernel
theorem dX0_actByDraw_17 : decode cX0_actByDraw 17 = .ok (.getfield 51, 3) := by decide +kernel
theorem dX0_actByDraw_20 : decode cX0_actByDraw 20 = .ok (.irem, 1) := by decide +kernel
theorem dX0_actByDraw_21 : decode cX0_actByDraw 21 = .ok (.istore_n 2, 1) := by decide +kernel
theorem dX0_actByDraw_22 : decode cX0_actByDraw 22 = .ok (.iload_n 1, 1) := by decide +kernel
theorem dX0_actByDraw_23 : decode cX0_actByDraw 23 = .ok (.bipush 16, 2) := by decide +kernel
theorem dX0_actByDraw_25 : decode cX0_actByDraw 25 = .ok (.idiv, 1) := by decide +kernel
theorem dX0_actByDraw_26 : decode cX0_actByDraw 26 = .ok (.iconst 2, 1) := by decide +kernel
theorem dX0_actByDraw_27 : decode cX0_actByDraw 27 = .ok (.irem, 1) := by decide +kernel
theorem dX0_actByDraw_28 : decode cX0_actByDraw 28 = .ok (.istore_n 3, 1) := by decide +kernel
theorem dX0_actByDraw_29 : decode cX0_actByDraw 29 = .ok (.aload_n 0, 1) := by decide +kernel
theorem dX0_actByDraw_30 : decode cX0_actByDraw 30 = .ok (.getfield 9, 3) := by decide +kernel
theorem dX0_actByDraw_33 : decode cX0_actByDraw 33 = .ok (.iload_n 2, 1) := by decide +kernel
theorem dX0_actByDraw_34 : decode cX0_actByDraw 34 = .ok (.iaload, 1) := by decide +kernel
theorem dX0_actByDraw_35 : decode cX0_actByDraw 35 = .ok (.ifCond .ne 17, 3) := by decide +kernel
theorem dX0_actByDraw_38 : decode cX0_actByDraw 38 = .ok (.aload_n 0, 1) := by decide +kernel
theorem dX0_actByDraw_39 : decode cX0_actByDraw 39 = .ok (.iload_n 3, 1) := by decide +kernel
theorem dX0_actByDraw_40 : decode cX0_actByDraw 40 = .ok (.invokevirtual 107, 3) := by decide +kernel
theorem dX0_actByDraw_43 : decode cX0_actByDraw 43 = .ok (.ifCond .eq 9, 3) := by decide +kernel
theorem dX0_actByDraw_46 : decode cX0_actByDraw 46 = .ok (.aload_n 0, 1) := by decide +kernel
theorem dX0_actByDraw_47 : decode cX0_actByDraw 47 = .ok (.iload_n 2, 1) := by decide +kernel
theorem dX0_actByDraw_48 : decode cX0_actByDraw 48 = .ok (.iload_n 3, 1) := by decide +kernel
theorem dX0_actByDraw_49 : decode cX0_actByDraw 49 = .ok (.invokevirtual 96, 3) := by decide +kernel
theorem dX0_actByDraw_52 : decode cX0_actByDraw 52 = .ok (.aload_n 0, 1) := by decide +kernel
theorem dX0_actByDraw_53 : decode cX0_actByDraw 53 = .ok (.iload_n 2, 1) := by decide +kernel
theorem dX0_actByDraw_54 : decode cX0_actByDraw 54 = .ok (.invokevirtual 111, 3) := by decide +kernel
theorem dX0_actByDraw_57 : decode cX0_actByDraw 57 = .ok (.return_, 1) := by decide +kernel
theorem dX0_eatLowestRight_0 : decode cX0_eatLowestRight 0 = .ok (.iconst 0, 1) := by decide +kernel
theorem dX0_eatLowestRight_1 : decode cX0_eatLowestRight 1 = .ok (.istore_n 2, 1) := by decide +kernel
theorem dX0_eatLowestRight_2 : decode cX0_eatLowestRight 2 = .ok (.iload_n 2, 1) := by decide +kernel
theorem dX0_eatLowestRight_3 : decode cX0_eatLowestRight 3 = .ok (.aload_n 0, 1) := by decide +kernel
theorem dX0_eatLowestRight_4 : decode cX0_eatLowestRight 4 = .ok (.getfield 27, 3) := by decide +kernel
theorem dX0_eatLowestRight_7 : decode cX0_eatLowestRight 7 = .ok (.getfield 51, 3) := by decide +kernel
theorem dX0_eatLowestRight_10 : decode cX0_eatLowestRight 10 = .ok (.if_icmp .ge 34, 3) := by decide +kernel
theorem dX0_eatLowestRight_13 : decode cX0_eatLowestRight 13 = .ok (.aload_n 0, 1) := by decide +kernel
theorem dX0_eatLowestRight_14 : decode cX0_eatLowestRight 14 = .ok (.iload_n 1, 1) := by decide +kernel
theorem dX0_eatLowestRight_15 : decode cX0_eatLowestRight 15 = .ok (.iload_n 2, 1) := by decide +kernel
theorem dX0_eatLowestRight_16 : decode cX0_eatLowestRight 16 = .ok (.invokevirtual 114, 3) := by decide +kernel
theorem dX0_eatLowestRight_19 : decode cX0_eatLowestRight 19 = .ok (.ifCond .eq 19, 3) := by decide +kernel
theorem dX0_eatLowestRight_22 : decode cX0_eatLowestRight 22 = .ok (.aload_n 0, 1) := by decide +kernel
theorem dX0_eatLowestRight_23 : decode cX0_eatLowestRight 23 = .ok (.iload_n 1, 1) := by decide +kernel
theorem dX0_eatLowestRight_24 : decode cX0_eatLowestRight 24 = .ok (.iload_n 2, 1) := by decide +kernel
theorem dX0_eatLowestRight_25 : decode cX0_eatLowestRight 25 = .ok (.invokevirtual 103, 3) := by decide +kernel
theorem dX0_eatLowestRight_28 : decode cX0_eatLowestRight 28 = .ok (.ifCond .eq 10, 3) := by decide +kernel
theorem dX0_eatLowestRight_31 : decode cX0_eatLowestRight 31 = .ok (.aload_n 0, 1) := by decide +kernel
theorem dX0_eatLowestRight_32 : decode cX0_eatLowestRight 32 = .ok (.iload_n 1, 1) := by decide +kernel
theorem dX0_eatLowestRight_33 : decode cX0_eatLowestRight 33 = .ok (.iload_n 2, 1) := by decide +kernel
theorem dX0_eatLowestRight_34 : decode cX0_eatLowestRight 34 = .ok (.invokevirtual 117, 3) := by decide +kernel
theorem dX0_eatLowestRight_37 : decode cX0_eatLowestRight 37 = .ok (.return_, 1) := by decide +kernel
theorem dX0_eatLowestRight_38 : decode cX0_eatLowestRight 38 = .ok (.iinc 2 1, 3) := by decide +kernel
theorem dX0_eatLowestRight_41 : decode cX0_eatLowestRight 41 = .ok (.goto (-39), 3) := by decide +kernel
theorem dX0_eatLowestRight_44 : decode cX0_eatLowestRight 44 = .ok (.return_, 1) := by decide +kernel
theorem dX1_init_0 : decode cX1_init 0 = .ok (.aload_n 0, 1) := by decide +kernel
theorem dX1_init_1 : decode cX1_init 1 = .ok (.invokespecial 3, 3) := by decide +kernel
theorem dX1_init_4 : decode cX1_init 4 = .ok (.aload_n 0, 1) := by decide +kernel
theorem dX1_init_5 : decode cX1_init 5 = .ok (.bipush 8, 2) := by decide +kernel
theorem dX1_init_7 : decode cX1_init 7 = .ok (.anewarray 9, 3) := by decide +kernel
theorem dX1_init_10 : decode cX1_init 10 = .ok (.putfield 11, 3) := by decide +kernel
theorem dX1_init_13 : decode cX1_init 13 = .ok (.iconst 0, 1) := by decide +kernel
theorem dX1_init_14 : decode cX1_init 14 = .ok (.istore_n 2, 1) := by decide +kernel
theorem dX1_init_15 : decode cX1_init 15 = .ok (.iload_n 2, 1) := by decide +kernel
theorem dX1_init_16 : decode cX1_init 16 = .ok (.bipush 8, 2) := by decide +kernel
theorem dX1_init_18 : decode cX1_init 18 = .ok (.if_icmp .ge 23, 3) := by decide +kernel
theorem dX1_init_21 : decode cX1_init 21 = .ok (.aload_n 0, 1) := by decide +kernel
theorem dX1_init_22 : decode cX1_init 22 = .ok (.getfield 11, 3) := by decide +kernel
theorem dX1_init_25 : decode cX1_init 25 = .ok (.iload_n 2, 1) := by decide +kernel
theorem dX1_init_26 : decode cX1_init 26 = .ok (.new 9, 3) := by decide +kernel
theorem dX1_init_29 : decode cX1_init 29 = .ok (.dup, 1) := by decide +kernel
theorem dX1_init_30 : decode cX1_init 30 = .ok (.aload_n 1, 1) := by decide +kernel
theorem dX1_init_31 : decode cX1_init 31 = .ok (.invokespecial 17, 3) := by decide +kernel
theorem dX1_init_34 : decode cX1_init 34 = .ok (.aastore, 1) := by decide +kernel
theorem dX1_init_35 : decode cX1_init 35 = .ok (.iinc 2 1, 3) := by decide +kernel
theorem dX1_init_38 : decode cX1_init 38 = .ok (.goto (-23), 3) := by decide +kernel
theorem dX1_init_41 : decode cX1_init 41 = .ok (.return_, 1) := by decide +kernel
theorem dX1_clear_0 : decode cX1_clear 0 = .ok (.aload_n 0, 1) := by decide +kernel
theorem dX1_clear_1 : decode cX1_clear 1 = .ok (.iconst 0, 1) := by decide +kernel
theorem dX1_clear_2 : decode cX1_clear 2 = .ok (.putfield 20, 3) := by decide +kernel
theorem dX1_clear_5 : decode cX1_clear 5 = .ok (.return_, 1) := by decide +kernel
theorem dX1_remember_0 : decode cX1_remember 0 = .ok (.aload_n 0, 1) := by decide +kernel
theorem dX1_remember_1 : decode cX1_remember 1 = .ok (.getfield 11, 3) := by decide +kernel
theorem dX1_remember_4 : decode cX1_remember 4 = .ok (.aload_n 0, 1) := by decide +kernel
theorem dX1_remember_5 : decode cX1_remember 5 = .ok (.getfield 24, 3) := by decide +kernel
theorem dX1_remember_8 : decode cX1_remember 8 = .ok (.aaload, 1) := by decide +kernel
theorem dX1_remember_9 : decode cX1_remember 9 = .ok (.aload_n 1, 1) := by decide +kernel
theorem dX1_remember_10 : decode cX1_remember 10 = .ok (.invokevirtual 27, 3) := by decide +kernel
theorem dX1_remember_13 : decode cX1_remember 13 = .ok (.aload_n 0, 1) := by decide +kernel
theorem dX1_remember_14 : decode cX1_remember 14 = .ok (.aload_n 0, 1) := by decide +kernel
theorem dX1_remember_15 : decode cX1_remember 15 = .ok (.getfield 24, 3) := by decide +kernel
theorem dX1_remember_18 : decode cX1_remember 18 = .ok (.iconst 1, 1) := by decide +kernel
theorem dX1_remember_19 : decode cX1_remember 19 = .ok (.iadd, 1) := by decide +kernel
theorem dX1_remember_20 : decode cX1_remember 20 = .ok (.bipush 8, 2) := by decide +kernel
theorem dX1_remember_22 : decode cX1_remember 22 = .ok (.irem, 1) := by decide +kernel
theorem dX1_remember_23 : decode cX1_remember 23 = .ok (.putfield 24, 3) := by decide +kernel
theorem dX1_remember_26 : decode cX1_remember 26 = .ok (.aload_n 0, 1) := by decide +kernel
theorem dX1_remember_27 : decode cX1_remember 27 = .ok (.bipush 8, 2) := by decide +kernel
theorem dX1_remember_29 : decode cX1_remember 29 = .ok (.aload_n 0, 1) := by decide +kernel
theorem dX1_remember_30 : decode cX1_remember 30 = .ok (.getfield 20, 3) := by decide +kernel
theorem dX1_remember_33 : decode cX1_remember 33 = .ok (.iconst 1, 1) := by decide +kernel
theorem dX1_remember_34 : decode cX1_remember 34 = .ok (.iadd, 1) := by decide +kernel
theorem dX1_remember_35 : decode cX1_remember 35 = .ok (.invokestatic 31, 3) := by decide +kernel
theorem dX1_remember_38 : decode cX1_remember 38 = .ok (.putfield 20, 3) := by decide +kernel
theorem dX1_remember_41 : decode cX1_remember 41 = .ok (.return_, 1) := by decide +kernel
theorem dX1_bringBack_0 : decode cX1_bringBack 0 = .ok (.aload_n 0, 1) := by decide +kernel
theorem dX1_bringBack_1 : decode cX1_bringBack 1 = .ok (.aload_n 0, 1) := by decide +kernel
theorem dX1_bringBack_2 : decode cX1_bringBack 2 = .ok (.getfield 24, 3) := by decide +kernel
theorem dX1_bringBack_5 : decode cX1_bringBack 5 = .ok (.bipush 8, 2) := by decide +kernel
theorem dX1_bringBack_7 : decode cX1_bringBack 7 = .ok (.iadd, 1) := by decide +kernel
theorem dX1_bringBack_8 : decode cX1_bringBack 8 = .ok (.iconst 1, 1) := by decide +kernel
theorem dX1_bringBack_9 : decode cX1_bringBack 9 = .ok (.isub, 1) := by decide +kernel
theorem dX1_bringBack_10 : decode cX1_bringBack 10 = .ok (.bipush 8, 2) := by decide +kernel
theorem dX1_bringBack_12 : decode cX1_bringBack 12 = .ok (.irem, 1) := by decide +kernel
theorem dX1_bringBack_13 : decode cX1_bringBack 13 = .ok (.putfield 24, 3) := by decide +kernel
theorem dX1_bringBack_16 : decode cX1_bringBack 16 = .ok (.aload_n 1, 1) := by decide +kernel
theorem dX1_bringBack_17 : decode cX1_bringBack 17 = .ok (.aload_n 0, 1) := by decide +kernel
theorem dX1_bringBack_18 : decode cX1_bringBack 18 = .ok (.getfield 11, 3) := by decide +kernel
theorem dX1_bringBack_21 : decode cX1_bringBack 21 = .ok (.aload_n 0, 1) := by decide +kernel
theorem dX1_bringBack_22 : decode cX1_bringBack 22 = .ok (.getfield 24, 3) := by decide +kernel
theorem dX1_bringBack_25 : decode cX1_bringBack 25 = .ok (.aaload, 1) := by decide +kernel
theorem dX1_bringBack_26 : decode cX1_bringBack 26 = .ok (.invokevirtual 27, 3) := by decide +kernel
theorem dX1_bringBack_29 : decode cX1_bringBack 29 = .ok (.aload_n 0, 1) := by decide +kernel
theorem dX1_bringBack_30 : decode cX1_bringBack 30 = .ok (.dup, 1) := by decide +kernel
theorem dX1_bringBack_31 : decode cX1_bringBack 31 = .ok (.getfield 20, 3) := by decide +kernel
theorem dX1_bringBack_34 : decode cX1_bringBack 34 = .ok (.iconst 1, 1) := by decide +kernel
theorem dX1_bringBack_35 : decode cX1_bringBack 35 = .ok (.isub, 1) := by decide +kernel
theorem dX1_bringBack_36 : decode cX1_bringBack 36 = .ok (.putfield 20, 3) := by decide +kernel
theorem dX1_bringBack_39 : decode cX1_bringBack 39 = .ok (.return_, 1) := by decide +kernel
theorem dX2_init_0 : decode cX2_init 0 = .ok (.aload_n 0, 1) := by decide +kernel
theorem dX2_init_1 : decode cX2_init 1 = .ok (.invokespecial 3, 3) := by decide +kernel
theorem dX2_init_4 : decode cX2_init 4 = .ok (.aload_n 0, 1) := by decide +kernel
theorem dX2_init_5 : decode cX2_init 5 = .ok (.bipush 9, 2) := by decide +kernel
theorem dX2_init_7 : decode cX2_init 7 = .ok (.newarray .int, 2) := by decide +kernel
theorem dX2_init_9 : decode cX2_init 9 = .ok (.putfield 9, 3) := by decide +kernel
theorem dX2_init_12 : decode cX2_init 12 = .ok (.aload_n 0, 1) := by decide +kernel
theorem dX2_init_13 : decode cX2_init 13 = .ok (.bipush 9, 2) := by decide +kernel
theorem dX2_init_15 : decode cX2_init 15 = .ok (.newarray .int, 2) := by decide +kernel
theorem dX2_init_17 : decode cX2_init 17 = .ok (.putfield 15, 3) := by decide +kernel
theorem dX2_init_20 : decode cX2_init 20 = .ok (.aload_n 0, 1) := by decide +kernel
theorem dX2_init_21 : decode cX2_init 21 = .ok (.bipush 9, 2) := by decide +kernel
theorem dX2_init_23 : decode cX2_init 23 = .ok (.newarray .int, 2) := by decide +kernel
theorem dX2_init_25 : decode cX2_init 25 = .ok (.putfield 18, 3) := by decide +kernel
theorem dX2_init_28 : decode cX2_init 28 = .ok (.return_, 1) := by decide +kernel
theorem dX2_begin_0 : decode cX2_begin 0 = .ok (.aload_n 0, 1) := by decide +kernel
theorem dX2_begin_1 : decode cX2_begin 1 = .ok (.bipush 18, 2) := by decide +kernel
theorem dX2_begin_3 : decode cX2_begin 3 = .ok (.putfield 21, 3) := by decide +kernel
theorem dX2_begin_6 : decode cX2_begin 6 = .ok (.aload_n 0, 1) := by decide +kernel
theorem dX2_begin_7 : decode cX2_begin 7 = .ok (.iconst 3, 1) := by decide +kernel
theorem dX2_begin_8 : decode cX2_begin 8 = .ok (.putfield 25, 3) := by decide +kernel
theorem dX2_begin_11 : decode cX2_begin 11 = .ok (.aload_n 0, 1) := by decide +kernel
theorem dX2_begin_12 : decode cX2_begin 12 = .ok (.bipush 8, 2) := by decide +kernel
theorem dX2_begin_14 : decode cX2_begin 14 = .ok (.putfield 28, 3) := by decide +kernel
theorem dX2_begin_17 : decode cX2_begin 17 = .ok (.aload_n 0, 1) := by decide +kernel
theorem dX2_begin_18 : decode cX2_begin 18 = .ok (.bipush 12, 2) := by decide +kernel
theorem dX2_begin_20 : decode cX2_begin 20 = .ok (.putfield 31, 3) := by decide +kernel
theorem dX2_begin_23 : decode cX2_begin 23 = .ok (.aload_n 0, 1) := by decide +kernel
theorem dX2_begin_24 : decode cX2_begin 24 = .ok (.iconst 0, 1) := by decide +kernel
theorem dX2_begin_25 : decode cX2_begin 25 = .ok (.putfield 34, 3) := by decide +kernel
theorem dX2_begin_28 : decode cX2_begin 28 = .ok (.return_, 1) := by decide +kernel
theorem dX2_copyFrom_0 : decode cX2_copyFrom 0 = .ok (.aload_n 0, 1) := by decide +kernel
theorem dX2_copyFrom_1 : decode cX2_copyFrom 1 = .ok (.aload_n 1, 1) := by decide +kernel
theorem dX2_copyFrom_2 : decode cX2_copyFrom 2 = .ok (.getfield 21, 3) := by decide +kernel
theorem dX2_copyFrom_5 : decode cX2_copyFrom 5 = .ok (.putfield 21, 3) := by decide +kernel
theorem dX2_copyFrom_8 : decode cX2_copyFrom 8 = .ok (.aload_n 0, 1) := by decide +kernel
theorem dX2_copyFrom_9 : decode cX2_copyFrom 9 = .ok (.aload_n 1, 1) := by decide +kernel
theorem dX2_copyFrom_10 : decode cX2_copyFrom 10 = .ok (.getfield 25, 3) := by decide +kernel
theorem dX2_copyFrom_13 : decode cX2_copyFrom 13 = .ok (.putfield 25, 3) := by decide +kernel
theorem dX2_copyFrom_16 : decode cX2_copyFrom 16 = .ok (.aload_n 0, 1) := by decide +kernel
theorem dX2_copyFrom_17 : decode cX2_copyFrom 17 = .ok (.aload_n 1, 1) := by decide +kernel
theorem dX2_copyFrom_18 : decode cX2_copyFrom 18 = .ok (.getfield 28, 3) := by decide +kernel
theorem dX2_copyFrom_21 : decode cX2_copyFrom 21 = .ok (.putfield 28, 3) := by decide +kernel
theorem dX2_copyFrom_24 : decode cX2_copyFrom 24 = .ok (.aload_n 0, 1) := by decide +kernel
theorem dX2_copyFrom_25 : decode cX2_copyFrom 25 = .ok (.aload_n 1, 1) := by decide +kernel
theorem dX2_copyFrom_26 : decode cX2_copyFrom 26 = .ok (.getfield 31, 3) := by decide +kernel
theorem dX2_copyFrom_29 : decode cX2_copyFrom 29 = .ok (.putfield 31, 3) := by decide +kernel
theorem dX2_copyFrom_32 : decode cX2_copyFrom 32 = .ok (.aload_n 0, 1) := by decide +kernel
theorem dX2_copyFrom_33 : decode cX2_copyFrom 33 = .ok (.aload_n 1, 1) := by decide +kernel
theorem dX2_copyFrom_34 : decode cX2_copyFrom 34 = .ok (.getfield 34, 3) := by decide +kernel
theorem dX2_copyFrom_37 : decode cX2_copyFrom 37 = .ok (.putfield 34, 3) := by decide +kernel
theorem dX2_copyFrom_40 : decode cX2_copyFrom 40 = .ok (.aload_n 1, 1) := by decide +kernel
theorem dX2_copyFrom_41 : decode cX2_copyFrom 41 = .ok (.getfield 9, 3) := by decide +kernel
theorem dX2_copyFrom_44 : decode cX2_copyFrom 44 = .ok (.iconst 0, 1) := by decide +kernel
theorem dX2_copyFrom_45 : decode cX2_copyFrom 45 = .ok (.aload_n 0, 1) := by decide +kernel
theorem dX2_copyFrom_46 : decode cX2_copyFrom 46 = .ok (.getfield 9, 3) := by decide +kernel
theorem dX2_copyFrom_49 : decode cX2_copyFrom 49 = .ok (.iconst 0, 1) := by decide +kernel
theorem dX2_copyFrom_50 : decode cX2_copyFrom 50 = .ok (.bipush 9, 2) := by decide +kernel
theorem dX2_copyFrom_52 : decode cX2_copyFrom 52 = .ok (.invokestatic 37, 3) := by decide +kernel
theorem dX2_copyFrom_55 : decode cX2_copyFrom 55 = .ok (.aload_n 1, 1) := by decide +kernel
theorem dX2_copyFrom_56 : decode cX2_copyFrom 56 = .ok (.getfield 15, 3) := by decide +kernel
theorem dX2_copyFrom_59 : decode cX2_copyFrom 59 = .ok (.iconst 0, 1) := by decide +kernel
theorem dX2_copyFrom_60 : decode cX2_copyFrom 60 = .ok (.aload_n 0, 1) := by decide +kernel
theorem dX2_copyFrom_61 : decode cX2_copyFrom 61 = .ok (.getfield 15, 3) := by decide +kernel
theorem dX2_copyFrom_64 : decode cX2_copyFrom 64 = .ok (.iconst 0, 1) := by decide +kernel
theorem dX2_copyFrom_65 : decode cX2_copyFrom 65 = .ok (.bipush 9, 2) := by decide +kernel
theorem dX2_copyFrom_67 : decode cX2_copyFrom 67 = .ok (.invokestatic 37, 3) := by decide +kernel
theorem dX2_copyFrom_70 : decode cX2_copyFrom 70 = .ok (.aload_n 1, 1) := by decide +kernel
theorem dX2_copyFrom_71 : decode cX2_copyFrom 71 = .ok (.getfield 18, 3) := by decide +kernel
theorem dX2_copyFrom_74 : decode cX2_copyFrom 74 = .ok (.iconst 0, 1) := by decide +kernel
theorem dX2_copyFrom_75 : decode cX2_copyFrom 75 = .ok (.aload_n 0, 1) := by decide +kernel
theorem dX2_copyFrom_76 : decode cX2_copyFrom 76 = .ok (.getfield 18, 3) := by decide +kernel
theorem dX2_copyFrom_79 : decode cX2_copyFrom 79 = .ok (.iconst 0, 1) := by decide +kernel
theorem dX2_copyFrom_80 : decode cX2_copyFrom 80 = .ok (.bipush 9, 2) := by decide +kernel
theorem dX2_copyFrom_82 : decode cX2_copyFrom 82 = .ok (.invokestatic 37, 3) := by decide +kernel
theorem dX2_copyFrom_85 : decode cX2_copyFrom 85 = .ok (.return_, 1) := by decide +kernel
theorem dX2_setPlaces_0 : decode cX2_setPlaces 0 = .ok (.aload_n 0, 1) := by decide +kernel
theorem dX2_setPlaces_1 : decode cX2_setPlaces 1 = .ok (.iload_n 1, 1) := by decide +kernel
theorem dX2_setPlaces_2 : decode cX2_setPlaces 2 = .ok (.putfield 21, 3) := by decide +kernel
theorem dX2_setPlaces_5 : decode cX2_setPlaces 5 = .ok (.iload_n 1, 1) := by decide +kernel
theorem dX2_setPlaces_6 : decode cX2_setPlaces 6 = .ok (.iconst 2, 1) := by decide +kernel
theorem dX2_setPlaces_7 : decode cX2_setPlaces 7 = .ok (.bipush 40, 2) := by decide +kernel
theorem dX2_setPlaces_9 : decode cX2_setPlaces 9 = .ok (.invokestatic 43, 3) := by decide +kernel
theorem dX2_setPlaces_12 : decode cX2_setPlaces 12 = .ok (.ireturn, 1) := by decide +kernel
theorem dX2_setKnob_0 : decode cX2_setKnob 0 = .ok (.aload_n 0, 1) := by decide +kernel
theorem dX2_setKnob_1 : decode cX2_setKnob 1 = .ok (.iload_n 1, 1) := by decide +kernel
theorem dX2_setKnob_2 : decode cX2_setKnob 2 = .ok (.putfield 25, 3) := by decide +kernel
theorem dX2_setKnob_5 : decode cX2_setKnob 5 = .ok (.iload_n 1, 1) := by decide +kernel
theorem dX2_setKnob_6 : decode cX2_setKnob 6 = .ok (.invokestatic 47, 3) := by decide +kernel
theorem dX2_setKnob_9 : decode cX2_setKnob 9 = .ok (.ireturn, 1) := by decide +kernel
theorem dX2_setHeat_0 : decode cX2_setHeat 0 = .ok (.aload_n 0, 1) := by decide +kernel
theorem dX2_setHeat_1 : decode cX2_setHeat 1 = .ok (.iload_n 1, 1) := by decide +kernel
theorem dX2_setHeat_2 : decode cX2_setHeat 2 = .ok (.putfield 28, 3) := by decide +kernel
theorem dX2_setHeat_5 : decode cX2_setHeat 5 = .ok (.aload_n 0, 1) := by decide +kernel
theorem dX2_setHeat_6 : decode cX2_setHeat 6 = .ok (.iload_n 2, 1) := by decide +kernel
theorem dX2_setHeat_7 : decode cX2_setHeat 7 = .ok (.putfield 31, 3) := by decide +kernel
theorem dX2_setHeat_10 : decode cX2_setHeat 10 = .ok (.iload_n 1, 1) := by decide +kernel
theorem dX2_setHeat_11 : decode cX2_setHeat 11 = .ok (.iconst 0, 1) := by decide +kernel
theorem dX2_setHeat_12 : decode cX2_setHeat 12 = .ok (.bipush 30, 2) := by decide +kernel
theorem dX2_setHeat_14 : decode cX2_setHeat 14 = .ok (.invokestatic 43, 3) := by decide +kernel
theorem dX2_setHeat_17 : decode cX2_setHeat 17 = .ok (.ifCond .eq 17, 3) := by decide +kernel
theorem dX2_setHeat_20 : decode cX2_setHeat 20 = .ok (.iload_n 2, 1) := by decide +kernel
theorem dX2_setHeat_21 : decode cX2_setHeat 21 = .ok (.iconst 0, 1) := by decide +kernel
theorem dX2_setHeat_22 : decode cX2_setHeat 22 = .ok (.bipush 30, 2) := by decide +kernel
theorem dX2_setHeat_24 : decode cX2_setHeat 24 = .ok (.invokestatic 43, 3) := by decide +kernel
theorem dX2_setHeat_27 : decode cX2_setHeat 27 = .ok (.ifCond .eq 7, 3) := by decide +kernel
theorem dX2_setHeat_30 : decode cX2_setHeat 30 = .ok (.iconst 1, 1) := by decide +kernel
theorem dX2_setHeat_31 : decode cX2_setHeat 31 = .ok (.goto 4, 3) := by decide +kernel
theorem dX2_setHeat_34 : decode cX2_setHeat 34 = .ok (.iconst 0, 1) := by decide +kernel
theorem dX2_setHeat_35 : decode cX2_setHeat 35 = .ok (.ireturn, 1) := by decide +kernel
theorem dX2_addGuest_0 : decode cX2_addGuest 0 = .ok (.aload_n 0, 1) := by decide +kernel
theorem dX2_addGuest_1 : decode cX2_addGuest 1 = .ok (.getfield 34, 3) := by decide +kernel
theorem dX2_addGuest_4 : decode cX2_addGuest 4 = .ok (.bipush 9, 2) := by decide +kernel
theorem dX2_addGuest_6 : decode cX2_addGuest 6 = .ok (.if_icmp .ge 12, 3) := by decide +kernel
theorem dX2_addGuest_9 : decode cX2_addGuest 9 = .ok (.iload_n 1, 1) := by decide +kernel
theorem dX2_addGuest_10 : decode cX2_addGuest 10 = .ok (.iconst 0, 1) := by decide +kernel
theorem dX2_addGuest_11 : decode cX2_addGuest 11 = .ok (.iconst 3, 1) := by decide +kernel
theorem dX2_addGuest_12 : decode cX2_addGuest 12 = .ok (.invokestatic 43, 3) := by decide +kernel
theorem dX2_addGuest_15 : decode cX2_addGuest 15 = .ok (.ifCond .ne 5, 3) := by decide +kernel
theorem dX2_addGuest_18 : decode cX2_addGuest 18 = .ok (.iconst 0, 1) := by decide +kernel
theorem dX2_addGuest_19 : decode cX2_addGuest 19 = .ok (.ireturn, 1) := by decide +kernel
theorem dX2_addGuest_20 : decode cX2_addGuest 20 = .ok (.aload_n 0, 1) := by decide +kernel
theorem dX2_addGuest_21 : decode cX2_addGuest 21 = .ok (.getfield 9, 3) := by decide +kernel
theorem dX2_addGuest_24 : decode cX2_addGuest 24 = .ok (.aload_n 0, 1) := by decide +kernel
theorem dX2_addGuest_25 : decode cX2_addGuest 25 = .ok (.getfield 34, 3) := by decide +kernel
theorem dX2_addGuest_28 : decode cX2_addGuest 28 = .ok (.iload_n 1, 1) := by decide +kernel
theorem dX2_addGuest_29 : decode cX2_addGuest 29 = .ok (.iastore, 1) := by decide +kernel
theorem dX2_addGuest_30 : decode cX2_addGuest 30 = .ok (.aload_n 0, 1) := by decide +kernel
theorem dX2_addGuest_31 : decode cX2_addGuest 31 = .ok (.getfield 15, 3) := by decide +kernel
theorem dX2_addGuest_34 : decode cX2_addGuest 34 = .ok (.aload_n 0, 1) := by decide +kernel
theorem dX2_addGuest_35 : decode cX2_addGuest 35 = .ok (.getfield 34, 3) := by decide +kernel
theorem dX2_addGuest_38 : decode cX2_addGuest 38 = .ok (.iload_n 2, 1) := by decide +kernel
theorem dX2_addGuest_39 : decode cX2_addGuest 39 = .ok (.iastore, 1) := by decide +kernel
theorem dX2_addGuest_40 : decode cX2_addGuest 40 = .ok (.aload_n 0, 1) := by decide +kernel
theorem dX2_addGuest_41 : decode cX2_addGuest 41 = .ok (.getfield 18, 3) := by decide +kernel
theorem dX2_addGuest_44 : decode cX2_addGuest 44 = .ok (.aload_n 0, 1) := by decide +kernel
theorem dX2_addGuest_45 : decode cX2_addGuest 45 = .ok (.getfield 34, 3) := by decide +kernel
theorem dX2_addGuest_48 : decode cX2_addGuest 48 = .ok (.iload_n 3, 1) := by decide +kernel
theorem dX2_addGuest_49 : decode cX2_addGuest 49 = .ok (.iastore, 1) := by decide +kernel
theorem dX2_addGuest_50 : decode cX2_addGuest 50 = .ok (.aload_n 0, 1) := by decide +kernel
theorem dX2_addGuest_51 : decode cX2_addGuest 51 = .ok (.dup, 1) := by decide +kernel
theorem dX2_addGuest_52 : decode cX2_addGuest 52 = .ok (.getfield 34, 3) := by decide +kernel
theorem dX2_addGuest_55 : decode cX2_addGuest 55 = .ok (.iconst 1, 1) := by decide +kernel
theorem dX2_addGuest_56 : decode cX2_addGuest 56 = .ok (.iadd, 1) := by decide +kernel
theorem dX2_addGuest_57 : decode cX2_addGuest 57 = .ok (.putfield 34, 3) := by decide +kernel
theorem dX2_addGuest_60 : decode cX2_addGuest 60 = .ok (.iconst 1, 1) := by decide +kernel
theorem dX2_addGuest_61 : decode cX2_addGuest 61 = .ok (.ireturn, 1) := by decide +kernel
theorem dX3_init_0 : decode cX3_init 0 = .ok (.aload_n 0, 1) := by decide +kernel
theorem dX3_init_1 : decode cX3_init 1 = .ok (.invokespecial 3, 3) := by decide +kernel
theorem dX3_init_4 : decode cX3_init 4 = .ok (.aload_n 0, 1) := by decide +kernel
theorem dX3_init_5 : decode cX3_init 5 = .ok (.bipush 9, 2) := by decide +kernel
theorem dX3_init_7 : decode cX3_init 7 = .ok (.newarray .int, 2) := by decide +kernel
theorem dX3_init_9 : decode cX3_init 9 = .ok (.putfield 9, 3) := by decide +kernel
theorem dX3_init_12 : decode cX3_init 12 = .ok (.aload_n 0, 1) := by decide +kernel
theorem dX3_init_13 : decode cX3_init 13 = .ok (.bipush 9, 2) := by decide +kernel
theorem dX3_init_15 : decode cX3_init 15 = .ok (.newarray .int, 2) := by decide +kernel
theorem dX3_init_17 : decode cX3_init 17 = .ok (.putfield 15, 3) := by decide +kernel
theorem dX3_init_20 : decode cX3_init 20 = .ok (.aload_n 0, 1) := by decide +kernel
theorem dX3_init_21 : decode cX3_init 21 = .ok (.bipush 9, 2) := by decide +kernel
theorem dX3_init_23 : decode cX3_init 23 = .ok (.newarray .int, 2) := by decide +kernel
theorem dX3_init_25 : decode cX3_init 25 = .ok (.putfield 18, 3) := by decide +kernel
theorem dX3_init_28 : decode cX3_init 28 = .ok (.return_, 1) := by decide +kernel
theorem dX3_settle_0 : decode cX3_settle 0 = .ok (.aload_n 0, 1) := by decide +kernel
theorem dX3_settle_1 : decode cX3_settle 1 = .ok (.aload_n 1, 1) := by decide +kernel
theorem dX3_settle_2 : decode cX3_settle 2 = .ok (.invokevirtual 21, 3) := by decide +kernel
theorem dX3_settle_5 : decode cX3_settle 5 = .ok (.sipush 511, 3) := by decide +kernel
theorem dX3_settle_8 : decode cX3_settle 8 = .ok (.istore_n 2, 1) := by decide +kernel
theorem dX3_settle_9 : decode cX3_settle 9 = .ok (.aload_n 0, 1) := by decide +kernel
theorem dX3_settle_10 : decode cX3_settle 10 = .ok (.aload_n 0, 1) := by decide +kernel
theorem dX3_settle_11 : decode cX3_settle 11 = .ok (.iconst 0, 1) := by decide +kernel
theorem dX3_settle_12 : decode cX3_settle 12 = .ok (.iload_n 2, 1) := by decide +kernel
theorem dX3_settle_13 : decode cX3_settle 13 = .ok (.invokevirtual 25, 3) := by decide +kernel
theorem dX3_settle_16 : decode cX3_settle 16 = .ok (.putfield 29, 3) := by decide +kernel
theorem dX3_settle_19 : decode cX3_settle 19 = .ok (.aload_n 0, 1) := by decide +kernel
theorem dX3_settle_20 : decode cX3_settle 20 = .ok (.getfield 29, 3) := by decide +kernel
theorem dX3_settle_23 : decode cX3_settle 23 = .ok (.istore_n 3, 1) := by decide +kernel
theorem dX3_settle_24 : decode cX3_settle 24 = .ok (.iconst 0, 1) := by decide +kernel
theorem dX3_settle_25 : decode cX3_settle 25 = .ok (.istore 4, 2) := by decide +kernel
theorem dX3_settle_27 : decode cX3_settle 27 = .ok (.iload 4, 2) := by decide +kernel
theorem dX3_settle_29 : decode cX3_settle 29 = .ok (.aload_n 0, 1) := by decide +kernel
theorem dX3_settle_30 : decode cX3_settle 30 = .ok (.getfield 33, 3) := by decide +kernel
theorem dX3_settle_33 : decode cX3_settle 33 = .ok (.if_icmp .ge 53, 3) := by decide +kernel
theorem dX3_settle_36 : decode cX3_settle 36 = .ok (.aload_n 0, 1) := by decide +kernel
theorem dX3_settle_37 : decode cX3_settle 37 = .ok (.getfield 18, 3) := by decide +kernel
theorem dX3_settle_40 : decode cX3_settle 40 = .ok (.iload 4, 2) := by decide +kernel
theorem dX3_settle_42 : decode cX3_settle 42 = .ok (.aload_n 0, 1) := by decide +kernel
theorem dX3_settle_43 : decode cX3_settle 43 = .ok (.iload 4, 2) := by decide +kernel
theorem dX3_settle_45 : decode cX3_settle 45 = .ok (.iload_n 2, 1) := by decide +kernel
theorem dX3_settle_46 : decode cX3_settle 46 = .ok (.iload_n 3, 1) := by decide +kernel
theorem dX3_settle_47 : decode cX3_settle 47 = .ok (.invokevirtual 36, 3) := by decide +kernel
theorem dX3_settle_50 : decode cX3_settle 50 = .ok (.iastore, 1) := by decide +kernel
theorem dX3_settle_51 : decode cX3_settle 51 = .ok (.aload_n 0, 1) := by decide +kernel
theorem dX3_settle_52 : decode cX3_settle 52 = .ok (.getfield 18, 3) := by decide +kernel
theorem dX3_settle_55 : decode cX3_settle 55 = .ok (.iload 4, 2) := by decide +kernel
theorem dX3_settle_57 : decode cX3_settle 57 = .ok (.iaload, 1) := by decide +kernel
theorem dX3_settle_58 : decode cX3_settle 58 = .ok (.bipush (-4), 2) := by decide +kernel
theorem dX3_settle_60 : decode cX3_settle 60 = .ok (.if_icmp .eq 20, 3) := by decide +kernel
theorem dX3_settle_63 : decode cX3_settle 63 = .ok (.iload_n 2, 1) := by decide +kernel
theorem dX3_settle_64 : decode cX3_settle 64 = .ok (.iconst 1, 1) := by decide +kernel
theorem dX3_settle_65 : decode cX3_settle 65 = .ok (.aload_n 0, 1) := by decide +kernel
theorem dX3_settle_66 : decode cX3_settle 66 = .ok (.getfield 18, 3) := by decide +kernel
theorem dX3_settle_69 : decode cX3_settle 69 = .ok (.iload 4, 2) := by decide +kernel
theorem dX3_settle_71 : decode cX3_settle 71 = .ok (.iaload, 1) := by decide +kernel
theorem dX3_settle_72 : decode cX3_settle 72 = .ok (.ishl, 1) := by decide +kernel
theorem dX3_settle_73 : decode cX3_settle 73 = .ok (.iconst (-1), 1) := by decide +kernel
theorem dX3_settle_74 : decode cX3_settle 74 = .ok (.ixor, 1) := by decide +kernel
theorem dX3_settle_75 : decode cX3_settle 75 = .ok (.iand, 1) := by decide +kernel
theorem dX3_settle_76 : decode cX3_settle 76 = .ok (.istore_n 2, 1) := by decide +kernel
theorem dX3_settle_77 : decode cX3_settle 77 = .ok (.iinc 3 (-1), 3) := by decide +kernel
theorem dX3_settle_80 : decode cX3_settle 80 = .ok (.iinc 4 1, 3) := by decide +kernel
theorem dX3_settle_83 : decode cX3_settle 83 = .ok (.goto (-56), 3) := by decide +kernel
theorem dX3_settle_86 : decode cX3_settle 86 = .ok (.return_, 1) := by decide +kernel
theorem dX3_findFitting_0 : decode cX3_findFitting 0 = .ok (.aload_n 0, 1) := by decide +kernel
theorem dX3_findFitting_1 : decode cX3_findFitting 1 = .ok (.aload_n 1, 1) := by decide +kernel
theorem dX3_findFitting_2 : decode cX3_findFitting 2 = .ok (.getfield 40, 3) := by decide +kernel
theorem dX3_findFitting_5 : decode cX3_findFitting 5 = .ok (.getfield 46, 3) := by decide +kernel
theorem dX3_findFitting_8 : decode cX3_findFitting 8 = .ok (.putfield 33, 3) := by decide +kernel
theorem dX3_findFitting_11 : decode cX3_findFitting 11 = .ok (.iconst 0, 1) := by decide +kernel
theorem dX3_findFitting_12 : decode cX3_findFitting 12 = .ok (.istore_n 2, 1) := by decide +kernel
theorem dX3_findFitting_13 : decode cX3_findFitting 13 = .ok (.iload_n 2, 1) := by decide +kernel
theorem dX3_findFitting_14 : decode cX3_findFitting 14 = .ok (.aload_n 0, 1) := by decide +kernel
theorem dX3_findFitting_15 : decode cX3_findFitting 15 = .ok (.getfield 33, 3) := by decide +kernel
theorem dX3_findFitting_18 : decode cX3_findFitting 18 = .ok (.if_icmp .ge 62, 3) := by decide +kernel
theorem dX3_findFitting_21 : decode cX3_findFitting 21 = .ok (.aload_n 0, 1) := by decide +kernel
theorem dX3_findFitting_22 : decode cX3_findFitting 22 = .ok (.getfield 9, 3) := by decide +kernel
theorem dX3_findFitting_25 : decode cX3_findFitting 25 = .ok (.iload_n 2, 1) := by decide +kernel
theorem dX3_findFitting_26 : decode cX3_findFitting 26 = .ok (.iconst 0, 1) := by decide +kernel
theorem dX3_findFitting_27 : decode cX3_findFitting 27 = .ok (.iastore, 1) := by decide +kernel
theorem dX3_findFitting_28 : decode cX3_findFitting 28 = .ok (.iconst 0, 1) := by decide +kernel
theorem dX3_findFitting_29 : decode cX3_findFitting 29 = .ok (.istore_n 3, 1) := by decide +kernel
theorem dX3_findFitting_30 : decode cX3_findFitting 30 = .ok (.iload_n 3, 1) := by decide +kernel
theorem dX3_findFitting_31 : decode cX3_findFitting 31 = .ok (.aload_n 0, 1) := by decide +kernel
theorem dX3_findFitting_32 : decode cX3_findFitting 32 = .ok (.getfield 33, 3) := by decide +kernel
theorem dX3_findFitting_35 : decode cX3_findFitting 35 = .ok (.if_icmp .ge 39, 3) := by decide +kernel
theorem dX3_findFitting_38 : decode cX3_findFitting 38 = .ok (.aload_n 1, 1) := by decide +kernel
theorem dX3_findFitting_39 : decode cX3_findFitting 39 = .ok (.iload_n 2, 1) := by decide +kernel
theorem dX3_findFitting_40 : decode cX3_findFitting 40 = .ok (.iload_n 3, 1) := by decide +kernel
theorem dX3_findFitting_41 : decode cX3_findFitting 41 = .ok (.invokevirtual 49, 3) := by decide +kernel
theorem dX3_findFitting_44 : decode cX3_findFitting 44 = .ok (.ifCond .eq 24, 3) := by decide +kernel
theorem dX3_findFitting_47 : decode cX3_findFitting 47 = .ok (.aload_n 1, 1) := by decide +kernel
theorem dX3_findFitting_48 : decode cX3_findFitting 48 = .ok (.iload_n 2, 1) := by decide +kernel
theorem dX3_findFitting_49 : decode cX3_findFitting 49 = .ok (.iload_n 3, 1) := by decide +kernel
theorem dX3_findFitting_50 : decode cX3_findFitting 50 = .ok (.invokevirtual 53, 3) := by decide +kernel
theorem dX3_findFitting_53 : decode cX3_findFitting 53 = .ok (.ifCond .eq 15, 3) := by decide +kernel
theorem dX3_findFitting_56 : decode cX3_findFitting 56 = .ok (.aload_n 0, 1) := by decide +kernel
theorem dX3_findFitting_57 : decode cX3_findFitting 57 = .ok (.getfield 9, 3) := by decide +kernel
theorem dX3_findFitting_60 : decode cX3_findFitting 60 = .ok (.iload_n 2, 1) := by decide +kernel
theorem dX3_findFitting_61 : decode cX3_findFitting 61 = .ok (.dup2, 1) := by decide +kernel
theorem dX3_findFitting_62 : decode cX3_findFitting 62 = .ok (.iaload, 1) := by decide +kernel
theorem dX3_findFitting_63 : decode cX3_findFitting 63 = .ok (.iconst 1, 1) := by decide +kernel
theorem dX3_findFitting_64 : decode cX3_findFitting 64 = .ok (.iload_n 3, 1) := by decide +kernel
theorem dX3_findFitting_65 : decode cX3_findFitting 65 = .ok (.ishl, 1) := by decide +kernel
theorem dX3_findFitting_66 : decode cX3_findFitting 66 = .ok (.ior, 1) := by decide +kernel
theorem dX3_findFitting_67 : decode cX3_findFitting 67 = .ok (.iastore, 1) := by decide +kernel
theorem dX3_findFitting_68 : decode cX3_findFitting 68 = .ok (.iinc 3 1, 3) := by decide +kernel
theorem dX3_findFitting_71 : decode cX3_findFitting 71 = .ok (.goto (-41), 3) := by decide +kernel
theorem dX3_findFitting_74 : decode cX3_findFitting 74 = .ok (.iinc 2 1, 3) := by decide +kernel
theorem dX3_findFitting_77 : decode cX3_findFitting 77 = .ok (.goto (-64), 3) := by decide +kernel
theorem dX3_findFitting_80 : decode cX3_findFitting 80 = .ok (.return_, 1) := by decide +kernel
theorem dX3_lowestThatServes_0 : decode cX3_lowestThatServes 0 = .ok (.iconst 0, 1) := by decide +kernel
theorem dX3_lowestThatServes_1 : decode cX3_lowestThatServes 1 = .ok (.istore 4, 2) := by decide +kernel
theorem dX3_lowestThatServes_3 : decode cX3_lowestThatServes 3 = .ok (.iload 4, 2) := by decide +kernel
theorem dX3_lowestThatServes_5 : decode cX3_lowestThatServes 5 = .ok (.aload_n 0, 1) := by decide +kernel
theorem dX3_lowestThatServes_6 : decode cX3_lowestThatServes 6 = .ok (.getfield 33, 3) := by decide +kernel
theorem dX3_lowestThatServes_9 : decode cX3_lowestThatServes 9 = .ok (.if_icmp .ge 51, 3) := by decide +kernel
theorem dX3_lowestThatServes_12 : decode cX3_lowestThatServes 12 = .ok (.iconst 1, 1) := by decide +kernel
theorem dX3_lowestThatServes_13 : decode cX3_lowestThatServes 13 = .ok (.iload 4, 2) := by decide +kernel
theorem dX3_lowestThatServes_15 : decode cX3_lowestThatServes 15 = .ok (.ishl, 1) := by decide +kernel
theorem dX3_lowestThatServes_16 : decode cX3_lowestThatServes 16 = .ok (.istore 5, 2) := by decide +kernel
theorem dX3_lowestThatServes_18 : decode cX3_lowestThatServes 18 = .ok (.aload_n 0, 1) := by decide +kernel
theorem dX3_lowestThatServes_19 : decode cX3_lowestThatServes 19 = .ok (.getfield 9, 3) := by decide +kernel
theorem dX3_lowestThatServes_22 : decode cX3_lowestThatServes 22 = .ok (.iload_n 1, 1) := by decide +kernel
theorem dX3_lowestThatServes_23 : decode cX3_lowestThatServes 23 = .ok (.iaload, 1) := by decide +kernel
theorem dX3_lowestThatServes_24 : decode cX3_lowestThatServes 24 = .ok (.iload_n 2, 1) := by decide +kernel
theorem dX3_lowestThatServes_25 : decode cX3_lowestThatServes 25 = .ok (.iand, 1) := by decide +kernel
theorem dX3_lowestThatServes_26 : decode cX3_lowestThatServes 26 = .ok (.iload 5, 2) := by decide +kernel
theorem dX3_lowestThatServes_28 : decode cX3_lowestThatServes 28 = .ok (.iand, 1) := by decide +kernel
theorem dX3_lowestThatServes_29 : decode cX3_lowestThatServes 29 = .ok (.ifCond .eq 25, 3) := by decide +kernel
theorem dX3_lowestThatServes_32 : decode cX3_lowestThatServes 32 = .ok (.iconst 1, 1) := by decide +kernel
theorem dX3_lowestThatServes_33 : decode cX3_lowestThatServes 33 = .ok (.aload_n 0, 1) := by decide +kernel
theorem dX3_lowestThatServes_34 : decode cX3_lowestThatServes 34 = .ok (.iload_n 1, 1) := by decide +kernel
theorem dX3_lowestThatServes_35 : decode cX3_lowestThatServes 35 = .ok (.iconst 1, 1) := by decide +kernel
theorem dX3_lowestThatServes_36 : decode cX3_lowestThatServes 36 = .ok (.iadd, 1) := by decide +kernel
theorem dX3_lowestThatServes_37 : decode cX3_lowestThatServes 37 = .ok (.iload_n 2, 1) := by decide +kernel
theorem dX3_lowestThatServes_38 : decode cX3_lowestThatServes 38 = .ok (.iload 5, 2) := by decide +kernel
theorem dX3_lowestThatServes_40 : decode cX3_lowestThatServes 40 = .ok (.iconst (-1), 1) := by decide +kernel
theorem dX3_lowestThatServes_41 : decode cX3_lowestThatServes 41 = .ok (.ixor, 1) := by decide +kernel
theorem dX3_lowestThatServes_42 : decode cX3_lowestThatServes 42 = .ok (.iand, 1) := by decide +kernel
theorem dX3_lowestThatServes_43 : decode cX3_lowestThatServes 43 = .ok (.invokevirtual 25, 3) := by decide +kernel
theorem dX3_lowestThatServes_46 : decode cX3_lowestThatServes 46 = .ok (.iadd, 1) := by decide +kernel
theorem dX3_lowestThatServes_47 : decode cX3_lowestThatServes 47 = .ok (.iload_n 3, 1) := by decide +kernel
theorem dX3_lowestThatServes_48 : decode cX3_lowestThatServes 48 = .ok (.if_icmp .ne 6, 3) := by decide +kernel
theorem dX3_lowestThatServes_51 : decode cX3_lowestThatServes 51 = .ok (.iload 4, 2) := by decide +kernel
theorem dX3_lowestThatServes_53 : decode cX3_lowestThatServes 53 = .ok (.ireturn, 1) := by decide +kernel
theorem dX3_lowestThatServes_54 : decode cX3_lowestThatServes 54 = .ok (.iinc 4 1, 3) := by decide +kernel
theorem dX3_lowestThatServes_57 : decode cX3_lowestThatServes 57 = .ok (.goto (-54), 3) := by decide +kernel
theorem dX3_lowestThatServes_60 : decode cX3_lowestThatServes 60 = .ok (.bipush (-4), 2) := by decide +kernel
theorem dX3_lowestThatServes_62 : decode cX3_lowestThatServes 62 = .ok (.ireturn, 1) := by decide +kernel
theorem dX3_mostFrom_0 : decode cX3_mostFrom 0 = .ok (.iconst 0, 1) := by decide +kernel
theorem dX3_mostFrom_1 : decode cX3_mostFrom 1 = .ok (.istore_n 3, 1) := by decide +kernel
theorem dX3_mostFrom_2 : decode cX3_mostFrom 2 = .ok (.iload_n 3, 1) := by decide +kernel
theorem dX3_mostFrom_3 : decode cX3_mostFrom 3 = .ok (.bipush 9, 2) := by decide +kernel
theorem dX3_mostFrom_5 : decode cX3_mostFrom 5 = .ok (.if_icmp .ge 17, 3) := by decide +kernel
theorem dX3_mostFrom_8 : decode cX3_mostFrom 8 = .ok (.aload_n 0, 1) := by decide +kernel
theorem dX3_mostFrom_9 : decode cX3_mostFrom 9 = .ok (.getfield 15, 3) := by decide +kernel
theorem dX3_mostFrom_12 : decode cX3_mostFrom 12 = .ok (.iload_n 3, 1) := by decide +kernel
theorem dX3_mostFrom_13 : decode cX3_mostFrom 13 = .ok (.bipush (-4), 2) := by decide +kernel
theorem dX3_mostFrom_15 : decode cX3_mostFrom 15 = .ok (.iastore, 1) := by decide +kernel
theorem dX3_mostFrom_16 : decode cX3_mostFrom 16 = .ok (.iinc 3 1, 3) := by decide +kernel
theorem dX3_mostFrom_19 : decode cX3_mostFrom 19 = .ok (.goto (-17), 3) := by decide +kernel
theorem dX3_mostFrom_22 : decode cX3_mostFrom 22 = .ok (.iconst 0, 1) := by decide +kernel
theorem dX3_mostFrom_23 : decode cX3_mostFrom 23 = .ok (.istore_n 3, 1) := by decide +kernel
theorem dX3_mostFrom_24 : decode cX3_mostFrom 24 = .ok (.iload_n 1, 1) := by decide +kernel
theorem dX3_mostFrom_25 : decode cX3_mostFrom 25 = .ok (.istore 4, 2) := by decide +kernel
theorem dX3_mostFrom_27 : decode cX3_mostFrom 27 = .ok (.iload 4, 2) := by decide +kernel
theorem dX3_mostFrom_29 : decode cX3_mostFrom 29 = .ok (.aload_n 0, 1) := by decide +kernel
theorem dX3_mostFrom_30 : decode cX3_mostFrom 30 = .ok (.getfield 33, 3) := by decide +kernel
theorem dX3_mostFrom_33 : decode cX3_mostFrom 33 = .ok (.if_icmp .ge 29, 3) := by decide +kernel
theorem dX3_mostFrom_36 : decode cX3_mostFrom 36 = .ok (.aload_n 0, 1) := by decide +kernel
theorem dX3_mostFrom_37 : decode cX3_mostFrom 37 = .ok (.iload_n 2, 1) := by decide +kernel
theorem dX3_mostFrom_38 : decode cX3_mostFrom 38 = .ok (.iconst (-1), 1) := by decide +kernel
theorem dX3_mostFrom_39 : decode cX3_mostFrom 39 = .ok (.ixor, 1) := by decide +kernel
theorem dX3_mostFrom_40 : decode cX3_mostFrom 40 = .ok (.putfield 56, 3) := by decide +kernel
theorem dX3_mostFrom_43 : decode cX3_mostFrom 43 = .ok (.aload_n 0, 1) := by decide +kernel
theorem dX3_mostFrom_44 : decode cX3_mostFrom 44 = .ok (.iload 4, 2) := by decide +kernel
theorem dX3_mostFrom_46 : decode cX3_mostFrom 46 = .ok (.iconst 0, 1) := by decide +kernel
theorem dX3_mostFrom_47 : decode cX3_mostFrom 47 = .ok (.invokestatic 59, 3) := by decide +kernel
theorem dX3_mostFrom_50 : decode cX3_mostFrom 50 = .ok (.ifCond .eq 6, 3) := by decide +kernel
theorem dX3_mostFrom_53 : decode cX3_mostFrom 53 = .ok (.iinc 3 1, 3) := by decide +kernel
theorem dX3_mostFrom_56 : decode cX3_mostFrom 56 = .ok (.iinc 4 1, 3) := by decide +kernel
theorem dX3_mostFrom_59 : decode cX3_mostFrom 59 = .ok (.goto (-32), 3) := by decide +kernel
theorem dX3_mostFrom_62 : decode cX3_mostFrom 62 = .ok (.iload_n 3, 1) := by decide +kernel
theorem dX3_mostFrom_63 : decode cX3_mostFrom 63 = .ok (.ireturn, 1) := by decide +kernel
theorem dX3_findsOne_0 : decode cX3_findsOne 0 = .ok (.iload_n 2, 1) := by decide +kernel
theorem dX3_findsOne_1 : decode cX3_findsOne 1 = .ok (.bipush 9, 2) := by decide +kernel
theorem dX3_findsOne_3 : decode cX3_findsOne 3 = .ok (.if_icmp .lt 5, 3) := by decide +kernel
theorem dX3_findsOne_6 : decode cX3_findsOne 6 = .ok (.iconst 0, 1) := by decide +kernel
theorem dX3_findsOne_7 : decode cX3_findsOne 7 = .ok (.ireturn, 1) := by decide +kernel
theorem dX3_findsOne_8 : decode cX3_findsOne 8 = .ok (.iconst 0, 1) := by decide +kernel
theorem dX3_findsOne_9 : decode cX3_findsOne 9 = .ok (.istore_n 3, 1) := by decide +kernel
theorem dX3_findsOne_10 : decode cX3_findsOne 10 = .ok (.iload_n 3, 1) := by decide +kernel
theorem dX3_findsOne_11 : decode cX3_findsOne 11 = .ok (.aload_n 0, 1) := by decide +kernel
theorem dX3_findsOne_12 : decode cX3_findsOne 12 = .ok (.getfield 33, 3) := by decide +kernel
theorem dX3_findsOne_15 : decode cX3_findsOne 15 = .ok (.if_icmp .ge 83, 3) := by decide +kernel
theorem dX3_findsOne_18 : decode cX3_findsOne 18 = .ok (.iconst 1, 1) := by decide +kernel
theorem dX3_findsOne_19 : decode cX3_findsOne 19 = .ok (.iload_n 3, 1) := by decide +kernel
theorem dX3_findsOne_20 : decode cX3_findsOne 20 = .ok (.ishl, 1) := by decide +kernel
theorem dX3_findsOne_21 : decode cX3_findsOne 21 = .ok (.istore 4, 2) := by decide +kernel
theorem dX3_findsOne_23 : decode cX3_findsOne 23 = .ok (.aload_n 0, 1) := by decide +kernel
theorem dX3_findsOne_24 : decode cX3_findsOne 24 = .ok (.getfield 9, 3) := by decide +kernel
theorem dX3_findsOne_27 : decode cX3_findsOne 27 = .ok (.iload_n 1, 1) := by decide +kernel
theorem dX3_findsOne_28 : decode cX3_findsOne 28 = .ok (.iaload, 1) := by decide +kernel
theorem dX3_findsOne_29 : decode cX3_findsOne 29 = .ok (.aload_n 0, 1) := by decide +kernel
theorem dX3_findsOne_30 : decode cX3_findsOne 30 = .ok (.getfield 56, 3) := by decide +kernel
theorem dX3_findsOne_33 : decode cX3_findsOne 33 = .ok (.iconst (-1), 1) := by decide +kernel
theorem dX3_findsOne_34 : decode cX3_findsOne 34 = .ok (.ixor, 1) := by decide +kernel
theorem dX3_findsOne_35 : decode cX3_findsOne 35 = .ok (.iand, 1) := by decide +kernel
theorem dX3_findsOne_36 : decode cX3_findsOne 36 = .ok (.iload 4, 2) := by decide +kernel
theorem dX3_findsOne_38 : decode cX3_findsOne 38 = .ok (.iand, 1) := by decide +kernel
theorem dX3_findsOne_39 : decode cX3_findsOne 39 = .ok (.ifCond .ne 6, 3) := by decide +kernel
theorem dX3_findsOne_42 : decode cX3_findsOne 42 = .ok (.goto 50, 3) := by decide +kernel
theorem dX3_findsOne_45 : decode cX3_findsOne 45 = .ok (.aload_n 0, 1) := by decide +kernel
theorem dX3_findsOne_46 : decode cX3_findsOne 46 = .ok (.dup, 1) := by decide +kernel
theorem dX3_findsOne_47 : decode cX3_findsOne 47 = .ok (.getfield 56, 3) := by decide +kernel
theorem dX3_findsOne_50 : decode cX3_findsOne 50 = .ok (.iload 4, 2) := by decide +kernel
theorem dX3_findsOne_52 : decode cX3_findsOne 52 = .ok (.ior, 1) := by decide +kernel
theorem dX3_findsOne_53 : decode cX3_findsOne 53 = .ok (.putfield 56, 3) := by decide +kernel
theorem dX3_findsOne_56 : decode cX3_findsOne 56 = .ok (.aload_n 0, 1) := by decide +kernel
theorem dX3_findsOne_57 : decode cX3_findsOne 57 = .ok (.getfield 15, 3) := by decide +kernel
theorem dX3_findsOne_60 : decode cX3_findsOne 60 = .ok (.iload_n 3, 1) := by decide +kernel
theorem dX3_findsOne_61 : decode cX3_findsOne 61 = .ok (.iaload, 1) := by decide +kernel
theorem dX3_findsOne_62 : decode cX3_findsOne 62 = .ok (.istore 5, 2) := by decide +kernel
theorem dX3_findsOne_64 : decode cX3_findsOne 64 = .ok (.iload 5, 2) := by decide +kernel
theorem dX3_findsOne_66 : decode cX3_findsOne 66 = .ok (.bipush (-4), 2) := by decide +kernel
theorem dX3_findsOne_68 : decode cX3_findsOne 68 = .ok (.if_icmp .eq 15, 3) := by decide +kernel
theorem dX3_findsOne_71 : decode cX3_findsOne 71 = .ok (.aload_n 0, 1) := by decide +kernel
theorem dX3_findsOne_72 : decode cX3_findsOne 72 = .ok (.iload 5, 2) := by decide +kernel
theorem dX3_findsOne_74 : decode cX3_findsOne 74 = .ok (.iload_n 2, 1) := by decide +kernel
theorem dX3_findsOne_75 : decode cX3_findsOne 75 = .ok (.iconst 1, 1) := by decide +kernel
theorem dX3_findsOne_76 : decode cX3_findsOne 76 = .ok (.iadd, 1) := by decide +kernel
theorem dX3_findsOne_77 : decode cX3_findsOne 77 = .ok (.invokestatic 59, 3) := by decide +kernel
theorem dX3_findsOne_80 : decode cX3_findsOne 80 = .ok (.ifCond .eq 12, 3) := by decide +kernel
theorem dX3_findsOne_83 : decode cX3_findsOne 83 = .ok (.aload_n 0, 1) := by decide +kernel
theorem dX3_findsOne_84 : decode cX3_findsOne 84 = .ok (.getfield 15, 3) := by decide +kernel
theorem dX3_findsOne_87 : decode cX3_findsOne 87 = .ok (.iload_n 3, 1) := by decide +kernel
theorem dX3_findsOne_88 : decode cX3_findsOne 88 = .ok (.iload_n 1, 1) := by decide +kernel
theorem dX3_findsOne_89 : decode cX3_findsOne 89 = .ok (.iastore, 1) := by decide +kernel
theorem dX3_findsOne_90 : decode cX3_findsOne 90 = .ok (.iconst 1, 1) := by decide +kernel
theorem dX3_findsOne_91 : decode cX3_findsOne 91 = .ok (.ireturn, 1) := by decide +kernel
theorem dX3_findsOne_92 : decode cX3_findsOne 92 = .ok (.iinc 3 1, 3) := by decide +kernel
theorem dX3_findsOne_95 : decode cX3_findsOne 95 = .ok (.goto (-85), 3) := by decide +kernel
theorem dX3_findsOne_98 : decode cX3_findsOne 98 = .ok (.iconst 0, 1) := by decide +kernel
theorem dX3_findsOne_99 : decode cX3_findsOne 99 = .ok (.ireturn, 1) := by decide +kernel
theorem dX4_init_0 : decode cX4_init 0 = .ok (.aload_n 0, 1) := by decide +kernel
theorem dX4_init_1 : decode cX4_init 1 = .ok (.invokespecial 3, 3) := by decide +kernel
theorem dX4_init_4 : decode cX4_init 4 = .ok (.aload_n 0, 1) := by decide +kernel
theorem dX4_init_5 : decode cX4_init 5 = .ok (.bipush 6, 2) := by decide +kernel
theorem dX4_init_7 : decode cX4_init 7 = .ok (.newarray .int, 2) := by decide +kernel
theorem dX4_init_9 : decode cX4_init 9 = .ok (.putfield 9, 3) := by decide +kernel
theorem dX4_init_12 : decode cX4_init 12 = .ok (.aload_n 0, 1) := by decide +kernel
theorem dX4_init_13 : decode cX4_init 13 = .ok (.bipush 6, 2) := by decide +kernel
theorem dX4_init_15 : decode cX4_init 15 = .ok (.newarray .int, 2) := by decide +kernel
theorem dX4_init_17 : decode cX4_init 17 = .ok (.putfield 15, 3) := by decide +kernel
theorem dX4_init_20 : decode cX4_init 20 = .ok (.aload_n 0, 1) := by decide +kernel
theorem dX4_init_21 : decode cX4_init 21 = .ok (.bipush 6, 2) := by decide +kernel
theorem dX4_init_23 : decode cX4_init 23 = .ok (.newarray .int, 2) := by decide +kernel
theorem dX4_init_25 : decode cX4_init 25 = .ok (.putfield 18, 3) := by decide +kernel
theorem dX4_init_28 : decode cX4_init 28 = .ok (.aload_n 0, 1) := by decide +kernel
theorem dX4_init_29 : decode cX4_init 29 = .ok (.bipush 6, 2) := by decide +kernel
theorem dX4_init_31 : decode cX4_init 31 = .ok (.newarray .int, 2) := by decide +kernel
theorem dX4_init_33 : decode cX4_init 33 = .ok (.putfield 21, 3) := by decide +kernel
theorem dX4_init_36 : decode cX4_init 36 = .ok (.return_, 1) := by decide +kernel
theorem dX4_add_0 : decode cX4_add 0 = .ok (.aload_n 0, 1) := by decide +kernel
theorem dX4_add_1 : decode cX4_add 1 = .ok (.getfield 24, 3) := by decide +kernel
theorem dX4_add_4 : decode cX4_add 4 = .ok (.bipush 6, 2) := by decide +kernel
theorem dX4_add_6 : decode cX4_add 6 = .ok (.if_icmp .lt 5, 3) := by decide +kernel
theorem dX4_add_9 : decode cX4_add 9 = .ok (.iconst 0, 1) := by decide +kernel
theorem dX4_add_10 : decode cX4_add 10 = .ok (.ireturn, 1) := by decide +kernel
theorem dX4_add_11 : decode cX4_add 11 = .ok (.aload_n 0, 1) := by decide +kernel
theorem dX4_add_12 : decode cX4_add 12 = .ok (.getfield 9, 3) := by decide +kernel
theorem dX4_add_15 : decode cX4_add 15 = .ok (.aload_n 0, 1) := by decide +kernel
theorem dX4_add_16 : decode cX4_add 16 = .ok (.getfield 24, 3) := by decide +kernel
theorem dX4_add_19 : decode cX4_add 19 = .ok (.iload_n 1, 1) := by decide +kernel
theorem dX4_add_20 : decode cX4_add 20 = .ok (.iastore, 1) := by decide +kernel
theorem dX4_add_21 : decode cX4_add 21 = .ok (.aload_n 0, 1) := by decide +kernel
theorem dX4_add_22 : decode cX4_add 22 = .ok (.getfield 15, 3) := by decide +kernel
theorem dX4_add_25 : decode cX4_add 25 = .ok (.aload_n 0, 1) := by decide +kernel
theorem dX4_add_26 : decode cX4_add 26 = .ok (.getfield 24, 3) := by decide +kernel
theorem dX4_add_29 : decode cX4_add 29 = .ok (.iload_n 2, 1) := by decide +kernel
theorem dX4_add_30 : decode cX4_add 30 = .ok (.iastore, 1) := by decide +kernel
theorem dX4_add_31 : decode cX4_add 31 = .ok (.aload_n 0, 1) := by decide +kernel
theorem dX4_add_32 : decode cX4_add 32 = .ok (.getfield 18, 3) := by decide +kernel
theorem dX4_add_35 : decode cX4_add 35 = .ok (.aload_n 0, 1) := by decide +kernel
theorem dX4_add_36 : decode cX4_add 36 = .ok (.getfield 24, 3) := by decide +kernel
theorem dX4_add_39 : decode cX4_add 39 = .ok (.iload_n 3, 1) := by decide +kernel
theorem dX4_add_40 : decode cX4_add 40 = .ok (.iastore, 1) := by decide +kernel
theorem dX4_add_41 : decode cX4_add 41 = .ok (.aload_n 0, 1) := by decide +kernel
theorem dX4_add_42 : decode cX4_add 42 = .ok (.getfield 21, 3) := by decide +kernel
theorem dX4_add_45 : decode cX4_add 45 = .ok (.aload_n 0, 1) := by decide +kernel
theorem dX4_add_46 : decode cX4_add 46 = .ok (.getfield 24, 3) := by decide +kernel
theorem dX4_add_49 : decode cX4_add 49 = .ok (.iload 4, 2) := by decide +kernel
theorem dX4_add_51 : decode cX4_add 51 = .ok (.iastore, 1) := by decide +kernel
theorem dX4_add_52 : decode cX4_add 52 = .ok (.aload_n 0, 1) := by decide +kernel
theorem dX4_add_53 : decode cX4_add 53 = .ok (.dup, 1) := by decide +kernel
theorem dX4_add_54 : decode cX4_add 54 = .ok (.getfield 24, 3) := by decide +kernel
theorem dX4_add_57 : decode cX4_add 57 = .ok (.iconst 1, 1) := by decide +kernel
theorem dX4_add_58 : decode cX4_add 58 = .ok (.iadd, 1) := by decide +kernel
theorem dX4_add_59 : decode cX4_add 59 = .ok (.putfield 24, 3) := by decide +kernel
theorem dX4_add_62 : decode cX4_add 62 = .ok (.iconst 1, 1) := by decide +kernel
theorem dX4_add_63 : decode cX4_add 63 = .ok (.ireturn, 1) := by decide +kernel
theorem dX4_fit_0 : decode cX4_fit 0 = .ok (.iconst 0, 1) := by decide +kernel
theorem dX4_fit_1 : decode cX4_fit 1 = .ok (.istore_n 3, 1) := by decide +kernel
theorem dX4_fit_2 : decode cX4_fit 2 = .ok (.iload_n 3, 1) := by decide +kernel
theorem dX4_fit_3 : decode cX4_fit 3 = .ok (.aload_n 0, 1) := by decide +kernel
theorem dX4_fit_4 : decode cX4_fit 4 = .ok (.getfield 24, 3) := by decide +kernel
theorem dX4_fit_7 : decode cX4_fit 7 = .ok (.if_icmp .ge 51, 3) := by decide +kernel
theorem dX4_fit_10 : decode cX4_fit 10 = .ok (.iload_n 2, 1) := by decide +kernel
theorem dX4_fit_11 : decode cX4_fit 11 = .ok (.aload_n 0, 1) := by decide +kernel
theorem dX4_fit_12 : decode cX4_fit 12 = .ok (.getfield 18, 3) := by decide +kernel
theorem dX4_fit_15 : decode cX4_fit 15 = .ok (.iload_n 3, 1) := by decide +kernel
theorem dX4_fit_16 : decode cX4_fit 16 = .ok (.iaload, 1) := by decide +kernel
theorem dX4_fit_17 : decode cX4_fit 17 = .ok (.invokestatic 28, 3) := by decide +kernel
theorem dX4_fit_20 : decode cX4_fit 20 = .ok (.istore 4, 2) := by decide +kernel
theorem dX4_fit_22 : decode cX4_fit 22 = .ok (.iload 4, 2) := by decide +kernel
theorem dX4_fit_24 : decode cX4_fit 24 = .ok (.aload_n 0, 1) := by decide +kernel
theorem dX4_fit_25 : decode cX4_fit 25 = .ok (.getfield 9, 3) := by decide +kernel
theorem dX4_fit_28 : decode cX4_fit 28 = .ok (.iload_n 3, 1) := by decide +kernel
theorem dX4_fit_29 : decode cX4_fit 29 = .ok (.iaload, 1) := by decide +kernel
theorem dX4_fit_30 : decode cX4_fit 30 = .ok (.aload_n 0, 1) := by decide +kernel
theorem dX4_fit_31 : decode cX4_fit 31 = .ok (.getfield 15, 3) := by decide +kernel
theorem dX4_fit_34 : decode cX4_fit 34 = .ok (.iload_n 3, 1) := by decide +kernel
theorem dX4_fit_35 : decode cX4_fit 35 = .ok (.iaload, 1) := by decide +kernel
theorem dX4_fit_36 : decode cX4_fit 36 = .ok (.iload_n 1, 1) := by decide +kernel
theorem dX4_fit_37 : decode cX4_fit 37 = .ok (.invokestatic 32, 3) := by decide +kernel
theorem dX4_fit_40 : decode cX4_fit 40 = .ok (.imul, 1) := by decide +kernel
theorem dX4_fit_41 : decode cX4_fit 41 = .ok (.aload_n 0, 1) := by decide +kernel
theorem dX4_fit_42 : decode cX4_fit 42 = .ok (.getfield 21, 3) := by decide +kernel
theorem dX4_fit_45 : decode cX4_fit 45 = .ok (.iload_n 3, 1) := by decide +kernel
theorem dX4_fit_46 : decode cX4_fit 46 = .ok (.iaload, 1) := by decide +kernel
theorem dX4_fit_47 : decode cX4_fit 47 = .ok (.if_icmp .eq 5, 3) := by decide +kernel
theorem dX4_fit_50 : decode cX4_fit 50 = .ok (.iconst 0, 1) := by decide +kernel
theorem dX4_fit_51 : decode cX4_fit 51 = .ok (.ireturn, 1) := by decide +kernel
theorem dX4_fit_52 : decode cX4_fit 52 = .ok (.iinc 3 1, 3) := by decide +kernel
theorem dX4_fit_55 : decode cX4_fit 55 = .ok (.goto (-53), 3) := by decide +kernel
theorem dX4_fit_58 : decode cX4_fit 58 = .ok (.iconst 1, 1) := by decide +kernel
theorem dX4_fit_59 : decode cX4_fit 59 = .ok (.ireturn, 1) := by decide +kernel
theorem dX5_init_0 : decode cX5_init 0 = .ok (.aload_n 0, 1) := by decide +kernel
theorem dX5_init_1 : decode cX5_init 1 = .ok (.invokespecial 3, 3) := by decide +kernel
theorem dX5_init_4 : decode cX5_init 4 = .ok (.aload_n 0, 1) := by decide +kernel
theorem dX5_init_5 : decode cX5_init 5 = .ok (.sipush 200, 3) := by decide +kernel
theorem dX5_init_8 : decode cX5_init 8 = .ok (.newarray .char, 2) := by decide +kernel
theorem dX5_init_10 : decode cX5_init 10 = .ok (.putfield 9, 3) := by decide +kernel
theorem dX5_init_13 : decode cX5_init 13 = .ok (.aload_n 0, 1) := by decide +kernel
theorem dX5_init_14 : decode cX5_init 14 = .ok (.iconst 3, 1) := by decide +kernel
theorem dX5_init_15 : decode cX5_init 15 = .ok (.newarray .int, 2) := by decide +kernel
theorem dX5_init_17 : decode cX5_init 17 = .ok (.putfield 15, 3) := by decide +kernel
theorem dX5_init_20 : decode cX5_init 20 = .ok (.return_, 1) := by decide +kernel
theorem dX5_length_0 : decode cX5_length 0 = .ok (.aload_n 0, 1) := by decide +kernel
theorem dX5_length_1 : decode cX5_length 1 = .ok (.getfield 19, 3) := by decide +kernel
theorem dX5_length_4 : decode cX5_length 4 = .ok (.ireturn, 1) := by decide +kernel
theorem dX5_add_0 : decode cX5_add 0 = .ok (.aload_n 0, 1) := by decide +kernel
theorem dX5_add_1 : decode cX5_add 1 = .ok (.getfield 19, 3) := by decide +kernel
theorem dX5_add_4 : decode cX5_add 4 = .ok (.sipush 200, 3) := by decide +kernel
theorem dX5_add_7 : decode cX5_add 7 = .ok (.if_icmp .lt 5, 3) := by decide +kernel
theorem dX5_add_10 : decode cX5_add 10 = .ok (.iconst 0, 1) := by decide +kernel
theorem dX5_add_11 : decode cX5_add 11 = .ok (.ireturn, 1) := by decide +kernel
theorem dX5_add_12 : decode cX5_add 12 = .ok (.aload_n 0, 1) := by decide +kernel
theorem dX5_add_13 : decode cX5_add 13 = .ok (.getfield 9, 3) := by decide +kernel
theorem dX5_add_16 : decode cX5_add 16 = .ok (.aload_n 0, 1) := by decide +kernel
theorem dX5_add_17 : decode cX5_add 17 = .ok (.getfield 19, 3) := by decide +kernel
theorem dX5_add_20 : decode cX5_add 20 = .ok (.iload_n 1, 1) := by decide +kernel
theorem dX5_add_21 : decode cX5_add 21 = .ok (.castore, 1) := by decide +kernel
theorem dX5_add_22 : decode cX5_add 22 = .ok (.aload_n 0, 1) := by decide +kernel
theorem dX5_add_23 : decode cX5_add 23 = .ok (.dup, 1) := by decide +kernel
theorem dX5_add_24 : decode cX5_add 24 = .ok (.getfield 19, 3) := by decide +kernel
theorem dX5_add_27 : decode cX5_add 27 = .ok (.iconst 1, 1) := by decide +kernel
theorem dX5_add_28 : decode cX5_add 28 = .ok (.iadd, 1) := by decide +kernel
theorem dX5_add_29 : decode cX5_add 29 = .ok (.putfield 19, 3) := by decide +kernel
theorem dX5_add_32 : decode cX5_add 32 = .ok (.iconst 1, 1) := by decide +kernel
theorem dX5_add_33 : decode cX5_add 33 = .ok (.ireturn, 1) := by decide +kernel
theorem dX5_clear_0 : decode cX5_clear 0 = .ok (.aload_n 0, 1) := by decide +kernel
theorem dX5_clear_1 : decode cX5_clear 1 = .ok (.iconst 0, 1) := by decide +kernel
theorem dX5_clear_2 : decode cX5_clear 2 = .ok (.putfield 19, 3) := by decide +kernel
theorem dX5_clear_5 : decode cX5_clear 5 = .ok (.return_, 1) := by decide +kernel
theorem dX5_readInto_0 : decode cX5_readInto 0 = .ok (.aload_n 1, 1) := by decide +kernel
theorem dX5_readInto_1 : decode cX5_readInto 1 = .ok (.invokevirtual 23, 3) := by decide +kernel
theorem dX5_readInto_4 : decode cX5_readInto 4 = .ok (.aload_n 0, 1) := by decide +kernel
theorem dX5_readInto_5 : decode cX5_readInto 5 = .ok (.iconst 0, 1) := by decide +kernel
theorem dX5_readInto_6 : decode cX5_readInto 6 = .ok (.putfield 28, 3) := by decide +kernel
theorem dX5_readInto_9 : decode cX5_readInto 9 = .ok (.iconst 0, 1) := by decide +kernel
theorem dX5_readInto_10 : decode cX5_readInto 10 = .ok (.istore_n 2, 1) := by decide +kernel
theorem dX5_readInto_11 : decode cX5_readInto 11 = .ok (.iload_n 2, 1) := by decide +kernel
theorem dX5_readInto_12 : decode cX5_readInto 12 = .ok (.sipush 200, 3) := by decide +kernel
theorem dX5_readInto_15 : decode cX5_readInto 15 = .ok (.if_icmp .ge 35, 3) := by decide +kernel
theorem dX5_readInto_18 : decode cX5_readInto 18 = .ok (.aload_n 0, 1) := by decide +kernel
theorem dX5_readInto_19 : decode cX5_readInto 19 = .ok (.getfield 28, 3) := by decide +kernel
theorem dX5_readInto_22 : decode cX5_readInto 22 = .ok (.aload_n 0, 1) := by decide +kernel
theorem dX5_readInto_23 : decode cX5_readInto 23 = .ok (.getfield 19, 3) := by decide +kernel
theorem dX5_readInto_26 : decode cX5_readInto 26 = .ok (.if_icmp .ge 24, 3) := by decide +kernel
theorem dX5_readInto_29 : decode cX5_readInto 29 = .ok (.aload_n 0, 1) := by decide +kernel
theorem dX5_readInto_30 : decode cX5_readInto 30 = .ok (.getfield 28, 3) := by decide +kernel
theorem dX5_readInto_33 : decode cX5_readInto 33 = .ok (.istore_n 3, 1) := by decide +kernel
theorem dX5_readInto_34 : decode cX5_readInto 34 = .ok (.aload_n 0, 1) := by decide +kernel
theorem dX5_readInto_35 : decode cX5_readInto 35 = .ok (.aload_n 1, 1) := by decide +kernel
theorem dX5_readInto_36 : decode cX5_readInto 36 = .ok (.invokevirtual 31, 3) := by decide +kernel
theorem dX5_readInto_39 : decode cX5_readInto 39 = .ok (.ifCond .ne 5, 3) := by decide +kernel
theorem dX5_readInto_42 : decode cX5_readInto 42 = .ok (.iload_n 3, 1) := by decide +kernel
theorem dX5_readInto_43 : decode cX5_readInto 43 = .ok (.ireturn, 1) := by decide +kernel
theorem dX5_readInto_44 : decode cX5_readInto 44 = .ok (.iinc 2 1, 3) := by decide +kernel
theorem dX5_readInto_47 : decode cX5_readInto 47 = .ok (.goto (-36), 3) := by decide +kernel
theorem dX5_readInto_50 : decode cX5_readInto 50 = .ok (.bipush (-4), 2) := by decide +kernel
theorem dX5_readInto_52 : decode cX5_readInto 52 = .ok (.ireturn, 1) := by decide +kernel
theorem dX5_readItem_0 : decode cX5_readItem 0 = .ok (.aload_n 0, 1) := by decide +kernel
theorem dX5_readItem_1 : decode cX5_readItem 1 = .ok (.getfield 9, 3) := by decide +kernel
theorem dX5_readItem_4 : decode cX5_readItem 4 = .ok (.aload_n 0, 1) := by decide +kernel
theorem dX5_readItem_5 : decode cX5_readItem 5 = .ok (.getfield 28, 3) := by decide +kernel
theorem dX5_readItem_8 : decode cX5_readItem 8 = .ok (.caload, 1) := by decide +kernel
theorem dX5_readItem_9 : decode cX5_readItem 9 = .ok (.istore_n 2, 1) := by decide +kernel
theorem dX5_readItem_10 : decode cX5_readItem 10 = .ok (.iload_n 2, 1) := by decide +kernel
theorem dX5_readItem_11 : decode cX5_readItem 11 = .ok (.invokestatic 35, 3) := by decide +kernel
theorem dX5_readItem_14 : decode cX5_readItem 14 = .ok (.istore_n 3, 1) := by decide +kernel
theorem dX5_readItem_15 : decode cX5_readItem 15 = .ok (.aload_n 0, 1) := by decide +kernel
theorem dX5_readItem_16 : decode cX5_readItem 16 = .ok (.dup, 1) := by decide +kernel
theorem dX5_readItem_17 : decode cX5_readItem 17 = .ok (.getfield 28, 3) := by decide +kernel
theorem dX5_readItem_20 : decode cX5_readItem 20 = .ok (.iconst 1, 1) := by decide +kernel
theorem dX5_readItem_21 : decode cX5_readItem 21 = .ok (.iadd, 1) := by decide +kernel
theorem dX5_readItem_22 : decode cX5_readItem 22 = .ok (.putfield 28, 3) := by decide +kernel
theorem dX5_readItem_25 : decode cX5_readItem 25 = .ok (.iconst 0, 1) := by decide +kernel
theorem dX5_readItem_26 : decode cX5_readItem 26 = .ok (.istore 4, 2) := by decide +kernel
theorem dX5_readItem_28 : decode cX5_readItem 28 = .ok (.iload 4, 2) := by decide +kernel
theorem dX5_readItem_30 : decode cX5_readItem 30 = .ok (.iload_n 3, 1) := by decide +kernel
theorem dX5_readItem_31 : decode cX5_readItem 31 = .ok (.if_icmp .ge 42, 3) := by decide +kernel
theorem dX5_readItem_34 : decode cX5_readItem 34 = .ok (.aload_n 0, 1) := by decide +kernel
theorem dX5_readItem_35 : decode cX5_readItem 35 = .ok (.iload 4, 2) := by decide +kernel
theorem dX5_readItem_37 : decode cX5_readItem 37 = .ok (.invokevirtual 39, 3) := by decide +kernel
theorem dX5_readItem_40 : decode cX5_readItem 40 = .ok (.ifCond .eq 25, 3) := by decide +kernel
theorem dX5_readItem_43 : decode cX5_readItem 43 = .ok (.aload_n 0, 1) := by decide +kernel
theorem dX5_readItem_44 : decode cX5_readItem 44 = .ok (.iload 4, 2) := by decide +kernel
theorem dX5_readItem_46 : decode cX5_readItem 46 = .ok (.iload_n 3, 1) := by decide +kernel
theorem dX5_readItem_47 : decode cX5_readItem 47 = .ok (.iconst 1, 1) := by decide +kernel
theorem dX5_readItem_48 : decode cX5_readItem 48 = .ok (.isub, 1) := by decide +kernel
theorem dX5_readItem_49 : decode cX5_readItem 49 = .ok (.if_icmp .ne 8, 3) := by decide +kernel
theorem dX5_readItem_52 : decode cX5_readItem 52 = .ok (.bipush 59, 2) := by decide +kernel
theorem dX5_readItem_54 : decode cX5_readItem 54 = .ok (.goto 5, 3) := by decide +kernel
theorem dX5_readItem_57 : decode cX5_readItem 57 = .ok (.bipush 44, 2) := by decide +kernel
theorem dX5_readItem_59 : decode cX5_readItem 59 = .ok (.invokevirtual 43, 3) := by decide +kernel
theorem dX5_readItem_62 : decode cX5_readItem 62 = .ok (.ifCond .ne 5, 3) := by decide +kernel
theorem dX5_readItem_65 : decode cX5_readItem 65 = .ok (.iconst 0, 1) := by decide +kernel
theorem dX5_readItem_66 : decode cX5_readItem 66 = .ok (.ireturn, 1) := by decide +kernel
theorem dX5_readItem_67 : decode cX5_readItem 67 = .ok (.iinc 4 1, 3) := by decide +kernel
theorem dX5_readItem_70 : decode cX5_readItem 70 = .ok (.goto (-42), 3) := by decide +kernel
theorem dX5_readItem_73 : decode cX5_readItem 73 = .ok (.aload_n 0, 1) := by decide +kernel
theorem dX5_readItem_74 : decode cX5_readItem 74 = .ok (.aload_n 1, 1) := by decide +kernel
theorem dX5_readItem_75 : decode cX5_readItem 75 = .ok (.iload_n 2, 1) := by decide +kernel
theorem dX5_readItem_76 : decode cX5_readItem 76 = .ok (.invokevirtual 47, 3) := by decide +kernel
theorem dX5_readItem_79 : decode cX5_readItem 79 = .ok (.ireturn, 1) := by decide +kernel
theorem dX5_numbersBehind_0 : decode cX5_numbersBehind 0 = .ok (.iload_n 0, 1) := by decide +kernel
theorem dX5_numbersBehind_1 : decode cX5_numbersBehind 1 = .ok (.tableswitch 47 103 108 #[45, 43, 47, 47, 41, 39], 39) := by decide +kernel
theorem dX5_numbersBehind_40 : decode cX5_numbersBehind 40 = .ok (.iconst 1, 1) := by decide +kernel
theorem dX5_numbersBehind_41 : decode cX5_numbersBehind 41 = .ok (.ireturn, 1) := by decide +kernel
theorem dX5_numbersBehind_42 : decode cX5_numbersBehind 42 = .ok (.iconst 1, 1) := by decide +kernel
theorem dX5_numbersBehind_43 : decode cX5_numbersBehind 43 = .ok (.ireturn, 1) := by decide +kernel
theorem dX5_numbersBehind_44 : decode cX5_numbersBehind 44 = .ok (.iconst 2, 1) := by decide +kernel
theorem dX5_numbersBehind_45 : decode cX5_numbersBehind 45 = .ok (.ireturn, 1) := by decide +kernel
theorem dX5_numbersBehind_46 : decode cX5_numbersBehind 46 = .ok (.iconst 3, 1) := by decide +kernel
theorem dX5_numbersBehind_47 : decode cX5_numbersBehind 47 = .ok (.ireturn, 1) := by decide +kernel
theorem dX5_numbersBehind_48 : decode cX5_numbersBehind 48 = .ok (.iconst 0, 1) := by decide +kernel
theorem dX5_numbersBehind_49 : decode cX5_numbersBehind 49 = .ok (.ireturn, 1) := by decide +kernel
theorem dX5_readNumber_0 : decode cX5_readNumber 0 = .ok (.iconst 0, 1) := by decide +kernel
theorem dX5_readNumber_1 : decode cX5_readNumber 1 = .ok (.istore_n 2, 1) := by decide +kernel
theorem dX5_readNumber_2 : decode cX5_readNumber 2 = .ok (.iconst 0, 1) := by decide +kernel
theorem dX5_readNumber_3 : decode cX5_readNumber 3 = .ok (.istore_n 3, 1) := by decide +kernel
theorem dX5_readNumber_4 : decode cX5_readNumber 4 = .ok (.iload_n 3, 1) := by decide +kernel
theorem dX5_readNumber_5 : decode cX5_readNumber 5 = .ok (.iconst 2, 1) := by decide +kernel
theorem dX5_readNumber_6 : decode cX5_readNumber 6 = .ok (.if_icmp .ge 67, 3) := by decide +kernel
theorem dX5_readNumber_9 : decode cX5_readNumber 9 = .ok (.aload_n 0, 1) := by decide +kernel
theorem dX5_readNumber_10 : decode cX5_readNumber 10 = .ok (.getfield 28, 3) := by decide +kernel
theorem dX5_readNumber_13 : decode cX5_readNumber 13 = .ok (.aload_n 0, 1) := by decide +kernel
theorem dX5_readNumber_14 : decode cX5_readNumber 14 = .ok (.getfield 19, 3) := by decide +kernel
theorem dX5_readNumber_17 : decode cX5_readNumber 17 = .ok (.if_icmp .ge 56, 3) := by decide +kernel
theorem dX5_readNumber_20 : decode cX5_readNumber 20 = .ok (.aload_n 0, 1) := by decide +kernel
theorem dX5_readNumber_21 : decode cX5_readNumber 21 = .ok (.getfield 9, 3) := by decide +kernel
theorem dX5_readNumber_24 : decode cX5_readNumber 24 = .ok (.aload_n 0, 1) := by decide +kernel
theorem dX5_readNumber_25 : decode cX5_readNumber 25 = .ok (.getfield 28, 3) := by decide +kernel
theorem dX5_readNumber_28 : decode cX5_readNumber 28 = .ok (.caload, 1) := by decide +kernel
theorem dX5_readNumber_29 : decode cX5_readNumber 29 = .ok (.bipush 48, 2) := by decide +kernel
theorem dX5_readNumber_31 : decode cX5_readNumber 31 = .ok (.bipush 57, 2) := by decide +kernel
theorem dX5_readNumber_33 : decode cX5_readNumber 33 = .ok (.invokestatic 51, 3) := by decide +kernel
theorem dX5_readNumber_36 : decode cX5_readNumber 36 = .ok (.ifCond .eq 37, 3) := by decide +kernel
theorem dX5_readNumber_39 : decode cX5_readNumber 39 = .ok (.iload_n 2, 1) := by decide +kernel
theorem dX5_readNumber_40 : decode cX5_readNumber 40 = .ok (.bipush 10, 2) := by decide +kernel
theorem dX5_readNumber_42 : decode cX5_readNumber 42 = .ok (.imul, 1) := by decide +kernel
theorem dX5_readNumber_43 : decode cX5_readNumber 43 = .ok (.aload_n 0, 1) := by decide +kernel
theorem dX5_readNumber_44 : decode cX5_readNumber 44 = .ok (.getfield 9, 3) := by decide +kernel
theorem dX5_readNumber_47 : decode cX5_readNumber 47 = .ok (.aload_n 0, 1) := by decide +kernel
theorem dX5_readNumber_48 : decode cX5_readNumber 48 = .ok (.getfield 28, 3) := by decide +kernel
theorem dX5_readNumber_51 : decode cX5_readNumber 51 = .ok (.caload, 1) := by decide +kernel
theorem dX5_readNumber_52 : decode cX5_readNumber 52 = .ok (.bipush 48, 2) := by decide +kernel
theorem dX5_readNumber_54 : decode cX5_readNumber 54 = .ok (.isub, 1) := by decide +kernel
theorem dX5_readNumber_55 : decode cX5_readNumber 55 = .ok (.iadd, 1) := by decide +kernel
theorem dX5_readNumber_56 : decode cX5_readNumber 56 = .ok (.istore_n 2, 1) := by decide +kernel
theorem dX5_readNumber_57 : decode cX5_readNumber 57 = .ok (.aload_n 0, 1) := by decide +kernel
theorem dX5_readNumber_58 : decode cX5_readNumber 58 = .ok (.dup, 1) := by decide +kernel
theorem dX5_readNumber_59 : decode cX5_readNumber 59 = .ok (.getfield 28, 3) := by decide +kernel
theorem dX5_readNumber_62 : decode cX5_readNumber 62 = .ok (.iconst 1, 1) := by decide +kernel
theorem dX5_readNumber_63 : decode cX5_readNumber 63 = .ok (.iadd, 1) := by decide +kernel
theorem dX5_readNumber_64 : decode cX5_readNumber 64 = .ok (.putfield 28, 3) := by decide +kernel
theorem dX5_readNumber_67 : decode cX5_readNumber 67 = .ok (.iinc 3 1, 3) := by decide +kernel
theorem dX5_readNumber_70 : decode cX5_readNumber 70 = .ok (.goto (-66), 3) := by decide +kernel
theorem dX5_readNumber_73 : decode cX5_readNumber 73 = .ok (.aload_n 0, 1) := by decide +kernel
theorem dX5_readNumber_74 : decode cX5_readNumber 74 = .ok (.getfield 15, 3) := by decide +kernel
theorem dX5_readNumber_77 : decode cX5_readNumber 77 = .ok (.iload_n 1, 1) := by decide +kernel
theorem dX5_readNumber_78 : decode cX5_readNumber 78 = .ok (.iload_n 2, 1) := by decide +kernel
theorem dX5_readNumber_79 : decode cX5_readNumber 79 = .ok (.iastore, 1) := by decide +kernel
theorem dX5_readNumber_80 : decode cX5_readNumber 80 = .ok (.iload_n 3, 1) := by decide +kernel
theorem dX5_readNumber_81 : decode cX5_readNumber 81 = .ok (.ifCond .le 7, 3) := by decide +kernel
theorem dX5_readNumber_84 : decode cX5_readNumber 84 = .ok (.iconst 1, 1) := by decide +kernel
theorem dX5_readNumber_85 : decode cX5_readNumber 85 = .ok (.goto 4, 3) := by decide +kernel
theorem dX5_readNumber_88 : decode cX5_readNumber 88 = .ok (.iconst 0, 1) := by decide +kernel
theorem dX5_readNumber_89 : decode cX5_readNumber 89 = .ok (.ireturn, 1) := by decide +kernel
theorem dX5_readSign_0 : decode cX5_readSign 0 = .ok (.aload_n 0, 1) := by decide +kernel
theorem dX5_readSign_1 : decode cX5_readSign 1 = .ok (.getfield 28, 3) := by decide +kernel
theorem dX5_readSign_4 : decode cX5_readSign 4 = .ok (.aload_n 0, 1) := by decide +kernel
theorem dX5_readSign_5 : decode cX5_readSign 5 = .ok (.getfield 19, 3) := by decide +kernel
theorem dX5_readSign_8 : decode cX5_readSign 8 = .ok (.if_icmp .ge 16, 3) := by decide +kernel
theorem dX5_readSign_11 : decode cX5_readSign 11 = .ok (.aload_n 0, 1) := by decide +kernel
theorem dX5_readSign_12 : decode cX5_readSign 12 = .ok (.getfield 9, 3) := by decide +kernel
theorem dX5_readSign_15 : decode cX5_readSign 15 = .ok (.aload_n 0, 1) := by decide +kernel
theorem dX5_readSign_16 : decode cX5_readSign 16 = .ok (.getfield 28, 3) := by decide +kernel
theorem dX5_readSign_19 : decode cX5_readSign 19 = .ok (.caload, 1) := by decide +kernel
theorem dX5_readSign_20 : decode cX5_readSign 20 = .ok (.iload_n 1, 1) := by decide +kernel
theorem dX5_readSign_21 : decode cX5_readSign 21 = .ok (.if_icmp .eq 5, 3) := by decide +kernel
theorem dX5_readSign_24 : decode cX5_readSign 24 = .ok (.iconst 0, 1) := by decide +kernel
theorem dX5_readSign_25 : decode cX5_readSign 25 = .ok (.ireturn, 1) := by decide +kernel
theorem dX5_readSign_26 : decode cX5_readSign 26 = .ok (.aload_n 0, 1) := by decide +kernel
theorem dX5_readSign_27 : decode cX5_readSign 27 = .ok (.dup, 1) := by decide +kernel
theorem dX5_readSign_28 : decode cX5_readSign 28 = .ok (.getfield 28, 3) := by decide +kernel
theorem dX5_readSign_31 : decode cX5_readSign 31 = .ok (.iconst 1, 1) := by decide +kernel
theorem dX5_readSign_32 : decode cX5_readSign 32 = .ok (.iadd, 1) := by decide +kernel
theorem dX5_readSign_33 : decode cX5_readSign 33 = .ok (.putfield 28, 3) := by decide +kernel
theorem dX5_readSign_36 : decode cX5_readSign 36 = .ok (.iconst 1, 1) := by decide +kernel
theorem dX5_readSign_37 : decode cX5_readSign 37 = .ok (.ireturn, 1) := by decide +kernel
theorem dX5_tell_0 : decode cX5_tell 0 = .ok (.iload_n 2, 1) := by decide +kernel
theorem dX5_tell_1 : decode cX5_tell 1 = .ok (.tableswitch 101 103 108 #[78, 61, 101, 101, 50, 39], 39) := by decide +kernel
theorem dX5_tell_40 : decode cX5_tell 40 = .ok (.aload_n 1, 1) := by decide +kernel
theorem dX5_tell_41 : decode cX5_tell 41 = .ok (.aload_n 0, 1) := by decide +kernel
theorem dX5_tell_42 : decode cX5_tell 42 = .ok (.getfield 15, 3) := by decide +kernel
theorem dX5_tell_45 : decode cX5_tell 45 = .ok (.iconst 0, 1) := by decide +kernel
theorem dX5_tell_46 : decode cX5_tell 46 = .ok (.iaload, 1) := by decide +kernel
theorem dX5_tell_47 : decode cX5_tell 47 = .ok (.invokevirtual 55, 3) := by decide +kernel
theorem dX5_tell_50 : decode cX5_tell 50 = .ok (.ireturn, 1) := by decide +kernel
theorem dX5_tell_51 : decode cX5_tell 51 = .ok (.aload_n 1, 1) := by decide +kernel
theorem dX5_tell_52 : decode cX5_tell 52 = .ok (.aload_n 0, 1) := by decide +kernel
theorem dX5_tell_53 : decode cX5_tell 53 = .ok (.getfield 15, 3) := by decide +kernel
theorem dX5_tell_56 : decode cX5_tell 56 = .ok (.iconst 0, 1) := by decide +kernel
theorem dX5_tell_57 : decode cX5_tell 57 = .ok (.iaload, 1) := by decide +kernel
theorem dX5_tell_58 : decode cX5_tell 58 = .ok (.invokevirtual 58, 3) := by decide +kernel
theorem dX5_tell_61 : decode cX5_tell 61 = .ok (.ireturn, 1) := by decide +kernel
theorem dX5_tell_62 : decode cX5_tell 62 = .ok (.aload_n 1, 1) := by decide +kernel
theorem dX5_tell_63 : decode cX5_tell 63 = .ok (.aload_n 0, 1) := by decide +kernel
theorem dX5_tell_64 : decode cX5_tell 64 = .ok (.getfield 15, 3) := by decide +kernel
theorem dX5_tell_67 : decode cX5_tell 67 = .ok (.iconst 0, 1) := by decide +kernel
theorem dX5_tell_68 : decode cX5_tell 68 = .ok (.iaload, 1) := by decide +kernel
theorem dX5_tell_69 : decode cX5_tell 69 = .ok (.aload_n 0, 1) := by decide +kernel
theorem dX5_tell_70 : decode cX5_tell 70 = .ok (.getfield 15, 3) := by decide +kernel
theorem dX5_tell_73 : decode cX5_tell 73 = .ok (.iconst 1, 1) := by decide +kernel
theorem dX5_tell_74 : decode cX5_tell 74 = .ok (.iaload, 1) := by decide +kernel
theorem dX5_tell_75 : decode cX5_tell 75 = .ok (.invokevirtual 61, 3) := by decide +kernel
theorem dX5_tell_78 : decode cX5_tell 78 = .ok (.ireturn, 1) := by decide +kernel
theorem dX5_tell_79 : decode cX5_tell 79 = .ok (.aload_n 1, 1) := by decide +kernel
theorem dX5_tell_80 : decode cX5_tell 80 = .ok (.aload_n 0, 1) := by decide +kernel
theorem dX5_tell_81 : decode cX5_tell 81 = .ok (.getfield 15, 3) := by decide +kernel
theorem dX5_tell_84 : decode cX5_tell 84 = .ok (.iconst 0, 1) := by decide +kernel
theorem dX5_tell_85 : decode cX5_tell 85 = .ok (.iaload, 1) := by decide +kernel
theorem dX5_tell_86 : decode cX5_tell 86 = .ok (.aload_n 0, 1) := by decide +kernel
theorem dX5_tell_87 : decode cX5_tell 87 = .ok (.getfield 15, 3) := by decide +kernel
theorem dX5_tell_90 : decode cX5_tell 90 = .ok (.iconst 1, 1) := by decide +kernel
theorem dX5_tell_91 : decode cX5_tell 91 = .ok (.iaload, 1) := by decide +kernel
theorem dX5_tell_92 : decode cX5_tell 92 = .ok (.aload_n 0, 1) := by decide +kernel
theorem dX5_tell_93 : decode cX5_tell 93 = .ok (.getfield 15, 3) := by decide +kernel
theorem dX5_tell_96 : decode cX5_tell 96 = .ok (.iconst 2, 1) := by decide +kernel
theorem dX5_tell_97 : decode cX5_tell 97 = .ok (.iaload, 1) := by decide +kernel
theorem dX5_tell_98 : decode cX5_tell 98 = .ok (.invokevirtual 65, 3) := by decide +kernel
theorem dX5_tell_101 : decode cX5_tell 101 = .ok (.ireturn, 1) := by decide +kernel
theorem dX5_tell_102 : decode cX5_tell 102 = .ok (.iconst 0, 1) := by decide +kernel
theorem dX5_tell_103 : decode cX5_tell 103 = .ok (.ireturn, 1) := by decide +kernel
theorem dX6_init_0 : decode cX6_init 0 = .ok (.aload_n 0, 1) := by decide +kernel
theorem dX6_init_1 : decode cX6_init 1 = .ok (.invokespecial 1, 3) := by decide +kernel
theorem dX6_init_4 : decode cX6_init 4 = .ok (.aload_n 0, 1) := by decide +kernel
theorem dX6_init_5 : decode cX6_init 5 = .ok (.new 7, 3) := by decide +kernel
theorem dX6_init_8 : decode cX6_init 8 = .ok (.dup, 1) := by decide +kernel
theorem dX6_init_9 : decode cX6_init 9 = .ok (.invokespecial 9, 3) := by decide +kernel
theorem dX6_init_12 : decode cX6_init 12 = .ok (.putfield 10, 3) := by decide +kernel
theorem dX6_init_15 : decode cX6_init 15 = .ok (.aload_n 0, 1) := by decide +kernel
theorem dX6_init_16 : decode cX6_init 16 = .ok (.new 16, 3) := by decide +kernel
theorem dX6_init_19 : decode cX6_init 19 = .ok (.dup, 1) := by decide +kernel
theorem dX6_init_20 : decode cX6_init 20 = .ok (.invokespecial 18, 3) := by decide +kernel
theorem dX6_init_23 : decode cX6_init 23 = .ok (.putfield 19, 3) := by decide +kernel
theorem dX6_init_26 : decode cX6_init 26 = .ok (.aload_n 0, 1) := by decide +kernel
theorem dX6_init_27 : decode cX6_init 27 = .ok (.new 16, 3) := by decide +kernel
theorem dX6_init_30 : decode cX6_init 30 = .ok (.dup, 1) := by decide +kernel
theorem dX6_init_31 : decode cX6_init 31 = .ok (.invokespecial 18, 3) := by decide +kernel
theorem dX6_init_34 : decode cX6_init 34 = .ok (.putfield 23, 3) := by decide +kernel
theorem dX6_init_37 : decode cX6_init 37 = .ok (.aload_n 0, 1) := by decide +kernel
theorem dX6_init_38 : decode cX6_init 38 = .ok (.new 26, 3) := by decide +kernel
theorem dX6_init_41 : decode cX6_init 41 = .ok (.dup, 1) := by decide +kernel
theorem dX6_init_42 : decode cX6_init 42 = .ok (.aload_n 0, 1) := by decide +kernel
theorem dX6_init_43 : decode cX6_init 43 = .ok (.getfield 23, 3) := by decide +kernel
theorem dX6_init_46 : decode cX6_init 46 = .ok (.invokespecial 28, 3) := by decide +kernel
theorem dX6_init_49 : decode cX6_init 49 = .ok (.putfield 31, 3) := by decide +kernel
theorem dX6_init_52 : decode cX6_init 52 = .ok (.aload_n 0, 1) := by decide +kernel
theorem dX6_init_53 : decode cX6_init 53 = .ok (.new 26, 3) := by decide +kernel
theorem dX6_init_56 : decode cX6_init 56 = .ok (.dup, 1) := by decide +kernel
theorem dX6_init_57 : decode cX6_init 57 = .ok (.aload_n 0, 1) := by decide +kernel
theorem dX6_init_58 : decode cX6_init 58 = .ok (.getfield 23, 3) := by decide +kernel
theorem dX6_init_61 : decode cX6_init 61 = .ok (.invokespecial 28, 3) := by decide +kernel
theorem dX6_init_64 : decode cX6_init 64 = .ok (.putfield 35, 3) := by decide +kernel
theorem dX6_init_67 : decode cX6_init 67 = .ok (.aload_n 0, 1) := by decide +kernel
theorem dX6_init_68 : decode cX6_init 68 = .ok (.new 26, 3) := by decide +kernel
theorem dX6_init_71 : decode cX6_init 71 = .ok (.dup, 1) := by decide +kernel
theorem dX6_init_72 : decode cX6_init 72 = .ok (.aload_n 0, 1) := by decide +kernel
theorem dX6_init_73 : decode cX6_init 73 = .ok (.getfield 23, 3) := by decide +kernel
theorem dX6_init_76 : decode cX6_init 76 = .ok (.invokespecial 28, 3) := by decide +kernel
theorem dX6_init_79 : decode cX6_init 79 = .ok (.putfield 38, 3) := by decide +kernel
theorem dX6_init_82 : decode cX6_init 82 = .ok (.aload_n 0, 1) := by decide +kernel
theorem dX6_init_83 : decode cX6_init 83 = .ok (.new 41, 3) := by decide +kernel
theorem dX6_init_86 : decode cX6_init 86 = .ok (.dup, 1) := by decide +kernel
theorem dX6_init_87 : decode cX6_init 87 = .ok (.aload_n 0, 1) := by decide +kernel
theorem dX6_init_88 : decode cX6_init 88 = .ok (.getfield 23, 3) := by decide +kernel
theorem dX6_init_91 : decode cX6_init 91 = .ok (.invokespecial 43, 3) := by decide +kernel
theorem dX6_init_94 : decode cX6_init 94 = .ok (.putfield 44, 3) := by decide +kernel
theorem dX6_init_97 : decode cX6_init 97 = .ok (.aload_n 0, 1) := by decide +kernel
theorem dX6_init_98 : decode cX6_init 98 = .ok (.iconst 2, 1) := by decide +kernel
theorem dX6_init_99 : decode cX6_init 99 = .ok (.anewarray 26, 3) := by decide +kernel
theorem dX6_init_102 : decode cX6_init 102 = .ok (.putfield 48, 3) := by decide +kernel
theorem dX6_init_105 : decode cX6_init 105 = .ok (.aload_n 0, 1) := by decide +kernel
theorem dX6_init_106 : decode cX6_init 106 = .ok (.new 52, 3) := by decide +kernel
theorem dX6_init_109 : decode cX6_init 109 = .ok (.dup, 1) := by decide +kernel
theorem dX6_init_110 : decode cX6_init 110 = .ok (.invokespecial 54, 3) := by decide +kernel
theorem dX6_init_113 : decode cX6_init 113 = .ok (.putfield 55, 3) := by decide +kernel
theorem dX6_init_116 : decode cX6_init 116 = .ok (.aload_n 0, 1) := by decide +kernel
theorem dX6_init_117 : decode cX6_init 117 = .ok (.new 59, 3) := by decide +kernel
theorem dX6_init_120 : decode cX6_init 120 = .ok (.dup, 1) := by decide +kernel
theorem dX6_init_121 : decode cX6_init 121 = .ok (.invokespecial 61, 3) := by decide +kernel
theorem dX6_init_124 : decode cX6_init 124 = .ok (.putfield 62, 3) := by decide +kernel
theorem dX6_init_127 : decode cX6_init 127 = .ok (.iconst 0, 1) := by decide +kernel
theorem dX6_init_128 : decode cX6_init 128 = .ok (.istore_n 1, 1) := by decide +kernel
theorem dX6_init_129 : decode cX6_init 129 = .ok (.iload_n 1, 1) := by decide +kernel
theorem dX6_init_130 : decode cX6_init 130 = .ok (.iconst 2, 1) := by decide +kernel
theorem dX6_init_131 : decode cX6_init 131 = .ok (.if_icmp .ge 26, 3) := by decide +kernel
theorem dX6_init_134 : decode cX6_init 134 = .ok (.aload_n 0, 1) := by decide +kernel
theorem dX6_init_135 : decode cX6_init 135 = .ok (.getfield 48, 3) := by decide +kernel
theorem dX6_init_138 : decode cX6_init 138 = .ok (.iload_n 1, 1) := by decide +kernel
theorem dX6_init_139 : decode cX6_init 139 = .ok (.new 26, 3) := by decide +kernel
theorem dX6_init_142 : decode cX6_init 142 = .ok (.dup, 1) := by decide +kernel
theorem dX6_init_143 : decode cX6_init 143 = .ok (.aload_n 0, 1) := by decide +kernel
theorem dX6_init_144 : decode cX6_init 144 = .ok (.getfield 23, 3) := by decide +kernel
theorem dX6_init_147 : decode cX6_init 147 = .ok (.invokespecial 28, 3) := by decide +kernel
theorem dX6_init_150 : decode cX6_init 150 = .ok (.aastore, 1) := by decide +kernel
theorem dX6_init_151 : decode cX6_init 151 = .ok (.iinc 1 1, 3) := by decide +kernel
theorem dX6_init_154 : decode cX6_init 154 = .ok (.goto (-25), 3) := by decide +kernel
theorem dX6_init_157 : decode cX6_init 157 = .ok (.iconst 0, 1) := by decide +kernel
theorem dX6_init_158 : decode cX6_init 158 = .ok (.istore_n 1, 1) := by decide +kernel
theorem dX6_init_159 : decode cX6_init 159 = .ok (.iload_n 1, 1) := by decide +kernel
theorem dX6_init_160 : decode cX6_init 160 = .ok (.ldc 66, 2) := by decide +kernel
theorem dX6_init_162 : decode cX6_init 162 = .ok (.invokevirtual 68, 3) := by decide +kernel
theorem dX6_init_165 : decode cX6_init 165 = .ok (.if_icmp .ge 23, 3) := by decide +kernel
theorem dX6_init_168 : decode cX6_init 168 = .ok (.aload_n 0, 1) := by decide +kernel
theorem dX6_init_169 : decode cX6_init 169 = .ok (.getfield 10, 3) := by decide +kernel
theorem dX6_init_172 : decode cX6_init 172 = .ok (.ldc 66, 2) := by decide +kernel
theorem dX6_init_174 : decode cX6_init 174 = .ok (.iload_n 1, 1) := by decide +kernel
theorem dX6_init_175 : decode cX6_init 175 = .ok (.invokevirtual 74, 3) := by decide +kernel
theorem dX6_init_178 : decode cX6_init 178 = .ok (.invokevirtual 78, 3) := by decide +kernel
theorem dX6_init_181 : decode cX6_init 181 = .ok (.pop, 1) := by decide +kernel
theorem dX6_init_182 : decode cX6_init 182 = .ok (.iinc 1 1, 3) := by decide +kernel
theorem dX6_init_185 : decode cX6_init 185 = .ok (.goto (-26), 3) := by decide +kernel
theorem dX6_init_188 : decode cX6_init 188 = .ok (.aload_n 0, 1) := by decide +kernel
theorem dX6_init_189 : decode cX6_init 189 = .ok (.getfield 10, 3) := by decide +kernel
theorem dX6_init_192 : decode cX6_init 192 = .ok (.aload_n 0, 1) := by decide +kernel
theorem dX6_init_193 : decode cX6_init 193 = .ok (.getfield 19, 3) := by decide +kernel
theorem dX6_init_196 : decode cX6_init 196 = .ok (.invokevirtual 82, 3) := by decide +kernel
theorem dX6_init_199 : decode cX6_init 199 = .ok (.pop, 1) := by decide +kernel
theorem dX6_init_200 : decode cX6_init 200 = .ok (.aload_n 0, 1) := by decide +kernel
theorem dX6_init_201 : decode cX6_init 201 = .ok (.invokevirtual 86, 3) := by decide +kernel
theorem dX6_init_204 : decode cX6_init 204 = .ok (.aload_n 0, 1) := by decide +kernel
theorem dX6_init_205 : decode cX6_init 205 = .ok (.getfield 10, 3) := by decide +kernel
theorem dX6_init_208 : decode cX6_init 208 = .ok (.invokevirtual 89, 3) := by decide +kernel
theorem dX6_init_211 : decode cX6_init 211 = .ok (.return_, 1) := by decide +kernel
theorem dX6_write_0 : decode cX6_write 0 = .ok (.iload_n 1, 1) := by decide +kernel
theorem dX6_write_1 : decode cX6_write 1 = .ok (.bipush 32, 2) := by decide +kernel
theorem dX6_write_3 : decode cX6_write 3 = .ok (.bipush 126, 2) := by decide +kernel
theorem dX6_write_5 : decode cX6_write 5 = .ok (.invokestatic 92, 3) := by decide +kernel
theorem dX6_write_8 : decode cX6_write 8 = .ok (.ifCond .ne 5, 3) := by decide +kernel
theorem dX6_write_11 : decode cX6_write 11 = .ok (.iconst (-1), 1) := by decide +kernel
theorem dX6_write_12 : decode cX6_write 12 = .ok (.ireturn, 1) := by decide +kernel
theorem dX6_write_13 : decode cX6_write 13 = .ok (.aload_n 0, 1) := by decide +kernel
theorem dX6_write_14 : decode cX6_write 14 = .ok (.getfield 10, 3) := by decide +kernel
theorem dX6_write_17 : decode cX6_write 17 = .ok (.iload_n 1, 1) := by decide +kernel
theorem dX6_write_18 : decode cX6_write 18 = .ok (.i2c, 1) := by decide +kernel
theorem dX6_write_19 : decode cX6_write 19 = .ok (.invokevirtual 78, 3) := by decide +kernel
theorem dX6_write_22 : decode cX6_write 22 = .ok (.ifCond .eq 13, 3) := by decide +kernel
theorem dX6_write_25 : decode cX6_write 25 = .ok (.aload_n 0, 1) := by decide +kernel
theorem dX6_write_26 : decode cX6_write 26 = .ok (.getfield 10, 3) := by decide +kernel
theorem dX6_write_29 : decode cX6_write 29 = .ok (.invokevirtual 96, 3) := by decide +kernel
theorem dX6_write_32 : decode cX6_write 32 = .ok (.goto 5, 3) := by decide +kernel
theorem dX6_write_35 : decode cX6_write 35 = .ok (.bipush (-3), 2) := by decide +kernel
theorem dX6_write_37 : decode cX6_write 37 = .ok (.ireturn, 1) := by decide +kernel
theorem dX6_wipe_0 : decode cX6_wipe 0 = .ok (.aload_n 0, 1) := by decide +kernel
theorem dX6_wipe_1 : decode cX6_wipe 1 = .ok (.getfield 10, 3) := by decide +kernel
theorem dX6_wipe_4 : decode cX6_wipe 4 = .ok (.invokevirtual 96, 3) := by decide +kernel
theorem dX6_wipe_7 : decode cX6_wipe 7 = .ok (.istore_n 1, 1) := by decide +kernel
theorem dX6_wipe_8 : decode cX6_wipe 8 = .ok (.aload_n 0, 1) := by decide +kernel
theorem dX6_wipe_9 : decode cX6_wipe 9 = .ok (.getfield 10, 3) := by decide +kernel
theorem dX6_wipe_12 : decode cX6_wipe 12 = .ok (.invokevirtual 89, 3) := by decide +kernel
theorem dX6_wipe_15 : decode cX6_wipe 15 = .ok (.iload_n 1, 1) := by decide +kernel
theorem dX6_wipe_16 : decode cX6_wipe 16 = .ok (.ireturn, 1) := by decide +kernel
theorem dX6_fault_0 : decode cX6_fault 0 = .ok (.aload_n 0, 1) := by decide +kernel
theorem dX6_fault_1 : decode cX6_fault 1 = .ok (.getfield 10, 3) := by decide +kernel
theorem dX6_fault_4 : decode cX6_fault 4 = .ok (.aload_n 0, 1) := by decide +kernel
theorem dX6_fault_5 : decode cX6_fault 5 = .ok (.getfield 19, 3) := by decide +kernel
theorem dX6_fault_8 : decode cX6_fault 8 = .ok (.invokevirtual 82, 3) := by decide +kernel
theorem dX6_fault_11 : decode cX6_fault 11 = .ok (.ireturn, 1) := by decide +kernel
theorem dX6_lay_0 : decode cX6_lay 0 = .ok (.aload_n 0, 1) := by decide +kernel
theorem dX6_lay_1 : decode cX6_lay 1 = .ok (.getfield 10, 3) := by decide +kernel
theorem dX6_lay_4 : decode cX6_lay 4 = .ok (.aload_n 0, 1) := by decide +kernel
theorem dX6_lay_5 : decode cX6_lay 5 = .ok (.getfield 19, 3) := by decide +kernel
theorem dX6_lay_8 : decode cX6_lay 8 = .ok (.invokevirtual 82, 3) := by decide +kernel
theorem dX6_lay_11 : decode cX6_lay 11 = .ok (.bipush (-4), 2) := by decide +kernel
theorem dX6_lay_13 : decode cX6_lay 13 = .ok (.if_icmp .ne 13, 3) := by decide +kernel
theorem dX6_lay_16 : decode cX6_lay 16 = .ok (.aload_n 0, 1) := by decide +kernel
theorem dX6_lay_17 : decode cX6_lay 17 = .ok (.getfield 19, 3) := by decide +kernel
theorem dX6_lay_20 : decode cX6_lay 20 = .ok (.getfield 97, 3) := by decide +kernel
theorem dX6_lay_23 : decode cX6_lay 23 = .ok (.ifCond .ne 6, 3) := by decide +kernel
theorem dX6_lay_26 : decode cX6_lay 26 = .ok (.bipush (-2), 2) := by decide +kernel
theorem dX6_lay_28 : decode cX6_lay 28 = .ok (.ireturn, 1) := by decide +kernel
theorem dX6_lay_29 : decode cX6_lay 29 = .ok (.aload_n 0, 1) := by decide +kernel
theorem dX6_lay_30 : decode cX6_lay 30 = .ok (.invokevirtual 86, 3) := by decide +kernel
theorem dX6_lay_33 : decode cX6_lay 33 = .ok (.aload_n 0, 1) := by decide +kernel
theorem dX6_lay_34 : decode cX6_lay 34 = .ok (.getfield 23, 3) := by decide +kernel
theorem dX6_lay_37 : decode cX6_lay 37 = .ok (.getfield 97, 3) := by decide +kernel
theorem dX6_lay_40 : decode cX6_lay 40 = .ok (.ireturn, 1) := by decide +kernel
theorem dX6_guest_0 : decode cX6_guest 0 = .ok (.aload_n 0, 1) := by decide +kernel
theorem dX6_guest_1 : decode cX6_guest 1 = .ok (.iload_n 1, 1) := by decide +kernel
theorem dX6_guest_2 : decode cX6_guest 2 = .ok (.invokevirtual 101, 3) := by decide +kernel
theorem dX6_guest_5 : decode cX6_guest 5 = .ok (.ifCond .ne 5, 3) := by decide +kernel
theorem dX6_guest_8 : decode cX6_guest 8 = .ok (.iconst (-1), 1) := by decide +kernel
theorem dX6_guest_9 : decode cX6_guest 9 = .ok (.ireturn, 1) := by decide +kernel
theorem dX6_guest_10 : decode cX6_guest 10 = .ok (.iload_n 2, 1) := by decide +kernel
theorem dX6_guest_11 : decode cX6_guest 11 = .ok (.tableswitch 68 0 3 #[29, 39, 49, 59], 29) := by decide +kernel
theorem dX6_guest_40 : decode cX6_guest 40 = .ok (.aload_n 0, 1) := by decide +kernel
theorem dX6_guest_41 : decode cX6_guest 41 = .ok (.getfield 23, 3) := by decide +kernel
theorem dX6_guest_44 : decode cX6_guest 44 = .ok (.getfield 105, 3) := by decide +kernel
theorem dX6_guest_47 : decode cX6_guest 47 = .ok (.iload_n 1, 1) := by decide +kernel
theorem dX6_guest_48 : decode cX6_guest 48 = .ok (.iaload, 1) := by decide +kernel
theorem dX6_guest_49 : decode cX6_guest 49 = .ok (.ireturn, 1) := by decide +kernel
theorem dX6_guest_50 : decode cX6_guest 50 = .ok (.aload_n 0, 1) := by decide +kernel
theorem dX6_guest_51 : decode cX6_guest 51 = .ok (.getfield 23, 3) := by decide +kernel
theorem dX6_guest_54 : decode cX6_guest 54 = .ok (.getfield 109, 3) := by decide +kernel
theorem dX6_guest_57 : decode cX6_guest 57 = .ok (.iload_n 1, 1) := by decide +kernel
theorem dX6_guest_58 : decode cX6_guest 58 = .ok (.iaload, 1) := by decide +kernel
theorem dX6_guest_59 : decode cX6_guest 59 = .ok (.ireturn, 1) := by decide +kernel
theorem dX6_guest_60 : decode cX6_guest 60 = .ok (.aload_n 0, 1) := by decide +kernel
theorem dX6_guest_61 : decode cX6_guest 61 = .ok (.getfield 23, 3) := by decide +kernel
theorem dX6_guest_64 : decode cX6_guest 64 = .ok (.getfield 112, 3) := by decide +kernel
theorem dX6_guest_67 : decode cX6_guest 67 = .ok (.iload_n 1, 1) := by decide +kernel
theorem dX6_guest_68 : decode cX6_guest 68 = .ok (.iaload, 1) := by decide +kernel
theorem dX6_guest_69 : decode cX6_guest 69 = .ok (.ireturn, 1) := by decide +kernel
theorem dX6_guest_70 : decode cX6_guest 70 = .ok (.aload_n 0, 1) := by decide +kernel
theorem dX6_guest_71 : decode cX6_guest 71 = .ok (.getfield 31, 3) := by decide +kernel
theorem dX6_guest_74 : decode cX6_guest 74 = .ok (.iload_n 1, 1) := by decide +kernel
theorem dX6_guest_75 : decode cX6_guest 75 = .ok (.invokevirtual 115, 3) := by decide +kernel
theorem dX6_guest_78 : decode cX6_guest 78 = .ok (.ireturn, 1) := by decide +kernel
theorem dX6_guest_79 : decode cX6_guest 79 = .ok (.iconst (-1), 1) := by decide +kernel
theorem dX6_guest_80 : decode cX6_guest 80 = .ok (.ireturn, 1) := by decide +kernel
theorem dX6_slice_0 : decode cX6_slice 0 = .ok (.aload_n 0, 1) := by decide +kernel
theorem dX6_slice_1 : decode cX6_slice 1 = .ok (.iload_n 1, 1) := by decide +kernel
theorem dX6_slice_2 : decode cX6_slice 2 = .ok (.invokevirtual 101, 3) := by decide +kernel
theorem dX6_slice_5 : decode cX6_slice 5 = .ok (.ifCond .ne 5, 3) := by decide +kernel
theorem dX6_slice_8 : decode cX6_slice 8 = .ok (.iconst (-1), 1) := by decide +kernel
theorem dX6_slice_9 : decode cX6_slice 9 = .ok (.ireturn, 1) := by decide +kernel
theorem dX6_slice_10 : decode cX6_slice 10 = .ok (.aload_n 0, 1) := by decide +kernel
theorem dX6_slice_11 : decode cX6_slice 11 = .ok (.getfield 31, 3) := by decide +kernel
theorem dX6_slice_14 : decode cX6_slice 14 = .ok (.getfield 119, 3) := by decide +kernel
theorem dX6_slice_17 : decode cX6_slice 17 = .ok (.iload_n 1, 1) := by decide +kernel
theorem dX6_slice_18 : decode cX6_slice 18 = .ok (.iaload, 1) := by decide +kernel
theorem dX6_slice_19 : decode cX6_slice 19 = .ok (.iconst 1, 1) := by decide +kernel
theorem dX6_slice_20 : decode cX6_slice 20 = .ok (.if_icmp .ne 7, 3) := by decide +kernel
theorem dX6_slice_23 : decode cX6_slice 23 = .ok (.iconst 1, 1) := by decide +kernel
theorem dX6_slice_24 : decode cX6_slice 24 = .ok (.goto 4, 3) := by decide +kernel
theorem dX6_slice_27 : decode cX6_slice 27 = .ok (.iconst 0, 1) := by decide +kernel
theorem dX6_slice_28 : decode cX6_slice 28 = .ok (.istore_n 3, 1) := by decide +kernel
theorem dX6_slice_29 : decode cX6_slice 29 = .ok (.iload_n 2, 1) := by decide +kernel
theorem dX6_slice_30 : decode cX6_slice 30 = .ok (.tableswitch 124 0 5 #[38, 48, 67, 86, 96, 106], 38) := by decide +kernel
theorem dX6_slice_68 : decode cX6_slice 68 = .ok (.aload_n 0, 1) := by decide +kernel
theorem dX6_slice_69 : decode cX6_slice 69 = .ok (.getfield 31, 3) := by decide +kernel
theorem dX6_slice_72 : decode cX6_slice 72 = .ok (.getfield 119, 3) := by decide +kernel
theorem dX6_slice_75 : decode cX6_slice 75 = .ok (.iload_n 1, 1) := by decide +kernel
theorem dX6_slice_76 : decode cX6_slice 76 = .ok (.iaload, 1) := by decide +kernel
theorem dX6_slice_77 : decode cX6_slice 77 = .ok (.ireturn, 1) := by decide +kernel
theorem dX6_slice_78 : decode cX6_slice 78 = .ok (.iload_n 3, 1) := by decide +kernel
theorem dX6_slice_79 : decode cX6_slice 79 = .ok (.ifCond .eq 15, 3) := by decide +kernel
theorem dX6_slice_82 : decode cX6_slice 82 = .ok (.aload_n 0, 1) := by decide +kernel
theorem dX6_slice_83 : decode cX6_slice 83 = .ok (.getfield 31, 3) := by decide +kernel
theorem dX6_slice_86 : decode cX6_slice 86 = .ok (.getfield 122, 3) := by decide +kernel
theorem dX6_slice_89 : decode cX6_slice 89 = .ok (.iload_n 1, 1) := by decide +kernel
theorem dX6_slice_90 : decode cX6_slice 90 = .ok (.iaload, 1) := by decide +kernel
theorem dX6_slice_91 : decode cX6_slice 91 = .ok (.goto 5, 3) := by decide +kernel
theorem dX6_slice_94 : decode cX6_slice 94 = .ok (.bipush (-4), 2) := by decide +kernel
theorem dX6_slice_96 : decode cX6_slice 96 = .ok (.ireturn, 1) := by decide +kernel
theorem dX6_slice_97 : decode cX6_slice 97 = .ok (.iload_n 3, 1) := by decide +kernel
theorem dX6_slice_98 : decode cX6_slice 98 = .ok (.ifCond .eq 15, 3) := by decide +kernel
theorem dX6_slice_101 : decode cX6_slice 101 = .ok (.aload_n 0, 1) := by decide +kernel
theorem dX6_slice_102 : decode cX6_slice 102 = .ok (.getfield 31, 3) := by decide +kernel
theorem dX6_slice_105 : decode cX6_slice 105 = .ok (.getfield 125, 3) := by decide +kernel
theorem dX6_slice_108 : decode cX6_slice 108 = .ok (.iload_n 1, 1) := by decide +kernel
theorem dX6_slice_109 : decode cX6_slice 109 = .ok (.iaload, 1) := by decide +kernel
theorem dX6_slice_110 : decode cX6_slice 110 = .ok (.goto 5, 3) := by decide +kernel
theorem dX6_slice_113 : decode cX6_slice 113 = .ok (.bipush (-4), 2) := by decide +kernel
theorem dX6_slice_115 : decode cX6_slice 115 = .ok (.ireturn, 1) := by decide +kernel
theorem dX6_slice_116 : decode cX6_slice 116 = .ok (.aload_n 0, 1) := by decide +kernel
theorem dX6_slice_117 : decode cX6_slice 117 = .ok (.getfield 31, 3) := by decide +kernel
theorem dX6_slice_120 : decode cX6_slice 120 = .ok (.getfield 128, 3) := by decide +kernel
theorem dX6_slice_123 : decode cX6_slice 123 = .ok (.iload_n 1, 1) := by decide +kernel
theorem dX6_slice_124 : decode cX6_slice 124 = .ok (.iaload, 1) := by decide +kernel
theorem dX6_slice_125 : decode cX6_slice 125 = .ok (.ireturn, 1) := by decide +kernel
theorem dX6_slice_126 : decode cX6_slice 126 = .ok (.aload_n 0, 1) := by decide +kernel
theorem dX6_slice_127 : decode cX6_slice 127 = .ok (.getfield 31, 3) := by decide +kernel
theorem dX6_slice_130 : decode cX6_slice 130 = .ok (.getfield 131, 3) := by decide +kernel
theorem dX6_slice_133 : decode cX6_slice 133 = .ok (.iload_n 1, 1) := by decide +kernel
theorem dX6_slice_134 : decode cX6_slice 134 = .ok (.iaload, 1) := by decide +kernel
theorem dX6_slice_135 : decode cX6_slice 135 = .ok (.ireturn, 1) := by decide +kernel
theorem dX6_slice_136 : decode cX6_slice 136 = .ok (.aload_n 0, 1) := by decide +kernel
theorem dX6_slice_137 : decode cX6_slice 137 = .ok (.getfield 31, 3) := by decide +kernel
theorem dX6_slice_140 : decode cX6_slice 140 = .ok (.iload_n 1, 1) := by decide +kernel
theorem dX6_slice_141 : decode cX6_slice 141 = .ok (.iload_n 1, 1) := by decide +kernel
theorem dX6_slice_142 : decode cX6_slice 142 = .ok (.invokevirtual 134, 3) := by decide +kernel
theorem dX6_slice_145 : decode cX6_slice 145 = .ok (.ifCond .eq 7, 3) := by decide +kernel
theorem dX6_slice_148 : decode cX6_slice 148 = .ok (.iconst 1, 1) := by decide +kernel
theorem dX6_slice_149 : decode cX6_slice 149 = .ok (.goto 4, 3) := by decide +kernel
theorem dX6_slice_152 : decode cX6_slice 152 = .ok (.iconst 0, 1) := by decide +kernel
theorem dX6_slice_153 : decode cX6_slice 153 = .ok (.ireturn, 1) := by decide +kernel
theorem dX6_slice_154 : decode cX6_slice 154 = .ok (.iconst (-1), 1) := by decide +kernel
theorem dX6_slice_155 : decode cX6_slice 155 = .ok (.ireturn, 1) := by decide +kernel
theorem dX6_putIn_0 : decode cX6_putIn 0 = .ok (.aload_n 0, 1) := by decide +kernel
theorem dX6_putIn_1 : decode cX6_putIn 1 = .ok (.iload_n 1, 1) := by decide +kernel
theorem dX6_putIn_2 : decode cX6_putIn 2 = .ok (.invokevirtual 101, 3) := by decide +kernel
theorem dX6_putIn_5 : decode cX6_putIn 5 = .ok (.ifCond .eq 10, 3) := by decide +kernel
theorem dX6_putIn_8 : decode cX6_putIn 8 = .ok (.iload_n 2, 1) := by decide +kernel
theorem dX6_putIn_9 : decode cX6_putIn 9 = .ok (.invokestatic 138, 3) := by decide +kernel
theorem dX6_putIn_12 : decode cX6_putIn 12 = .ok (.ifCond .ne 5, 3) := by decide +kernel
theorem dX6_putIn_15 : decode cX6_putIn 15 = .ok (.iconst (-1), 1) := by decide +kernel
theorem dX6_putIn_16 : decode cX6_putIn 16 = .ok (.ireturn, 1) := by decide +kernel
theorem dX6_putIn_17 : decode cX6_putIn 17 = .ok (.aload_n 0, 1) := by decide +kernel
theorem dX6_putIn_18 : decode cX6_putIn 18 = .ok (.getfield 31, 3) := by decide +kernel
theorem dX6_putIn_21 : decode cX6_putIn 21 = .ok (.iload_n 1, 1) := by decide +kernel
theorem dX6_putIn_22 : decode cX6_putIn 22 = .ok (.invokevirtual 141, 3) := by decide +kernel
theorem dX6_putIn_25 : decode cX6_putIn 25 = .ok (.ifCond .eq 14, 3) := by decide +kernel
theorem dX6_putIn_28 : decode cX6_putIn 28 = .ok (.aload_n 0, 1) := by decide +kernel
theorem dX6_putIn_29 : decode cX6_putIn 29 = .ok (.getfield 31, 3) := by decide +kernel
theorem dX6_putIn_32 : decode cX6_putIn 32 = .ok (.iload_n 2, 1) := by decide +kernel
theorem dX6_putIn_33 : decode cX6_putIn 33 = .ok (.invokevirtual 144, 3) := by decide +kernel
theorem dX6_putIn_36 : decode cX6_putIn 36 = .ok (.ifCond .ne 6, 3) := by decide +kernel
theorem dX6_putIn_39 : decode cX6_putIn 39 = .ok (.bipush (-2), 2) := by decide +kernel
theorem dX6_putIn_41 : decode cX6_putIn 41 = .ok (.ireturn, 1) := by decide +kernel
theorem dX6_putIn_42 : decode cX6_putIn 42 = .ok (.aload_n 0, 1) := by decide +kernel
theorem dX6_putIn_43 : decode cX6_putIn 43 = .ok (.getfield 44, 3) := by decide +kernel
theorem dX6_putIn_46 : decode cX6_putIn 46 = .ok (.aload_n 0, 1) := by decide +kernel
theorem dX6_putIn_47 : decode cX6_putIn 47 = .ok (.getfield 31, 3) := by decide +kernel
theorem dX6_putIn_50 : decode cX6_putIn 50 = .ok (.invokevirtual 147, 3) := by decide +kernel
theorem dX6_putIn_53 : decode cX6_putIn 53 = .ok (.aload_n 0, 1) := by decide +kernel
theorem dX6_putIn_54 : decode cX6_putIn 54 = .ok (.getfield 31, 3) := by decide +kernel
theorem dX6_putIn_57 : decode cX6_putIn 57 = .ok (.iload_n 1, 1) := by decide +kernel
theorem dX6_putIn_58 : decode cX6_putIn 58 = .ok (.iload_n 2, 1) := by decide +kernel
theorem dX6_putIn_59 : decode cX6_putIn 59 = .ok (.invokevirtual 151, 3) := by decide +kernel
theorem dX6_putIn_62 : decode cX6_putIn 62 = .ok (.aload_n 0, 1) := by decide +kernel
theorem dX6_putIn_63 : decode cX6_putIn 63 = .ok (.getfield 31, 3) := by decide +kernel
theorem dX6_putIn_66 : decode cX6_putIn 66 = .ok (.iconst 1, 1) := by decide +kernel
theorem dX6_putIn_67 : decode cX6_putIn 67 = .ok (.invokevirtual 155, 3) := by decide +kernel
theorem dX6_putIn_70 : decode cX6_putIn 70 = .ok (.ireturn, 1) := by decide +kernel
theorem dX6_pass_0 : decode cX6_pass 0 = .ok (.iload_n 1, 1) := by decide +kernel
theorem dX6_pass_1 : decode cX6_pass 1 = .ok (.iconst 1, 1) := by decide +kernel
theorem dX6_pass_2 : decode cX6_pass 2 = .ok (.bipush 60, 2) := by decide +kernel
theorem dX6_pass_4 : decode cX6_pass 4 = .ok (.invokestatic 92, 3) := by decide +kernel
theorem dX6_pass_7 : decode cX6_pass 7 = .ok (.ifCond .ne 5, 3) := by decide +kernel
theorem dX6_pass_10 : decode cX6_pass 10 = .ok (.iconst (-1), 1) := by decide +kernel
theorem dX6_pass_11 : decode cX6_pass 11 = .ok (.ireturn, 1) := by decide +kernel
theorem dX6_pass_12 : decode cX6_pass 12 = .ok (.aload_n 0, 1) := by decide +kernel
theorem dX6_pass_13 : decode cX6_pass 13 = .ok (.getfield 31, 3) := by decide +kernel
theorem dX6_pass_16 : decode cX6_pass 16 = .ok (.getfield 158, 3) := by decide +kernel
theorem dX6_pass_19 : decode cX6_pass 19 = .ok (.iload_n 1, 1) := by decide +kernel
theorem dX6_pass_20 : decode cX6_pass 20 = .ok (.iadd, 1) := by decide +kernel
theorem dX6_pass_21 : decode cX6_pass 21 = .ok (.sipush 999, 3) := by decide +kernel
theorem dX6_pass_24 : decode cX6_pass 24 = .ok (.if_icmp .le 6, 3) := by decide +kernel
theorem dX6_pass_27 : decode cX6_pass 27 = .ok (.bipush (-2), 2) := by decide +kernel
theorem dX6_pass_29 : decode cX6_pass 29 = .ok (.ireturn, 1) := by decide +kernel
theorem dX6_pass_30 : decode cX6_pass 30 = .ok (.aload_n 0, 1) := by decide +kernel
theorem dX6_pass_31 : decode cX6_pass 31 = .ok (.getfield 44, 3) := by decide +kernel
theorem dX6_pass_34 : decode cX6_pass 34 = .ok (.aload_n 0, 1) := by decide +kernel
theorem dX6_pass_35 : decode cX6_pass 35 = .ok (.getfield 31, 3) := by decide +kernel
theorem dX6_pass_38 : decode cX6_pass 38 = .ok (.invokevirtual 147, 3) := by decide +kernel
theorem dX6_pass_41 : decode cX6_pass 41 = .ok (.aload_n 0, 1) := by decide +kernel
theorem dX6_pass_42 : decode cX6_pass 42 = .ok (.getfield 31, 3) := by decide +kernel
theorem dX6_pass_45 : decode cX6_pass 45 = .ok (.iconst 1, 1) := by decide +kernel
theorem dX6_pass_46 : decode cX6_pass 46 = .ok (.invokevirtual 155, 3) := by decide +kernel
theorem dX6_pass_49 : decode cX6_pass 49 = .ok (.istore_n 2, 1) := by decide +kernel
theorem dX6_pass_50 : decode cX6_pass 50 = .ok (.iconst 0, 1) := by decide +kernel
theorem dX6_pass_51 : decode cX6_pass 51 = .ok (.istore_n 3, 1) := by decide +kernel
theorem dX6_pass_52 : decode cX6_pass 52 = .ok (.iload_n 3, 1) := by decide +kernel
theorem dX6_pass_53 : decode cX6_pass 53 = .ok (.iload_n 1, 1) := by decide +kernel
theorem dX6_pass_54 : decode cX6_pass 54 = .ok (.if_icmp .ge 16, 3) := by decide +kernel
theorem dX6_pass_57 : decode cX6_pass 57 = .ok (.aload_n 0, 1) := by decide +kernel
theorem dX6_pass_58 : decode cX6_pass 58 = .ok (.getfield 31, 3) := by decide +kernel
theorem dX6_pass_61 : decode cX6_pass 61 = .ok (.invokevirtual 161, 3) := by decide +kernel
theorem dX6_pass_64 : decode cX6_pass 64 = .ok (.iinc 3 1, 3) := by decide +kernel
theorem dX6_pass_67 : decode cX6_pass 67 = .ok (.goto (-15), 3) := by decide +kernel
theorem dX6_pass_70 : decode cX6_pass 70 = .ok (.iload_n 2, 1) := by decide +kernel
theorem dX6_pass_71 : decode cX6_pass 71 = .ok (.aload_n 0, 1) := by decide +kernel
theorem dX6_pass_72 : decode cX6_pass 72 = .ok (.getfield 31, 3) := by decide +kernel
theorem dX6_pass_75 : decode cX6_pass 75 = .ok (.iconst 1, 1) := by decide +kernel
theorem dX6_pass_76 : decode cX6_pass 76 = .ok (.invokevirtual 155, 3) := by decide +kernel
theorem dX6_pass_79 : decode cX6_pass 79 = .ok (.isub, 1) := by decide +kernel
theorem dX6_pass_80 : decode cX6_pass 80 = .ok (.ireturn, 1) := by decide +kernel
theorem dX6_knob_0 : decode cX6_knob 0 = .ok (.iload_n 1, 1) := by decide +kernel
theorem dX6_knob_1 : decode cX6_knob 1 = .ok (.invokestatic 164, 3) := by decide +kernel
theorem dX6_knob_4 : decode cX6_knob 4 = .ok (.ifCond .ne 5, 3) := by decide +kernel
theorem dX6_knob_7 : decode cX6_knob 7 = .ok (.iconst (-1), 1) := by decide +kernel
theorem dX6_knob_8 : decode cX6_knob 8 = .ok (.ireturn, 1) := by decide +kernel
theorem dX6_knob_9 : decode cX6_knob 9 = .ok (.aload_n 0, 1) := by decide +kernel
theorem dX6_knob_10 : decode cX6_knob 10 = .ok (.getfield 44, 3) := by decide +kernel
theorem dX6_knob_13 : decode cX6_knob 13 = .ok (.aload_n 0, 1) := by decide +kernel
theorem dX6_knob_14 : decode cX6_knob 14 = .ok (.getfield 31, 3) := by decide +kernel
theorem dX6_knob_17 : decode cX6_knob 17 = .ok (.invokevirtual 147, 3) := by decide +kernel
theorem dX6_knob_20 : decode cX6_knob 20 = .ok (.aload_n 0, 1) := by decide +kernel
theorem dX6_knob_21 : decode cX6_knob 21 = .ok (.getfield 31, 3) := by decide +kernel
theorem dX6_knob_24 : decode cX6_knob 24 = .ok (.getfield 167, 3) := by decide +kernel
theorem dX6_knob_27 : decode cX6_knob 27 = .ok (.istore_n 2, 1) := by decide +kernel
theorem dX6_knob_28 : decode cX6_knob 28 = .ok (.aload_n 0, 1) := by decide +kernel
theorem dX6_knob_29 : decode cX6_knob 29 = .ok (.getfield 31, 3) := by decide +kernel
theorem dX6_knob_32 : decode cX6_knob 32 = .ok (.iload_n 1, 1) := by decide +kernel
theorem dX6_knob_33 : decode cX6_knob 33 = .ok (.putfield 167, 3) := by decide +kernel
theorem dX6_knob_36 : decode cX6_knob 36 = .ok (.iload_n 2, 1) := by decide +kernel
theorem dX6_knob_37 : decode cX6_knob 37 = .ok (.ireturn, 1) := by decide +kernel
theorem dX6_take_0 : decode cX6_take 0 = .ok (.aload_n 0, 1) := by decide +kernel
theorem dX6_take_1 : decode cX6_take 1 = .ok (.iload_n 1, 1) := by decide +kernel
theorem dX6_take_2 : decode cX6_take 2 = .ok (.invokevirtual 101, 3) := by decide +kernel
theorem dX6_take_5 : decode cX6_take 5 = .ok (.ifCond .eq 11, 3) := by decide +kernel
theorem dX6_take_8 : decode cX6_take 8 = .ok (.aload_n 0, 1) := by decide +kernel
theorem dX6_take_9 : decode cX6_take 9 = .ok (.iload_n 2, 1) := by decide +kernel
theorem dX6_take_10 : decode cX6_take 10 = .ok (.invokevirtual 101, 3) := by decide +kernel
theorem dX6_take_13 : decode cX6_take 13 = .ok (.ifCond .ne 5, 3) := by decide +kernel
theorem dX6_take_16 : decode cX6_take 16 = .ok (.iconst (-1), 1) := by decide +kernel
theorem dX6_take_17 : decode cX6_take 17 = .ok (.ireturn, 1) := by decide +kernel
theorem dX6_take_18 : decode cX6_take 18 = .ok (.aload_n 0, 1) := by decide +kernel
theorem dX6_take_19 : decode cX6_take 19 = .ok (.getfield 31, 3) := by decide +kernel
theorem dX6_take_22 : decode cX6_take 22 = .ok (.iload_n 1, 1) := by decide +kernel
theorem dX6_take_23 : decode cX6_take 23 = .ok (.iload_n 2, 1) := by decide +kernel
theorem dX6_take_24 : decode cX6_take 24 = .ok (.invokevirtual 170, 3) := by decide +kernel
theorem dX6_take_27 : decode cX6_take 27 = .ok (.ifCond .ne 6, 3) := by decide +kernel
theorem dX6_take_30 : decode cX6_take 30 = .ok (.bipush (-2), 2) := by decide +kernel
theorem dX6_take_32 : decode cX6_take 32 = .ok (.ireturn, 1) := by decide +kernel
theorem dX6_take_33 : decode cX6_take 33 = .ok (.aload_n 0, 1) := by decide +kernel
theorem dX6_take_34 : decode cX6_take 34 = .ok (.getfield 44, 3) := by decide +kernel
theorem dX6_take_37 : decode cX6_take 37 = .ok (.aload_n 0, 1) := by decide +kernel
theorem dX6_take_38 : decode cX6_take 38 = .ok (.getfield 31, 3) := by decide +kernel
theorem dX6_take_41 : decode cX6_take 41 = .ok (.invokevirtual 147, 3) := by decide +kernel
theorem dX6_take_44 : decode cX6_take 44 = .ok (.aload_n 0, 1) := by decide +kernel
theorem dX6_take_45 : decode cX6_take 45 = .ok (.getfield 31, 3) := by decide +kernel
theorem dX6_take_48 : decode cX6_take 48 = .ok (.iload_n 1, 1) := by decide +kernel
theorem dX6_take_49 : decode cX6_take 49 = .ok (.iload_n 2, 1) := by decide +kernel
theorem dX6_take_50 : decode cX6_take 50 = .ok (.invokevirtual 173, 3) := by decide +kernel
theorem dX6_take_53 : decode cX6_take 53 = .ok (.aload_n 0, 1) := by decide +kernel
theorem dX6_take_54 : decode cX6_take 54 = .ok (.getfield 31, 3) := by decide +kernel
theorem dX6_take_57 : decode cX6_take 57 = .ok (.iload_n 1, 1) := by decide +kernel
theorem dX6_take_58 : decode cX6_take 58 = .ok (.iload_n 2, 1) := by decide +kernel
theorem dX6_take_59 : decode cX6_take 59 = .ok (.invokevirtual 134, 3) := by decide +kernel
theorem dX6_take_62 : decode cX6_take 62 = .ok (.ifCond .eq 7, 3) := by decide +kernel
theorem dX6_take_65 : decode cX6_take 65 = .ok (.iconst 1, 1) := by decide +kernel
theorem dX6_take_66 : decode cX6_take 66 = .ok (.goto 4, 3) := by decide +kernel
theorem dX6_take_69 : decode cX6_take 69 = .ok (.iconst 0, 1) := by decide +kernel
theorem dX6_take_70 : decode cX6_take 70 = .ok (.ireturn, 1) := by decide +kernel
theorem dX6_undo_0 : decode cX6_undo 0 = .ok (.aload_n 0, 1) := by decide +kernel
theorem dX6_undo_1 : decode cX6_undo 1 = .ok (.getfield 44, 3) := by decide +kernel
theorem dX6_undo_4 : decode cX6_undo 4 = .ok (.getfield 176, 3) := by decide +kernel
theorem dX6_undo_7 : decode cX6_undo 7 = .ok (.ifCond .ne 6, 3) := by decide +kernel
theorem dX6_undo_10 : decode cX6_undo 10 = .ok (.bipush (-2), 2) := by decide +kernel
theorem dX6_undo_12 : decode cX6_undo 12 = .ok (.ireturn, 1) := by decide +kernel
theorem dX6_undo_13 : decode cX6_undo 13 = .ok (.aload_n 0, 1) := by decide +kernel
theorem dX6_undo_14 : decode cX6_undo 14 = .ok (.getfield 44, 3) := by decide +kernel
theorem dX6_undo_17 : decode cX6_undo 17 = .ok (.aload_n 0, 1) := by decide +kernel
theorem dX6_undo_18 : decode cX6_undo 18 = .ok (.getfield 31, 3) := by decide +kernel
theorem dX6_undo_21 : decode cX6_undo 21 = .ok (.invokevirtual 179, 3) := by decide +kernel
theorem dX6_undo_24 : decode cX6_undo 24 = .ok (.aload_n 0, 1) := by decide +kernel
theorem dX6_undo_25 : decode cX6_undo 25 = .ok (.getfield 44, 3) := by decide +kernel
theorem dX6_undo_28 : decode cX6_undo 28 = .ok (.getfield 176, 3) := by decide +kernel
theorem dX6_undo_31 : decode cX6_undo 31 = .ok (.ireturn, 1) := by decide +kernel
theorem dX6_falls_0 : decode cX6_falls 0 = .ok (.aload_n 0, 1) := by decide +kernel
theorem dX6_falls_1 : decode cX6_falls 1 = .ok (.iload_n 1, 1) := by decide +kernel
theorem dX6_falls_2 : decode cX6_falls 2 = .ok (.invokevirtual 101, 3) := by decide +kernel
theorem dX6_falls_5 : decode cX6_falls 5 = .ok (.ifCond .ne 5, 3) := by decide +kernel
theorem dX6_falls_8 : decode cX6_falls 8 = .ok (.iconst (-1), 1) := by decide +kernel
theorem dX6_falls_9 : decode cX6_falls 9 = .ok (.ireturn, 1) := by decide +kernel
theorem dX6_falls_10 : decode cX6_falls 10 = .ok (.aload_n 0, 1) := by decide +kernel
theorem dX6_falls_11 : decode cX6_falls 11 = .ok (.getfield 31, 3) := by decide +kernel
theorem dX6_falls_14 : decode cX6_falls 14 = .ok (.getfield 119, 3) := by decide +kernel
theorem dX6_falls_17 : decode cX6_falls 17 = .ok (.iload_n 1, 1) := by decide +kernel
theorem dX6_falls_18 : decode cX6_falls 18 = .ok (.iaload, 1) := by decide +kernel
theorem dX6_falls_19 : decode cX6_falls 19 = .ok (.iconst 1, 1) := by decide +kernel
theorem dX6_falls_20 : decode cX6_falls 20 = .ok (.if_icmp .eq 6, 3) := by decide +kernel
theorem dX6_falls_23 : decode cX6_falls 23 = .ok (.bipush (-4), 2) := by decide +kernel
theorem dX6_falls_25 : decode cX6_falls 25 = .ok (.ireturn, 1) := by decide +kernel
theorem dX6_falls_26 : decode cX6_falls 26 = .ok (.aload_n 0, 1) := by decide +kernel
theorem dX6_falls_27 : decode cX6_falls 27 = .ok (.getfield 23, 3) := by decide +kernel
theorem dX6_falls_30 : decode cX6_falls 30 = .ok (.getfield 182, 3) := by decide +kernel
theorem dX6_falls_33 : decode cX6_falls 33 = .ok (.aload_n 0, 1) := by decide +kernel
theorem dX6_falls_34 : decode cX6_falls 34 = .ok (.getfield 31, 3) := by decide +kernel
theorem dX6_falls_37 : decode cX6_falls 37 = .ok (.getfield 125, 3) := by decide +kernel
theorem dX6_falls_40 : decode cX6_falls 40 = .ok (.iload_n 1, 1) := by decide +kernel
theorem dX6_falls_41 : decode cX6_falls 41 = .ok (.iaload, 1) := by decide +kernel
theorem dX6_falls_42 : decode cX6_falls 42 = .ok (.isub, 1) := by decide +kernel
theorem dX6_falls_43 : decode cX6_falls 43 = .ok (.aload_n 0, 1) := by decide +kernel
theorem dX6_falls_44 : decode cX6_falls 44 = .ok (.getfield 31, 3) := by decide +kernel
theorem dX6_falls_47 : decode cX6_falls 47 = .ok (.getfield 167, 3) := by decide +kernel
theorem dX6_falls_50 : decode cX6_falls 50 = .ok (.invokestatic 184, 3) := by decide +kernel
theorem dX6_falls_53 : decode cX6_falls 53 = .ok (.ireturn, 1) := by decide +kernel
theorem dX6_willBe_0 : decode cX6_willBe 0 = .ok (.aload_n 0, 1) := by decide +kernel
theorem dX6_willBe_1 : decode cX6_willBe 1 = .ok (.iload_n 1, 1) := by decide +kernel
theorem dX6_willBe_2 : decode cX6_willBe 2 = .ok (.invokevirtual 101, 3) := by decide +kernel
theorem dX6_willBe_5 : decode cX6_willBe 5 = .ok (.ifCond .ne 5, 3) := by decide +kernel
theorem dX6_willBe_8 : decode cX6_willBe 8 = .ok (.iconst (-1), 1) := by decide +kernel
theorem dX6_willBe_9 : decode cX6_willBe 9 = .ok (.ireturn, 1) := by decide +kernel
theorem dX6_willBe_10 : decode cX6_willBe 10 = .ok (.aload_n 0, 1) := by decide +kernel
theorem dX6_willBe_11 : decode cX6_willBe 11 = .ok (.getfield 31, 3) := by decide +kernel
theorem dX6_willBe_14 : decode cX6_willBe 14 = .ok (.getfield 119, 3) := by decide +kernel
theorem dX6_willBe_17 : decode cX6_willBe 17 = .ok (.iload_n 1, 1) := by decide +kernel
theorem dX6_willBe_18 : decode cX6_willBe 18 = .ok (.iaload, 1) := by decide +kernel
theorem dX6_willBe_19 : decode cX6_willBe 19 = .ok (.iconst 3, 1) := by decide +kernel
theorem dX6_willBe_20 : decode cX6_willBe 20 = .ok (.if_icmp .ne 6, 3) := by decide +kernel
theorem dX6_willBe_23 : decode cX6_willBe 23 = .ok (.bipush (-4), 2) := by decide +kernel
theorem dX6_willBe_25 : decode cX6_willBe 25 = .ok (.ireturn, 1) := by decide +kernel
theorem dX6_willBe_26 : decode cX6_willBe 26 = .ok (.aload_n 0, 1) := by decide +kernel
theorem dX6_willBe_27 : decode cX6_willBe 27 = .ok (.getfield 35, 3) := by decide +kernel
theorem dX6_willBe_30 : decode cX6_willBe 30 = .ok (.aload_n 0, 1) := by decide +kernel
theorem dX6_willBe_31 : decode cX6_willBe 31 = .ok (.getfield 31, 3) := by decide +kernel
theorem dX6_willBe_34 : decode cX6_willBe 34 = .ok (.invokevirtual 188, 3) := by decide +kernel
theorem dX6_willBe_37 : decode cX6_willBe 37 = .ok (.aload_n 0, 1) := by decide +kernel
theorem dX6_willBe_38 : decode cX6_willBe 38 = .ok (.getfield 35, 3) := by decide +kernel
theorem dX6_willBe_41 : decode cX6_willBe 41 = .ok (.iload_n 1, 1) := by decide +kernel
theorem dX6_willBe_42 : decode cX6_willBe 42 = .ok (.invokevirtual 191, 3) := by decide +kernel
theorem dX6_willBe_45 : decode cX6_willBe 45 = .ok (.aload_n 0, 1) := by decide +kernel
theorem dX6_willBe_46 : decode cX6_willBe 46 = .ok (.getfield 35, 3) := by decide +kernel
theorem dX6_willBe_49 : decode cX6_willBe 49 = .ok (.getfield 128, 3) := by decide +kernel
theorem dX6_willBe_52 : decode cX6_willBe 52 = .ok (.iload_n 1, 1) := by decide +kernel
theorem dX6_willBe_53 : decode cX6_willBe 53 = .ok (.iaload, 1) := by decide +kernel
theorem dX6_willBe_54 : decode cX6_willBe 54 = .ok (.ireturn, 1) := by decide +kernel
theorem dX6_content_0 : decode cX6_content 0 = .ok (.aload_n 0, 1) := by decide +kernel
theorem dX6_content_1 : decode cX6_content 1 = .ok (.getfield 31, 3) := by decide +kernel
theorem dX6_content_4 : decode cX6_content 4 = .ok (.invokevirtual 195, 3) := by decide +kernel
theorem dX6_content_7 : decode cX6_content 7 = .ok (.ireturn, 1) := by decide +kernel
theorem dX6_knobFor_0 : decode cX6_knobFor 0 = .ok (.aload_n 0, 1) := by decide +kernel
theorem dX6_knobFor_1 : decode cX6_knobFor 1 = .ok (.iload_n 1, 1) := by decide +kernel
theorem dX6_knobFor_2 : decode cX6_knobFor 2 = .ok (.iload_n 2, 1) := by decide +kernel
theorem dX6_knobFor_3 : decode cX6_knobFor 3 = .ok (.invokevirtual 198, 3) := by decide +kernel
theorem dX6_knobFor_6 : decode cX6_knobFor 6 = .ok (.istore_n 3, 1) := by decide +kernel
theorem dX6_knobFor_7 : decode cX6_knobFor 7 = .ok (.iload_n 3, 1) := by decide +kernel
theorem dX6_knobFor_8 : decode cX6_knobFor 8 = .ok (.ifCond .eq 5, 3) := by decide +kernel
theorem dX6_knobFor_11 : decode cX6_knobFor 11 = .ok (.iload_n 3, 1) := by decide +kernel
theorem dX6_knobFor_12 : decode cX6_knobFor 12 = .ok (.ireturn, 1) := by decide +kernel
theorem dX6_knobFor_13 : decode cX6_knobFor 13 = .ok (.iconst 1, 1) := by decide +kernel
theorem dX6_knobFor_14 : decode cX6_knobFor 14 = .ok (.istore 4, 2) := by decide +kernel
theorem dX6_knobFor_16 : decode cX6_knobFor 16 = .ok (.iload 4, 2) := by decide +kernel
theorem dX6_knobFor_18 : decode cX6_knobFor 18 = .ok (.bipush 9, 2) := by decide +kernel
theorem dX6_knobFor_20 : decode cX6_knobFor 20 = .ok (.if_icmp .gt 44, 3) := by decide +kernel
theorem dX6_knobFor_23 : decode cX6_knobFor 23 = .ok (.aload_n 0, 1) := by decide +kernel
theorem dX6_knobFor_24 : decode cX6_knobFor 24 = .ok (.getfield 35, 3) := by decide +kernel
theorem dX6_knobFor_27 : decode cX6_knobFor 27 = .ok (.aload_n 0, 1) := by decide +kernel
theorem dX6_knobFor_28 : decode cX6_knobFor 28 = .ok (.getfield 31, 3) := by decide +kernel
theorem dX6_knobFor_31 : decode cX6_knobFor 31 = .ok (.invokevirtual 188, 3) := by decide +kernel
theorem dX6_knobFor_34 : decode cX6_knobFor 34 = .ok (.aload_n 0, 1) := by decide +kernel
theorem dX6_knobFor_35 : decode cX6_knobFor 35 = .ok (.getfield 35, 3) := by decide +kernel
theorem dX6_knobFor_38 : decode cX6_knobFor 38 = .ok (.iload 4, 2) := by decide +kernel
theorem dX6_knobFor_40 : decode cX6_knobFor 40 = .ok (.putfield 167, 3) := by decide +kernel
theorem dX6_knobFor_43 : decode cX6_knobFor 43 = .ok (.aload_n 0, 1) := by decide +kernel
theorem dX6_knobFor_44 : decode cX6_knobFor 44 = .ok (.getfield 35, 3) := by decide +kernel
theorem dX6_knobFor_47 : decode cX6_knobFor 47 = .ok (.iload_n 1, 1) := by decide +kernel
theorem dX6_knobFor_48 : decode cX6_knobFor 48 = .ok (.iload_n 2, 1) := by decide +kernel
theorem dX6_knobFor_49 : decode cX6_knobFor 49 = .ok (.invokevirtual 201, 3) := by decide +kernel
theorem dX6_knobFor_52 : decode cX6_knobFor 52 = .ok (.ifCond .eq 6, 3) := by decide +kernel
theorem dX6_knobFor_55 : decode cX6_knobFor 55 = .ok (.iload 4, 2) := by decide +kernel
theorem dX6_knobFor_57 : decode cX6_knobFor 57 = .ok (.ireturn, 1) := by decide +kernel
theorem dX6_knobFor_58 : decode cX6_knobFor 58 = .ok (.iinc 4 1, 3) := by decide +kernel
theorem dX6_knobFor_61 : decode cX6_knobFor 61 = .ok (.goto (-45), 3) := by decide +kernel
theorem dX6_knobFor_64 : decode cX6_knobFor 64 = .ok (.bipush (-4), 2) := by decide +kernel
theorem dX6_knobFor_66 : decode cX6_knobFor 66 = .ok (.ireturn, 1) := by decide +kernel
theorem dX6_often_0 : decode cX6_often 0 = .ok (.aload_n 0, 1) := by decide +kernel
theorem dX6_often_1 : decode cX6_often 1 = .ok (.iload_n 1, 1) := by decide +kernel
theorem dX6_often_2 : decode cX6_often 2 = .ok (.iload_n 2, 1) := by decide +kernel
theorem dX6_often_3 : decode cX6_often 3 = .ok (.invokevirtual 198, 3) := by decide +kernel
theorem dX6_often_6 : decode cX6_often 6 = .ok (.istore_n 3, 1) := by decide +kernel
theorem dX6_often_7 : decode cX6_often 7 = .ok (.iload_n 3, 1) := by decide +kernel
theorem dX6_often_8 : decode cX6_often 8 = .ok (.ifCond .eq 5, 3) := by decide +kernel
theorem dX6_often_11 : decode cX6_often 11 = .ok (.iload_n 3, 1) := by decide +kernel
theorem dX6_often_12 : decode cX6_often 12 = .ok (.ireturn, 1) := by decide +kernel
theorem dX6_often_13 : decode cX6_often 13 = .ok (.aload_n 0, 1) := by decide +kernel
theorem dX6_often_14 : decode cX6_often 14 = .ok (.getfield 35, 3) := by decide +kernel
theorem dX6_often_17 : decode cX6_often 17 = .ok (.aload_n 0, 1) := by decide +kernel
theorem dX6_often_18 : decode cX6_often 18 = .ok (.getfield 31, 3) := by decide +kernel
theorem dX6_often_21 : decode cX6_often 21 = .ok (.invokevirtual 188, 3) := by decide +kernel
theorem dX6_often_24 : decode cX6_often 24 = .ok (.iconst 1, 1) := by decide +kernel
theorem dX6_often_25 : decode cX6_often 25 = .ok (.istore 4, 2) := by decide +kernel
theorem dX6_often_27 : decode cX6_often 27 = .ok (.iload 4, 2) := by decide +kernel
theorem dX6_often_29 : decode cX6_often 29 = .ok (.iconst 5, 1) := by decide +kernel
theorem dX6_often_30 : decode cX6_often 30 = .ok (.if_icmp .gt 24, 3) := by decide +kernel
theorem dX6_often_33 : decode cX6_often 33 = .ok (.aload_n 0, 1) := by decide +kernel
theorem dX6_often_34 : decode cX6_often 34 = .ok (.getfield 35, 3) := by decide +kernel
theorem dX6_often_37 : decode cX6_often 37 = .ok (.iload_n 1, 1) := by decide +kernel
theorem dX6_often_38 : decode cX6_often 38 = .ok (.iload_n 2, 1) := by decide +kernel
theorem dX6_often_39 : decode cX6_often 39 = .ok (.invokevirtual 201, 3) := by decide +kernel
theorem dX6_often_42 : decode cX6_often 42 = .ok (.ifCond .eq 6, 3) := by decide +kernel
theorem dX6_often_45 : decode cX6_often 45 = .ok (.iload 4, 2) := by decide +kernel
theorem dX6_often_47 : decode cX6_often 47 = .ok (.ireturn, 1) := by decide +kernel
theorem dX6_often_48 : decode cX6_often 48 = .ok (.iinc 4 1, 3) := by decide +kernel
theorem dX6_often_51 : decode cX6_often 51 = .ok (.goto (-24), 3) := by decide +kernel
theorem dX6_often_54 : decode cX6_often 54 = .ok (.bipush (-4), 2) := by decide +kernel
theorem dX6_often_56 : decode cX6_often 56 = .ok (.ireturn, 1) := by decide +kernel
theorem dX6_waits_0 : decode cX6_waits 0 = .ok (.aload_n 0, 1) := by decide +kernel
theorem dX6_waits_1 : decode cX6_waits 1 = .ok (.iload_n 1, 1) := by decide +kernel
theorem dX6_waits_2 : decode cX6_waits 2 = .ok (.iload_n 2, 1) := by decide +kernel
theorem dX6_waits_3 : decode cX6_waits 3 = .ok (.invokevirtual 198, 3) := by decide +kernel
theorem dX6_waits_6 : decode cX6_waits 6 = .ok (.istore_n 3, 1) := by decide +kernel
theorem dX6_waits_7 : decode cX6_waits 7 = .ok (.iload_n 3, 1) := by decide +kernel
theorem dX6_waits_8 : decode cX6_waits 8 = .ok (.ifCond .eq 5, 3) := by decide +kernel
theorem dX6_waits_11 : decode cX6_waits 11 = .ok (.iload_n 3, 1) := by decide +kernel
theorem dX6_waits_12 : decode cX6_waits 12 = .ok (.ireturn, 1) := by decide +kernel
theorem dX6_waits_13 : decode cX6_waits 13 = .ok (.aload_n 0, 1) := by decide +kernel
theorem dX6_waits_14 : decode cX6_waits 14 = .ok (.getfield 38, 3) := by decide +kernel
theorem dX6_waits_17 : decode cX6_waits 17 = .ok (.aload_n 0, 1) := by decide +kernel
theorem dX6_waits_18 : decode cX6_waits 18 = .ok (.getfield 31, 3) := by decide +kernel
theorem dX6_waits_21 : decode cX6_waits 21 = .ok (.invokevirtual 188, 3) := by decide +kernel
theorem dX6_waits_24 : decode cX6_waits 24 = .ok (.iconst 0, 1) := by decide +kernel
theorem dX6_waits_25 : decode cX6_waits 25 = .ok (.istore 4, 2) := by decide +kernel
theorem dX6_waits_27 : decode cX6_waits 27 = .ok (.iload 4, 2) := by decide +kernel
theorem dX6_waits_29 : decode cX6_waits 29 = .ok (.bipush 30, 2) := by decide +kernel
theorem dX6_waits_31 : decode cX6_waits 31 = .ok (.if_icmp .gt 42, 3) := by decide +kernel
theorem dX6_waits_34 : decode cX6_waits 34 = .ok (.aload_n 0, 1) := by decide +kernel
theorem dX6_waits_35 : decode cX6_waits 35 = .ok (.getfield 35, 3) := by decide +kernel
theorem dX6_waits_38 : decode cX6_waits 38 = .ok (.aload_n 0, 1) := by decide +kernel
theorem dX6_waits_39 : decode cX6_waits 39 = .ok (.getfield 38, 3) := by decide +kernel
theorem dX6_waits_42 : decode cX6_waits 42 = .ok (.invokevirtual 188, 3) := by decide +kernel
theorem dX6_waits_45 : decode cX6_waits 45 = .ok (.aload_n 0, 1) := by decide +kernel
theorem dX6_waits_46 : decode cX6_waits 46 = .ok (.getfield 35, 3) := by decide +kernel
theorem dX6_waits_49 : decode cX6_waits 49 = .ok (.iload_n 1, 1) := by decide +kernel
theorem dX6_waits_50 : decode cX6_waits 50 = .ok (.iload_n 2, 1) := by decide +kernel
theorem dX6_waits_51 : decode cX6_waits 51 = .ok (.invokevirtual 201, 3) := by decide +kernel
theorem dX6_waits_54 : decode cX6_waits 54 = .ok (.ifCond .eq 6, 3) := by decide +kernel
theorem dX6_waits_57 : decode cX6_waits 57 = .ok (.iload 4, 2) := by decide +kernel
theorem dX6_waits_59 : decode cX6_waits 59 = .ok (.ireturn, 1) := by decide +kernel
theorem dX6_waits_60 : decode cX6_waits 60 = .ok (.aload_n 0, 1) := by decide +kernel
theorem dX6_waits_61 : decode cX6_waits 61 = .ok (.getfield 38, 3) := by decide +kernel
theorem dX6_waits_64 : decode cX6_waits 64 = .ok (.invokevirtual 161, 3) := by decide +kernel
theorem dX6_waits_67 : decode cX6_waits 67 = .ok (.iinc 4 1, 3) := by decide +kernel
theorem dX6_waits_70 : decode cX6_waits 70 = .ok (.goto (-43), 3) := by decide +kernel
theorem dX6_waits_73 : decode cX6_waits 73 = .ok (.bipush (-4), 2) := by decide +kernel
theorem dX6_waits_75 : decode cX6_waits 75 = .ok (.ireturn, 1) := by decide +kernel
theorem dX6_harm_0 : decode cX6_harm 0 = .ok (.iload_n 1, 1) := by decide +kernel
theorem dX6_harm_1 : decode cX6_harm 1 = .ok (.invokestatic 164, 3) := by decide +kernel
theorem dX6_harm_4 : decode cX6_harm 4 = .ok (.ifCond .ne 5, 3) := by decide +kernel
theorem dX6_harm_7 : decode cX6_harm 7 = .ok (.iconst (-1), 1) := by decide +kernel
theorem dX6_harm_8 : decode cX6_harm 8 = .ok (.ireturn, 1) := by decide +kernel
theorem dX6_harm_9 : decode cX6_harm 9 = .ok (.aload_n 0, 1) := by decide +kernel
theorem dX6_harm_10 : decode cX6_harm 10 = .ok (.aload_n 0, 1) := by decide +kernel
theorem dX6_harm_11 : decode cX6_harm 11 = .ok (.getfield 31, 3) := by decide +kernel
theorem dX6_harm_14 : decode cX6_harm 14 = .ok (.getfield 167, 3) := by decide +kernel
theorem dX6_harm_17 : decode cX6_harm 17 = .ok (.invokevirtual 204, 3) := by decide +kernel
theorem dX6_harm_20 : decode cX6_harm 20 = .ok (.aload_n 0, 1) := by decide +kernel
theorem dX6_harm_21 : decode cX6_harm 21 = .ok (.iload_n 1, 1) := by decide +kernel
theorem dX6_harm_22 : decode cX6_harm 22 = .ok (.invokevirtual 204, 3) := by decide +kernel
theorem dX6_harm_25 : decode cX6_harm 25 = .ok (.iconst (-1), 1) := by decide +kernel
theorem dX6_harm_26 : decode cX6_harm 26 = .ok (.ixor, 1) := by decide +kernel
theorem dX6_harm_27 : decode cX6_harm 27 = .ok (.iand, 1) := by decide +kernel
theorem dX6_harm_28 : decode cX6_harm 28 = .ok (.ireturn, 1) := by decide +kernel
theorem dX6_share_0 : decode cX6_share 0 = .ok (.iload_n 1, 1) := by decide +kernel
theorem dX6_share_1 : decode cX6_share 1 = .ok (.iconst (-1), 1) := by decide +kernel
theorem dX6_share_2 : decode cX6_share 2 = .ok (.if_icmp .eq 13, 3) := by decide +kernel
theorem dX6_share_5 : decode cX6_share 5 = .ok (.aload_n 0, 1) := by decide +kernel
theorem dX6_share_6 : decode cX6_share 6 = .ok (.iload_n 1, 1) := by decide +kernel
theorem dX6_share_7 : decode cX6_share 7 = .ok (.invokevirtual 101, 3) := by decide +kernel
theorem dX6_share_10 : decode cX6_share 10 = .ok (.ifCond .ne 5, 3) := by decide +kernel
theorem dX6_share_13 : decode cX6_share 13 = .ok (.iconst (-1), 1) := by decide +kernel
theorem dX6_share_14 : decode cX6_share 14 = .ok (.ireturn, 1) := by decide +kernel
theorem dX6_share_15 : decode cX6_share 15 = .ok (.aload_n 0, 1) := by decide +kernel
theorem dX6_share_16 : decode cX6_share 16 = .ok (.getfield 62, 3) := by decide +kernel
theorem dX6_share_19 : decode cX6_share 19 = .ok (.aload_n 0, 1) := by decide +kernel
theorem dX6_share_20 : decode cX6_share 20 = .ok (.getfield 31, 3) := by decide +kernel
theorem dX6_share_23 : decode cX6_share 23 = .ok (.invokevirtual 207, 3) := by decide +kernel
theorem dX6_share_26 : decode cX6_share 26 = .ok (.iload_n 1, 1) := by decide +kernel
theorem dX6_share_27 : decode cX6_share 27 = .ok (.iconst (-1), 1) := by decide +kernel
theorem dX6_share_28 : decode cX6_share 28 = .ok (.if_icmp .ne 13, 3) := by decide +kernel
theorem dX6_share_31 : decode cX6_share 31 = .ok (.aload_n 0, 1) := by decide +kernel
theorem dX6_share_32 : decode cX6_share 32 = .ok (.getfield 62, 3) := by decide +kernel
theorem dX6_share_35 : decode cX6_share 35 = .ok (.getfield 210, 3) := by decide +kernel
theorem dX6_share_38 : decode cX6_share 38 = .ok (.goto 12, 3) := by decide +kernel
theorem dX6_share_41 : decode cX6_share 41 = .ok (.aload_n 0, 1) := by decide +kernel
theorem dX6_share_42 : decode cX6_share 42 = .ok (.getfield 62, 3) := by decide +kernel
theorem dX6_share_45 : decode cX6_share 45 = .ok (.getfield 213, 3) := by decide +kernel
theorem dX6_share_48 : decode cX6_share 48 = .ok (.iload_n 1, 1) := by decide +kernel
theorem dX6_share_49 : decode cX6_share 49 = .ok (.iaload, 1) := by decide +kernel
theorem dX6_share_50 : decode cX6_share 50 = .ok (.ireturn, 1) := by decide +kernel
theorem dX6_round_0 : decode cX6_round 0 = .ok (.aload_n 0, 1) := by decide +kernel
theorem dX6_round_1 : decode cX6_round 1 = .ok (.getfield 62, 3) := by decide +kernel
theorem dX6_round_4 : decode cX6_round 4 = .ok (.aload_n 0, 1) := by decide +kernel
theorem dX6_round_5 : decode cX6_round 5 = .ok (.getfield 31, 3) := by decide +kernel
theorem dX6_round_8 : decode cX6_round 8 = .ok (.invokevirtual 207, 3) := by decide +kernel
theorem dX6_round_11 : decode cX6_round 11 = .ok (.iconst 0, 1) := by decide +kernel
theorem dX6_round_12 : decode cX6_round 12 = .ok (.istore_n 1, 1) := by decide +kernel
theorem dX6_round_13 : decode cX6_round 13 = .ok (.iconst 0, 1) := by decide +kernel
theorem dX6_round_14 : decode cX6_round 14 = .ok (.istore_n 2, 1) := by decide +kernel
theorem dX6_round_15 : decode cX6_round 15 = .ok (.iload_n 2, 1) := by decide +kernel
theorem dX6_round_16 : decode cX6_round 16 = .ok (.aload_n 0, 1) := by decide +kernel
theorem dX6_round_17 : decode cX6_round 17 = .ok (.getfield 23, 3) := by decide +kernel
theorem dX6_round_20 : decode cX6_round 20 = .ok (.getfield 97, 3) := by decide +kernel
theorem dX6_round_23 : decode cX6_round 23 = .ok (.if_icmp .ge 39, 3) := by decide +kernel
theorem dX6_round_26 : decode cX6_round 26 = .ok (.aload_n 0, 1) := by decide +kernel
theorem dX6_round_27 : decode cX6_round 27 = .ok (.getfield 62, 3) := by decide +kernel
theorem dX6_round_30 : decode cX6_round 30 = .ok (.getfield 213, 3) := by decide +kernel
theorem dX6_round_33 : decode cX6_round 33 = .ok (.iload_n 2, 1) := by decide +kernel
theorem dX6_round_34 : decode cX6_round 34 = .ok (.iaload, 1) := by decide +kernel
theorem dX6_round_35 : decode cX6_round 35 = .ok (.bipush (-4), 2) := by decide +kernel
theorem dX6_round_37 : decode cX6_round 37 = .ok (.if_icmp .eq 19, 3) := by decide +kernel
theorem dX6_round_40 : decode cX6_round 40 = .ok (.aload_n 0, 1) := by decide +kernel
theorem dX6_round_41 : decode cX6_round 41 = .ok (.getfield 62, 3) := by decide +kernel
theorem dX6_round_44 : decode cX6_round 44 = .ok (.getfield 213, 3) := by decide +kernel
theorem dX6_round_47 : decode cX6_round 47 = .ok (.iload_n 2, 1) := by decide +kernel
theorem dX6_round_48 : decode cX6_round 48 = .ok (.iaload, 1) := by decide +kernel
theorem dX6_round_49 : decode cX6_round 49 = .ok (.iload_n 2, 1) := by decide +kernel
theorem dX6_round_50 : decode cX6_round 50 = .ok (.if_icmp .eq 6, 3) := by decide +kernel
theorem dX6_round_53 : decode cX6_round 53 = .ok (.iinc 1 1, 3) := by decide +kernel
theorem dX6_round_56 : decode cX6_round 56 = .ok (.iinc 2 1, 3) := by decide +kernel
theorem dX6_round_59 : decode cX6_round 59 = .ok (.goto (-44), 3) := by decide +kernel
theorem dX6_round_62 : decode cX6_round 62 = .ok (.iload_n 1, 1) := by decide +kernel
theorem dX6_round_63 : decode cX6_round 63 = .ok (.ireturn, 1) := by decide +kernel
theorem dX6_seen_0 : decode cX6_seen 0 = .ok (.iload_n 1, 1) := by decide +kernel
theorem dX6_seen_1 : decode cX6_seen 1 = .ok (.iconst 0, 1) := by decide +kernel
theorem dX6_seen_2 : decode cX6_seen 2 = .ok (.iconst 3, 1) := by decide +kernel
theorem dX6_seen_3 : decode cX6_seen 3 = .ok (.invokestatic 92, 3) := by decide +kernel
theorem dX6_seen_6 : decode cX6_seen 6 = .ok (.ifCond .eq 29, 3) := by decide +kernel
theorem dX6_seen_9 : decode cX6_seen 9 = .ok (.iload_n 2, 1) := by decide +kernel
theorem dX6_seen_10 : decode cX6_seen 10 = .ok (.invokestatic 138, 3) := by decide +kernel
theorem dX6_seen_13 : decode cX6_seen 13 = .ok (.ifCond .eq 22, 3) := by decide +kernel
theorem dX6_seen_16 : decode cX6_seen 16 = .ok (.iload_n 3, 1) := by decide +kernel
theorem dX6_seen_17 : decode cX6_seen 17 = .ok (.invokestatic 164, 3) := by decide +kernel
theorem dX6_seen_20 : decode cX6_seen 20 = .ok (.ifCond .eq 15, 3) := by decide +kernel
theorem dX6_seen_23 : decode cX6_seen 23 = .ok (.iload 4, 2) := by decide +kernel
theorem dX6_seen_25 : decode cX6_seen 25 = .ok (.iconst 0, 1) := by decide +kernel
theorem dX6_seen_26 : decode cX6_seen 26 = .ok (.sipush 999, 3) := by decide +kernel
theorem dX6_seen_29 : decode cX6_seen 29 = .ok (.invokestatic 92, 3) := by decide +kernel
theorem dX6_seen_32 : decode cX6_seen 32 = .ok (.ifCond .ne 5, 3) := by decide +kernel
theorem dX6_seen_35 : decode cX6_seen 35 = .ok (.iconst (-1), 1) := by decide +kernel
theorem dX6_seen_36 : decode cX6_seen 36 = .ok (.ireturn, 1) := by decide +kernel
theorem dX6_seen_37 : decode cX6_seen 37 = .ok (.aload_n 0, 1) := by decide +kernel
theorem dX6_seen_38 : decode cX6_seen 38 = .ok (.getfield 55, 3) := by decide +kernel
theorem dX6_seen_41 : decode cX6_seen 41 = .ok (.iload_n 1, 1) := by decide +kernel
theorem dX6_seen_42 : decode cX6_seen 42 = .ok (.iload_n 2, 1) := by decide +kernel
theorem dX6_seen_43 : decode cX6_seen 43 = .ok (.iload_n 3, 1) := by decide +kernel
theorem dX6_seen_44 : decode cX6_seen 44 = .ok (.iload 4, 2) := by decide +kernel
theorem dX6_seen_46 : decode cX6_seen 46 = .ok (.invokevirtual 216, 3) := by decide +kernel
theorem dX6_seen_49 : decode cX6_seen 49 = .ok (.ifCond .eq 13, 3) := by decide +kernel
theorem dX6_seen_52 : decode cX6_seen 52 = .ok (.aload_n 0, 1) := by decide +kernel
theorem dX6_seen_53 : decode cX6_seen 53 = .ok (.getfield 55, 3) := by decide +kernel
theorem dX6_seen_56 : decode cX6_seen 56 = .ok (.getfield 219, 3) := by decide +kernel
theorem dX6_seen_59 : decode cX6_seen 59 = .ok (.goto 5, 3) := by decide +kernel
theorem dX6_seen_62 : decode cX6_seen 62 = .ok (.bipush (-3), 2) := by decide +kernel
theorem dX6_seen_64 : decode cX6_seen 64 = .ok (.ireturn, 1) := by decide +kernel
theorem dX6_forget_0 : decode cX6_forget 0 = .ok (.aload_n 0, 1) := by decide +kernel
theorem dX6_forget_1 : decode cX6_forget 1 = .ok (.getfield 55, 3) := by decide +kernel
theorem dX6_forget_4 : decode cX6_forget 4 = .ok (.getfield 219, 3) := by decide +kernel
theorem dX6_forget_7 : decode cX6_forget 7 = .ok (.istore_n 1, 1) := by decide +kernel
theorem dX6_forget_8 : decode cX6_forget 8 = .ok (.aload_n 0, 1) := by decide +kernel
theorem dX6_forget_9 : decode cX6_forget 9 = .ok (.getfield 55, 3) := by decide +kernel
theorem dX6_forget_12 : decode cX6_forget 12 = .ok (.iconst 0, 1) := by decide +kernel
theorem dX6_forget_13 : decode cX6_forget 13 = .ok (.putfield 219, 3) := by decide +kernel
theorem dX6_forget_16 : decode cX6_forget 16 = .ok (.iload_n 1, 1) := by decide +kernel
theorem dX6_forget_17 : decode cX6_forget 17 = .ok (.ireturn, 1) := by decide +kernel
theorem dX6_hot_0 : decode cX6_hot 0 = .ok (.iload_n 1, 1) := by decide +kernel
theorem dX6_hot_1 : decode cX6_hot 1 = .ok (.iconst 0, 1) := by decide +kernel
theorem dX6_hot_2 : decode cX6_hot 2 = .ok (.iconst 1, 1) := by decide +kernel
theorem dX6_hot_3 : decode cX6_hot 3 = .ok (.invokestatic 92, 3) := by decide +kernel
theorem dX6_hot_6 : decode cX6_hot 6 = .ok (.ifCond .ne 5, 3) := by decide +kernel
theorem dX6_hot_9 : decode cX6_hot 9 = .ok (.iconst (-1), 1) := by decide +kernel
theorem dX6_hot_10 : decode cX6_hot 10 = .ok (.ireturn, 1) := by decide +kernel
theorem dX6_hot_11 : decode cX6_hot 11 = .ok (.iconst 0, 1) := by decide +kernel
theorem dX6_hot_12 : decode cX6_hot 12 = .ok (.istore_n 2, 1) := by decide +kernel
theorem dX6_hot_13 : decode cX6_hot 13 = .ok (.bipush (-4), 2) := by decide +kernel
theorem dX6_hot_15 : decode cX6_hot 15 = .ok (.istore_n 3, 1) := by decide +kernel
theorem dX6_hot_16 : decode cX6_hot 16 = .ok (.iconst 0, 1) := by decide +kernel
theorem dX6_hot_17 : decode cX6_hot 17 = .ok (.istore 4, 2) := by decide +kernel
theorem dX6_hot_19 : decode cX6_hot 19 = .ok (.iload 4, 2) := by decide +kernel
theorem dX6_hot_21 : decode cX6_hot 21 = .ok (.bipush 30, 2) := by decide +kernel
theorem dX6_hot_23 : decode cX6_hot 23 = .ok (.if_icmp .gt 44, 3) := by decide +kernel
theorem dX6_hot_26 : decode cX6_hot 26 = .ok (.aload_n 0, 1) := by decide +kernel
theorem dX6_hot_27 : decode cX6_hot 27 = .ok (.getfield 55, 3) := by decide +kernel
theorem dX6_hot_30 : decode cX6_hot 30 = .ok (.iload 4, 2) := by decide +kernel
theorem dX6_hot_32 : decode cX6_hot 32 = .ok (.aload_n 0, 1) := by decide +kernel
theorem dX6_hot_33 : decode cX6_hot 33 = .ok (.getfield 23, 3) := by decide +kernel
theorem dX6_hot_36 : decode cX6_hot 36 = .ok (.getfield 182, 3) := by decide +kernel
theorem dX6_hot_39 : decode cX6_hot 39 = .ok (.invokevirtual 220, 3) := by decide +kernel
theorem dX6_hot_42 : decode cX6_hot 42 = .ok (.ifCond .eq 19, 3) := by decide +kernel
theorem dX6_hot_45 : decode cX6_hot 45 = .ok (.iinc 2 1, 3) := by decide +kernel
theorem dX6_hot_48 : decode cX6_hot 48 = .ok (.iload_n 3, 1) := by decide +kernel
theorem dX6_hot_49 : decode cX6_hot 49 = .ok (.bipush (-4), 2) := by decide +kernel
theorem dX6_hot_51 : decode cX6_hot 51 = .ok (.if_icmp .ne 8, 3) := by decide +kernel
theorem dX6_hot_54 : decode cX6_hot 54 = .ok (.iload 4, 2) := by decide +kernel
theorem dX6_hot_56 : decode cX6_hot 56 = .ok (.goto 4, 3) := by decide +kernel
theorem dX6_hot_59 : decode cX6_hot 59 = .ok (.iload_n 3, 1) := by decide +kernel
theorem dX6_hot_60 : decode cX6_hot 60 = .ok (.istore_n 3, 1) := by decide +kernel
theorem dX6_hot_61 : decode cX6_hot 61 = .ok (.iinc 4 1, 3) := by decide +kernel
theorem dX6_hot_64 : decode cX6_hot 64 = .ok (.goto (-45), 3) := by decide +kernel
theorem dX6_hot_67 : decode cX6_hot 67 = .ok (.iload_n 1, 1) := by decide +kernel
theorem dX6_hot_68 : decode cX6_hot 68 = .ok (.ifCond .ne 7, 3) := by decide +kernel
theorem dX6_hot_71 : decode cX6_hot 71 = .ok (.iload_n 2, 1) := by decide +kernel
theorem dX6_hot_72 : decode cX6_hot 72 = .ok (.goto 4, 3) := by decide +kernel
theorem dX6_hot_75 : decode cX6_hot 75 = .ok (.iload_n 3, 1) := by decide +kernel
theorem dX6_hot_76 : decode cX6_hot 76 = .ok (.ireturn, 1) := by decide +kernel
theorem dX6_left_0 : decode cX6_left 0 = .ok (.aload_n 0, 1) := by decide +kernel
theorem dX6_left_1 : decode cX6_left 1 = .ok (.iload_n 1, 1) := by decide +kernel
theorem dX6_left_2 : decode cX6_left 2 = .ok (.invokevirtual 101, 3) := by decide +kernel
theorem dX6_left_5 : decode cX6_left 5 = .ok (.ifCond .eq 22, 3) := by decide +kernel
theorem dX6_left_8 : decode cX6_left 8 = .ok (.iload_n 2, 1) := by decide +kernel
theorem dX6_left_9 : decode cX6_left 9 = .ok (.iconst 0, 1) := by decide +kernel
theorem dX6_left_10 : decode cX6_left 10 = .ok (.bipush 8, 2) := by decide +kernel
theorem dX6_left_12 : decode cX6_left 12 = .ok (.invokestatic 92, 3) := by decide +kernel
theorem dX6_left_15 : decode cX6_left 15 = .ok (.ifCond .eq 12, 3) := by decide +kernel
theorem dX6_left_18 : decode cX6_left 18 = .ok (.iload_n 3, 1) := by decide +kernel
theorem dX6_left_19 : decode cX6_left 19 = .ok (.iconst 0, 1) := by decide +kernel
theorem dX6_left_20 : decode cX6_left 20 = .ok (.iconst 1, 1) := by decide +kernel
theorem dX6_left_21 : decode cX6_left 21 = .ok (.invokestatic 92, 3) := by decide +kernel
theorem dX6_left_24 : decode cX6_left 24 = .ok (.ifCond .ne 5, 3) := by decide +kernel
theorem dX6_left_27 : decode cX6_left 27 = .ok (.iconst (-1), 1) := by decide +kernel
theorem dX6_left_28 : decode cX6_left 28 = .ok (.ireturn, 1) := by decide +kernel
theorem dX6_left_29 : decode cX6_left 29 = .ok (.aload_n 0, 1) := by decide +kernel
theorem dX6_left_30 : decode cX6_left 30 = .ok (.getfield 31, 3) := by decide +kernel
theorem dX6_left_33 : decode cX6_left 33 = .ok (.getfield 119, 3) := by decide +kernel
theorem dX6_left_36 : decode cX6_left 36 = .ok (.iload_n 1, 1) := by decide +kernel
theorem dX6_left_37 : decode cX6_left 37 = .ok (.iaload, 1) := by decide +kernel
theorem dX6_left_38 : decode cX6_left 38 = .ok (.iconst 2, 1) := by decide +kernel
theorem dX6_left_39 : decode cX6_left 39 = .ok (.if_icmp .eq 6, 3) := by decide +kernel
theorem dX6_left_42 : decode cX6_left 42 = .ok (.bipush (-2), 2) := by decide +kernel
theorem dX6_left_44 : decode cX6_left 44 = .ok (.ireturn, 1) := by decide +kernel
theorem dX6_left_45 : decode cX6_left 45 = .ok (.aload_n 0, 1) := by decide +kernel
theorem dX6_left_46 : decode cX6_left 46 = .ok (.getfield 31, 3) := by decide +kernel
theorem dX6_left_49 : decode cX6_left 49 = .ok (.aload_n 0, 1) := by decide +kernel
theorem dX6_left_50 : decode cX6_left 50 = .ok (.getfield 23, 3) := by decide +kernel
theorem dX6_left_53 : decode cX6_left 53 = .ok (.getfield 105, 3) := by decide +kernel
theorem dX6_left_56 : decode cX6_left 56 = .ok (.iload_n 1, 1) := by decide +kernel
theorem dX6_left_57 : decode cX6_left 57 = .ok (.iaload, 1) := by decide +kernel
theorem dX6_left_58 : decode cX6_left 58 = .ok (.invokevirtual 223, 3) := by decide +kernel
theorem dX6_left_61 : decode cX6_left 61 = .ok (.istore 4, 2) := by decide +kernel
theorem dX6_left_63 : decode cX6_left 63 = .ok (.iconst 0, 1) := by decide +kernel
theorem dX6_left_64 : decode cX6_left 64 = .ok (.iload 4, 2) := by decide +kernel
theorem dX6_left_66 : decode cX6_left 66 = .ok (.iload_n 2, 1) := by decide +kernel
theorem dX6_left_67 : decode cX6_left 67 = .ok (.isub, 1) := by decide +kernel
theorem dX6_left_68 : decode cX6_left 68 = .ok (.invokestatic 226, 3) := by decide +kernel
theorem dX6_left_71 : decode cX6_left 71 = .ok (.istore 5, 2) := by decide +kernel
theorem dX6_left_73 : decode cX6_left 73 = .ok (.iload 5, 2) := by decide +kernel
theorem dX6_left_75 : decode cX6_left 75 = .ok (.iload 4, 2) := by decide +kernel
theorem dX6_left_77 : decode cX6_left 77 = .ok (.invokestatic 231, 3) := by decide +kernel
theorem dX6_left_80 : decode cX6_left 80 = .ok (.istore 6, 2) := by decide +kernel
theorem dX6_left_82 : decode cX6_left 82 = .ok (.iload_n 3, 1) := by decide +kernel
theorem dX6_left_83 : decode cX6_left 83 = .ok (.ifCond .ne 8, 3) := by decide +kernel
theorem dX6_left_86 : decode cX6_left 86 = .ok (.iload 5, 2) := by decide +kernel
theorem dX6_left_88 : decode cX6_left 88 = .ok (.goto 5, 3) := by decide +kernel
theorem dX6_left_91 : decode cX6_left 91 = .ok (.iload 4, 2) := by decide +kernel
theorem dX6_left_93 : decode cX6_left 93 = .ok (.iload 6, 2) := by decide +kernel
theorem dX6_left_95 : decode cX6_left 95 = .ok (.idiv, 1) := by decide +kernel
theorem dX6_left_96 : decode cX6_left 96 = .ok (.ireturn, 1) := by decide +kernel
theorem dX6_morning_0 : decode cX6_morning 0 = .ok (.iload_n 1, 1) := by decide +kernel
theorem dX6_morning_1 : decode cX6_morning 1 = .ok (.iconst 0, 1) := by decide +kernel
theorem dX6_morning_2 : decode cX6_morning 2 = .ok (.sipush 9999, 3) := by decide +kernel
theorem dX6_morning_5 : decode cX6_morning 5 = .ok (.invokestatic 92, 3) := by decide +kernel
theorem dX6_morning_8 : decode cX6_morning 8 = .ok (.ifCond .eq 22, 3) := by decide +kernel
theorem dX6_morning_11 : decode cX6_morning 11 = .ok (.iload_n 2, 1) := by decide +kernel
theorem dX6_morning_12 : decode cX6_morning 12 = .ok (.iconst 1, 1) := by decide +kernel
theorem dX6_morning_13 : decode cX6_morning 13 = .ok (.bipush 40, 2) := by decide +kernel
theorem dX6_morning_15 : decode cX6_morning 15 = .ok (.invokestatic 92, 3) := by decide +kernel
theorem dX6_morning_18 : decode cX6_morning 18 = .ok (.ifCond .eq 12, 3) := by decide +kernel
theorem dX6_morning_21 : decode cX6_morning 21 = .ok (.iload_n 3, 1) := by decide +kernel
theorem dX6_morning_22 : decode cX6_morning 22 = .ok (.iconst 0, 1) := by decide +kernel
theorem dX6_morning_23 : decode cX6_morning 23 = .ok (.iconst 1, 1) := by decide +kernel
theorem dX6_morning_24 : decode cX6_morning 24 = .ok (.invokestatic 92, 3) := by decide +kernel
theorem dX6_morning_27 : decode cX6_morning 27 = .ok (.ifCond .ne 5, 3) := by decide +kernel
theorem dX6_morning_30 : decode cX6_morning 30 = .ok (.iconst (-1), 1) := by decide +kernel
theorem dX6_morning_31 : decode cX6_morning 31 = .ok (.ireturn, 1) := by decide +kernel
theorem dX6_morning_32 : decode cX6_morning 32 = .ok (.aload_n 0, 1) := by decide +kernel
theorem dX6_morning_33 : decode cX6_morning 33 = .ok (.getfield 35, 3) := by decide +kernel
theorem dX6_morning_36 : decode cX6_morning 36 = .ok (.aload_n 0, 1) := by decide +kernel
theorem dX6_morning_37 : decode cX6_morning 37 = .ok (.getfield 31, 3) := by decide +kernel
theorem dX6_morning_40 : decode cX6_morning 40 = .ok (.invokevirtual 188, 3) := by decide +kernel
theorem dX6_morning_43 : decode cX6_morning 43 = .ok (.iconst 0, 1) := by decide +kernel
theorem dX6_morning_44 : decode cX6_morning 44 = .ok (.istore 4, 2) := by decide +kernel
theorem dX6_morning_46 : decode cX6_morning 46 = .ok (.iload 4, 2) := by decide +kernel
theorem dX6_morning_48 : decode cX6_morning 48 = .ok (.iload_n 2, 1) := by decide +kernel
theorem dX6_morning_49 : decode cX6_morning 49 = .ok (.if_icmp .ge 29, 3) := by decide +kernel
theorem dX6_morning_52 : decode cX6_morning 52 = .ok (.aload_n 0, 1) := by decide +kernel
theorem dX6_morning_53 : decode cX6_morning 53 = .ok (.getfield 35, 3) := by decide +kernel
theorem dX6_morning_56 : decode cX6_morning 56 = .ok (.iload_n 1, 1) := by decide +kernel
theorem dX6_morning_57 : decode cX6_morning 57 = .ok (.iload 4, 2) := by decide +kernel
theorem dX6_morning_59 : decode cX6_morning 59 = .ok (.invokestatic 234, 3) := by decide +kernel
theorem dX6_morning_62 : decode cX6_morning 62 = .ok (.invokevirtual 237, 3) := by decide +kernel
theorem dX6_morning_65 : decode cX6_morning 65 = .ok (.aload_n 0, 1) := by decide +kernel
theorem dX6_morning_66 : decode cX6_morning 66 = .ok (.getfield 35, 3) := by decide +kernel
theorem dX6_morning_69 : decode cX6_morning 69 = .ok (.invokevirtual 161, 3) := by decide +kernel
theorem dX6_morning_72 : decode cX6_morning 72 = .ok (.iinc 4 1, 3) := by decide +kernel
theorem dX6_morning_75 : decode cX6_morning 75 = .ok (.goto (-29), 3) := by decide +kernel
theorem dX6_morning_78 : decode cX6_morning 78 = .ok (.iload_n 3, 1) := by decide +kernel
theorem dX6_morning_79 : decode cX6_morning 79 = .ok (.ifCond .ne 13, 3) := by decide +kernel
theorem dX6_morning_82 : decode cX6_morning 82 = .ok (.aload_n 0, 1) := by decide +kernel
theorem dX6_morning_83 : decode cX6_morning 83 = .ok (.getfield 35, 3) := by decide +kernel
theorem dX6_morning_86 : decode cX6_morning 86 = .ok (.invokevirtual 195, 3) := by decide +kernel
theorem dX6_morning_89 : decode cX6_morning 89 = .ok (.goto 10, 3) := by decide +kernel
theorem dX6_morning_92 : decode cX6_morning 92 = .ok (.aload_n 0, 1) := by decide +kernel
theorem dX6_morning_93 : decode cX6_morning 93 = .ok (.getfield 35, 3) := by decide +kernel
theorem dX6_morning_96 : decode cX6_morning 96 = .ok (.getfield 240, 3) := by decide +kernel
theorem dX6_morning_99 : decode cX6_morning 99 = .ok (.ireturn, 1) := by decide +kernel
theorem dX6_keep_0 : decode cX6_keep 0 = .ok (.aload_n 0, 1) := by decide +kernel
theorem dX6_keep_1 : decode cX6_keep 1 = .ok (.getfield 243, 3) := by decide +kernel
theorem dX6_keep_4 : decode cX6_keep 4 = .ok (.iconst 2, 1) := by decide +kernel
theorem dX6_keep_5 : decode cX6_keep 5 = .ok (.if_icmp .lt 6, 3) := by decide +kernel
theorem dX6_keep_8 : decode cX6_keep 8 = .ok (.bipush (-3), 2) := by decide +kernel
theorem dX6_keep_10 : decode cX6_keep 10 = .ok (.ireturn, 1) := by decide +kernel
theorem dX6_keep_11 : decode cX6_keep 11 = .ok (.aload_n 0, 1) := by decide +kernel
theorem dX6_keep_12 : decode cX6_keep 12 = .ok (.getfield 48, 3) := by decide +kernel
theorem dX6_keep_15 : decode cX6_keep 15 = .ok (.aload_n 0, 1) := by decide +kernel
theorem dX6_keep_16 : decode cX6_keep 16 = .ok (.getfield 243, 3) := by decide +kernel
theorem dX6_keep_19 : decode cX6_keep 19 = .ok (.aaload, 1) := by decide +kernel
theorem dX6_keep_20 : decode cX6_keep 20 = .ok (.aload_n 0, 1) := by decide +kernel
theorem dX6_keep_21 : decode cX6_keep 21 = .ok (.getfield 31, 3) := by decide +kernel
theorem dX6_keep_24 : decode cX6_keep 24 = .ok (.invokevirtual 188, 3) := by decide +kernel
theorem dX6_keep_27 : decode cX6_keep 27 = .ok (.aload_n 0, 1) := by decide +kernel
theorem dX6_keep_28 : decode cX6_keep 28 = .ok (.dup, 1) := by decide +kernel
theorem dX6_keep_29 : decode cX6_keep 29 = .ok (.getfield 243, 3) := by decide +kernel
theorem dX6_keep_32 : decode cX6_keep 32 = .ok (.iconst 1, 1) := by decide +kernel
theorem dX6_keep_33 : decode cX6_keep 33 = .ok (.iadd, 1) := by decide +kernel
theorem dX6_keep_34 : decode cX6_keep 34 = .ok (.putfield 243, 3) := by decide +kernel
theorem dX6_keep_37 : decode cX6_keep 37 = .ok (.aload_n 0, 1) := by decide +kernel
theorem dX6_keep_38 : decode cX6_keep 38 = .ok (.getfield 243, 3) := by decide +kernel
theorem dX6_keep_41 : decode cX6_keep 41 = .ok (.ireturn, 1) := by decide +kernel
theorem dX6_back_0 : decode cX6_back 0 = .ok (.aload_n 0, 1) := by decide +kernel
theorem dX6_back_1 : decode cX6_back 1 = .ok (.getfield 243, 3) := by decide +kernel
theorem dX6_back_4 : decode cX6_back 4 = .ok (.ifCond .ne 6, 3) := by decide +kernel
theorem dX6_back_7 : decode cX6_back 7 = .ok (.bipush (-2), 2) := by decide +kernel
theorem dX6_back_9 : decode cX6_back 9 = .ok (.ireturn, 1) := by decide +kernel
theorem dX6_back_10 : decode cX6_back 10 = .ok (.aload_n 0, 1) := by decide +kernel
theorem dX6_back_11 : decode cX6_back 11 = .ok (.dup, 1) := by decide +kernel
theorem dX6_back_12 : decode cX6_back 12 = .ok (.getfield 243, 3) := by decide +kernel
theorem dX6_back_15 : decode cX6_back 15 = .ok (.iconst 1, 1) := by decide +kernel
theorem dX6_back_16 : decode cX6_back 16 = .ok (.isub, 1) := by decide +kernel
theorem dX6_back_17 : decode cX6_back 17 = .ok (.putfield 243, 3) := by decide +kernel
theorem dX6_back_20 : decode cX6_back 20 = .ok (.aload_n 0, 1) := by decide +kernel
theorem dX6_back_21 : decode cX6_back 21 = .ok (.getfield 31, 3) := by decide +kernel
theorem dX6_back_24 : decode cX6_back 24 = .ok (.aload_n 0, 1) := by decide +kernel
theorem dX6_back_25 : decode cX6_back 25 = .ok (.getfield 48, 3) := by decide +kernel
theorem dX6_back_28 : decode cX6_back 28 = .ok (.aload_n 0, 1) := by decide +kernel
theorem dX6_back_29 : decode cX6_back 29 = .ok (.getfield 243, 3) := by decide +kernel
theorem dX6_back_32 : decode cX6_back 32 = .ok (.aaload, 1) := by decide +kernel
theorem dX6_back_33 : decode cX6_back 33 = .ok (.invokevirtual 188, 3) := by decide +kernel
theorem dX6_back_36 : decode cX6_back 36 = .ok (.aload_n 0, 1) := by decide +kernel
theorem dX6_back_37 : decode cX6_back 37 = .ok (.getfield 44, 3) := by decide +kernel
theorem dX6_back_40 : decode cX6_back 40 = .ok (.invokevirtual 246, 3) := by decide +kernel
theorem dX6_back_43 : decode cX6_back 43 = .ok (.aload_n 0, 1) := by decide +kernel
theorem dX6_back_44 : decode cX6_back 44 = .ok (.getfield 243, 3) := by decide +kernel
theorem dX6_back_47 : decode cX6_back 47 = .ok (.ireturn, 1) := by decide +kernel
theorem dX6_count_0 : decode cX6_count 0 = .ok (.iload_n 1, 1) := by decide +kernel
theorem dX6_count_1 : decode cX6_count 1 = .ok (.tableswitch 159 0 11 #[63, 71, 79, 87, 95, 103, 112, 121, 130, 138, 146, 151], 63) := by decide +kernel
theorem dX6_count_64 : decode cX6_count 64 = .ok (.aload_n 0, 1) := by decide +kernel
theorem dX6_count_65 : decode cX6_count 65 = .ok (.getfield 23, 3) := by decide +kernel
theorem dX6_count_68 : decode cX6_count 68 = .ok (.getfield 97, 3) := by decide +kernel
theorem dX6_count_71 : decode cX6_count 71 = .ok (.ireturn, 1) := by decide +kernel
theorem dX6_count_72 : decode cX6_count 72 = .ok (.aload_n 0, 1) := by decide +kernel
theorem dX6_count_73 : decode cX6_count 73 = .ok (.getfield 23, 3) := by decide +kernel
theorem dX6_count_76 : decode cX6_count 76 = .ok (.getfield 182, 3) := by decide +kernel
theorem dX6_count_79 : decode cX6_count 79 = .ok (.ireturn, 1) := by decide +kernel
theorem dX6_count_80 : decode cX6_count 80 = .ok (.aload_n 0, 1) := by decide +kernel
theorem dX6_count_81 : decode cX6_count 81 = .ok (.getfield 31, 3) := by decide +kernel
theorem dX6_count_84 : decode cX6_count 84 = .ok (.getfield 167, 3) := by decide +kernel
theorem dX6_count_87 : decode cX6_count 87 = .ok (.ireturn, 1) := by decide +kernel
theorem dX6_count_88 : decode cX6_count 88 = .ok (.aload_n 0, 1) := by decide +kernel
theorem dX6_count_89 : decode cX6_count 89 = .ok (.getfield 31, 3) := by decide +kernel
theorem dX6_count_92 : decode cX6_count 92 = .ok (.getfield 240, 3) := by decide +kernel
theorem dX6_count_95 : decode cX6_count 95 = .ok (.ireturn, 1) := by decide +kernel
theorem dX6_count_96 : decode cX6_count 96 = .ok (.aload_n 0, 1) := by decide +kernel
theorem dX6_count_97 : decode cX6_count 97 = .ok (.getfield 31, 3) := by decide +kernel
theorem dX6_count_100 : decode cX6_count 100 = .ok (.getfield 158, 3) := by decide +kernel
theorem dX6_count_103 : decode cX6_count 103 = .ok (.ireturn, 1) := by decide +kernel
theorem dX6_count_104 : decode cX6_count 104 = .ok (.aload_n 0, 1) := by decide +kernel
theorem dX6_count_105 : decode cX6_count 105 = .ok (.getfield 31, 3) := by decide +kernel
theorem dX6_count_108 : decode cX6_count 108 = .ok (.iconst 1, 1) := by decide +kernel
theorem dX6_count_109 : decode cX6_count 109 = .ok (.invokevirtual 155, 3) := by decide +kernel
theorem dX6_count_112 : decode cX6_count 112 = .ok (.ireturn, 1) := by decide +kernel
theorem dX6_count_113 : decode cX6_count 113 = .ok (.aload_n 0, 1) := by decide +kernel
theorem dX6_count_114 : decode cX6_count 114 = .ok (.getfield 31, 3) := by decide +kernel
theorem dX6_count_117 : decode cX6_count 117 = .ok (.iconst 2, 1) := by decide +kernel
theorem dX6_count_118 : decode cX6_count 118 = .ok (.invokevirtual 155, 3) := by decide +kernel
theorem dX6_count_121 : decode cX6_count 121 = .ok (.ireturn, 1) := by decide +kernel
theorem dX6_count_122 : decode cX6_count 122 = .ok (.aload_n 0, 1) := by decide +kernel
theorem dX6_count_123 : decode cX6_count 123 = .ok (.getfield 31, 3) := by decide +kernel
theorem dX6_count_126 : decode cX6_count 126 = .ok (.iconst 3, 1) := by decide +kernel
theorem dX6_count_127 : decode cX6_count 127 = .ok (.invokevirtual 155, 3) := by decide +kernel
theorem dX6_count_130 : decode cX6_count 130 = .ok (.ireturn, 1) := by decide +kernel
theorem dX6_count_131 : decode cX6_count 131 = .ok (.aload_n 0, 1) := by decide +kernel
theorem dX6_count_132 : decode cX6_count 132 = .ok (.getfield 55, 3) := by decide +kernel
theorem dX6_count_135 : decode cX6_count 135 = .ok (.getfield 219, 3) := by decide +kernel
theorem dX6_count_138 : decode cX6_count 138 = .ok (.ireturn, 1) := by decide +kernel
theorem dX6_count_139 : decode cX6_count 139 = .ok (.aload_n 0, 1) := by decide +kernel
theorem dX6_count_140 : decode cX6_count 140 = .ok (.getfield 44, 3) := by decide +kernel
theorem dX6_count_143 : decode cX6_count 143 = .ok (.getfield 176, 3) := by decide +kernel
theorem dX6_count_146 : decode cX6_count 146 = .ok (.ireturn, 1) := by decide +kernel
theorem dX6_count_147 : decode cX6_count 147 = .ok (.aload_n 0, 1) := by decide +kernel
theorem dX6_count_148 : decode cX6_count 148 = .ok (.getfield 243, 3) := by decide +kernel
theorem dX6_count_151 : decode cX6_count 151 = .ok (.ireturn, 1) := by decide +kernel
theorem dX6_count_152 : decode cX6_count 152 = .ok (.aload_n 0, 1) := by decide +kernel
theorem dX6_count_153 : decode cX6_count 153 = .ok (.getfield 10, 3) := by decide +kernel
theorem dX6_count_156 : decode cX6_count 156 = .ok (.invokevirtual 96, 3) := by decide +kernel
theorem dX6_count_159 : decode cX6_count 159 = .ok (.ireturn, 1) := by decide +kernel
theorem dX6_count_160 : decode cX6_count 160 = .ok (.iconst (-1), 1) := by decide +kernel
theorem dX6_count_161 : decode cX6_count 161 = .ok (.ireturn, 1) := by decide +kernel
theorem dX6_startAnew_0 : decode cX6_startAnew 0 = .ok (.aload_n 0, 1) := by decide +kernel
theorem dX6_startAnew_1 : decode cX6_startAnew 1 = .ok (.getfield 23, 3) := by decide +kernel
theorem dX6_startAnew_4 : decode cX6_startAnew 4 = .ok (.aload_n 0, 1) := by decide +kernel
theorem dX6_startAnew_5 : decode cX6_startAnew 5 = .ok (.getfield 19, 3) := by decide +kernel
theorem dX6_startAnew_8 : decode cX6_startAnew 8 = .ok (.invokevirtual 247, 3) := by decide +kernel
theorem dX6_startAnew_11 : decode cX6_startAnew 11 = .ok (.aload_n 0, 1) := by decide +kernel
theorem dX6_startAnew_12 : decode cX6_startAnew 12 = .ok (.getfield 31, 3) := by decide +kernel
theorem dX6_startAnew_15 : decode cX6_startAnew 15 = .ok (.invokevirtual 249, 3) := by decide +kernel
theorem dX6_startAnew_18 : decode cX6_startAnew 18 = .ok (.aload_n 0, 1) := by decide +kernel
theorem dX6_startAnew_19 : decode cX6_startAnew 19 = .ok (.getfield 44, 3) := by decide +kernel
theorem dX6_startAnew_22 : decode cX6_startAnew 22 = .ok (.invokevirtual 246, 3) := by decide +kernel
theorem dX6_startAnew_25 : decode cX6_startAnew 25 = .ok (.aload_n 0, 1) := by decide +kernel
theorem dX6_startAnew_26 : decode cX6_startAnew 26 = .ok (.iconst 0, 1) := by decide +kernel
theorem dX6_startAnew_27 : decode cX6_startAnew 27 = .ok (.putfield 243, 3) := by decide +kernel
theorem dX6_startAnew_30 : decode cX6_startAnew 30 = .ok (.aload_n 0, 1) := by decide +kernel
theorem dX6_startAnew_31 : decode cX6_startAnew 31 = .ok (.getfield 55, 3) := by decide +kernel
theorem dX6_startAnew_34 : decode cX6_startAnew 34 = .ok (.iconst 0, 1) := by decide +kernel
theorem dX6_startAnew_35 : decode cX6_startAnew 35 = .ok (.putfield 219, 3) := by decide +kernel
theorem dX6_startAnew_38 : decode cX6_startAnew 38 = .ok (.return_, 1) := by decide +kernel
theorem dX6_isGuest_0 : decode cX6_isGuest 0 = .ok (.iload_n 1, 1) := by decide +kernel
theorem dX6_isGuest_1 : decode cX6_isGuest 1 = .ok (.iconst 0, 1) := by decide +kernel
theorem dX6_isGuest_2 : decode cX6_isGuest 2 = .ok (.aload_n 0, 1) := by decide +kernel
theorem dX6_isGuest_3 : decode cX6_isGuest 3 = .ok (.getfield 23, 3) := by decide +kernel
theorem dX6_isGuest_6 : decode cX6_isGuest 6 = .ok (.getfield 97, 3) := by decide +kernel
theorem dX6_isGuest_9 : decode cX6_isGuest 9 = .ok (.iconst 1, 1) := by decide +kernel
theorem dX6_isGuest_10 : decode cX6_isGuest 10 = .ok (.isub, 1) := by decide +kernel
theorem dX6_isGuest_11 : decode cX6_isGuest 11 = .ok (.invokestatic 92, 3) := by decide +kernel
theorem dX6_isGuest_14 : decode cX6_isGuest 14 = .ok (.ireturn, 1) := by decide +kernel
theorem dX6_isLane_0 : decode cX6_isLane 0 = .ok (.iload_n 0, 1) := by decide +kernel
theorem dX6_isLane_1 : decode cX6_isLane 1 = .ok (.iconst 0, 1) := by decide +kernel
theorem dX6_isLane_2 : decode cX6_isLane 2 = .ok (.iconst 1, 1) := by decide +kernel
theorem dX6_isLane_3 : decode cX6_isLane 3 = .ok (.invokestatic 92, 3) := by decide +kernel
theorem dX6_isLane_6 : decode cX6_isLane 6 = .ok (.ireturn, 1) := by decide +kernel
theorem dX6_isKnob_0 : decode cX6_isKnob 0 = .ok (.iload_n 0, 1) := by decide +kernel
theorem dX6_isKnob_1 : decode cX6_isKnob 1 = .ok (.iconst 1, 1) := by decide +kernel
theorem dX6_isKnob_2 : decode cX6_isKnob 2 = .ok (.bipush 9, 2) := by decide +kernel
theorem dX6_isKnob_4 : decode cX6_isKnob 4 = .ok (.invokestatic 92, 3) := by decide +kernel
theorem dX6_isKnob_7 : decode cX6_isKnob 7 = .ok (.ireturn, 1) := by decide +kernel
theorem dX6_within_0 : decode cX6_within 0 = .ok (.iload_n 0, 1) := by decide +kernel
theorem dX6_within_1 : decode cX6_within 1 = .ok (.iload_n 1, 1) := by decide +kernel
theorem dX6_within_2 : decode cX6_within 2 = .ok (.if_icmp .lt 12, 3) := by decide +kernel
theorem dX6_within_5 : decode cX6_within 5 = .ok (.iload_n 0, 1) := by decide +kernel
theorem dX6_within_6 : decode cX6_within 6 = .ok (.iload_n 2, 1) := by decide +kernel
theorem dX6_within_7 : decode cX6_within 7 = .ok (.if_icmp .gt 7, 3) := by decide +kernel
theorem dX6_within_10 : decode cX6_within 10 = .ok (.iconst 1, 1) := by decide +kernel
theorem dX6_within_11 : decode cX6_within 11 = .ok (.goto 4, 3) := by decide +kernel
theorem dX6_within_14 : decode cX6_within 14 = .ok (.iconst 0, 1) := by decide +kernel
theorem dX6_within_15 : decode cX6_within 15 = .ok (.ireturn, 1) := by decide +kernel
theorem dX6_refusalToGoIn_0 : decode cX6_refusalToGoIn 0 = .ok (.aload_n 0, 1) := by decide +kernel
theorem dX6_refusalToGoIn_1 : decode cX6_refusalToGoIn 1 = .ok (.iload_n 1, 1) := by decide +kernel
theorem dX6_refusalToGoIn_2 : decode cX6_refusalToGoIn 2 = .ok (.invokevirtual 101, 3) := by decide +kernel
theorem dX6_refusalToGoIn_5 : decode cX6_refusalToGoIn 5 = .ok (.ifCond .eq 10, 3) := by decide +kernel
theorem dX6_refusalToGoIn_8 : decode cX6_refusalToGoIn 8 = .ok (.iload_n 2, 1) := by decide +kernel
theorem dX6_refusalToGoIn_9 : decode cX6_refusalToGoIn 9 = .ok (.invokestatic 138, 3) := by decide +kernel
theorem dX6_refusalToGoIn_12 : decode cX6_refusalToGoIn 12 = .ok (.ifCond .ne 5, 3) := by decide +kernel
theorem dX6_refusalToGoIn_15 : decode cX6_refusalToGoIn 15 = .ok (.iconst (-1), 1) := by decide +kernel
theorem dX6_refusalToGoIn_16 : decode cX6_refusalToGoIn 16 = .ok (.ireturn, 1) := by decide +kernel
theorem dX6_refusalToGoIn_17 : decode cX6_refusalToGoIn 17 = .ok (.aload_n 0, 1) := by decide +kernel
theorem dX6_refusalToGoIn_18 : decode cX6_refusalToGoIn 18 = .ok (.getfield 31, 3) := by decide +kernel
theorem dX6_refusalToGoIn_21 : decode cX6_refusalToGoIn 21 = .ok (.iload_n 1, 1) := by decide +kernel
theorem dX6_refusalToGoIn_22 : decode cX6_refusalToGoIn 22 = .ok (.invokevirtual 141, 3) := by decide +kernel
theorem dX6_refusalToGoIn_25 : decode cX6_refusalToGoIn 25 = .ok (.ifCond .eq 7, 3) := by decide +kernel
theorem dX6_refusalToGoIn_28 : decode cX6_refusalToGoIn 28 = .ok (.iconst 0, 1) := by decide +kernel
theorem dX6_refusalToGoIn_29 : decode cX6_refusalToGoIn 29 = .ok (.goto 5, 3) := by decide +kernel
theorem dX6_refusalToGoIn_32 : decode cX6_refusalToGoIn 32 = .ok (.bipush (-2), 2) := by decide +kernel
theorem dX6_refusalToGoIn_34 : decode cX6_refusalToGoIn 34 = .ok (.ireturn, 1) := by decide +kernel
theorem dX6_rightOnesAtKnob_0 : decode cX6_rightOnesAtKnob 0 = .ok (.aload_n 0, 1) := by decide +kernel
theorem dX6_rightOnesAtKnob_1 : decode cX6_rightOnesAtKnob 1 = .ok (.getfield 35, 3) := by decide +kernel
theorem dX6_rightOnesAtKnob_4 : decode cX6_rightOnesAtKnob 4 = .ok (.aload_n 0, 1) := by decide +kernel
theorem dX6_rightOnesAtKnob_5 : decode cX6_rightOnesAtKnob 5 = .ok (.getfield 31, 3) := by decide +kernel
theorem dX6_rightOnesAtKnob_8 : decode cX6_rightOnesAtKnob 8 = .ok (.invokevirtual 188, 3) := by decide +kernel
theorem dX6_rightOnesAtKnob_11 : decode cX6_rightOnesAtKnob 11 = .ok (.aload_n 0, 1) := by decide +kernel
theorem dX6_rightOnesAtKnob_12 : decode cX6_rightOnesAtKnob 12 = .ok (.getfield 35, 3) := by decide +kernel
theorem dX6_rightOnesAtKnob_15 : decode cX6_rightOnesAtKnob 15 = .ok (.iload_n 1, 1) := by decide +kernel
theorem dX6_rightOnesAtKnob_16 : decode cX6_rightOnesAtKnob 16 = .ok (.putfield 167, 3) := by decide +kernel
theorem dX6_rightOnesAtKnob_19 : decode cX6_rightOnesAtKnob 19 = .ok (.iconst 0, 1) := by decide +kernel
theorem dX6_rightOnesAtKnob_20 : decode cX6_rightOnesAtKnob 20 = .ok (.istore_n 2, 1) := by decide +kernel
theorem dX6_rightOnesAtKnob_21 : decode cX6_rightOnesAtKnob 21 = .ok (.iconst 0, 1) := by decide +kernel
theorem dX6_rightOnesAtKnob_22 : decode cX6_rightOnesAtKnob 22 = .ok (.istore_n 3, 1) := by decide +kernel
theorem dX6_rightOnesAtKnob_23 : decode cX6_rightOnesAtKnob 23 = .ok (.iload_n 3, 1) := by decide +kernel
theorem dX6_rightOnesAtKnob_24 : decode cX6_rightOnesAtKnob 24 = .ok (.aload_n 0, 1) := by decide +kernel
theorem dX6_rightOnesAtKnob_25 : decode cX6_rightOnesAtKnob 25 = .ok (.getfield 23, 3) := by decide +kernel
theorem dX6_rightOnesAtKnob_28 : decode cX6_rightOnesAtKnob 28 = .ok (.getfield 97, 3) := by decide +kernel
theorem dX6_rightOnesAtKnob_31 : decode cX6_rightOnesAtKnob 31 = .ok (.if_icmp .ge 48, 3) := by decide +kernel
theorem dX6_rightOnesAtKnob_34 : decode cX6_rightOnesAtKnob 34 = .ok (.aload_n 0, 1) := by decide +kernel
theorem dX6_rightOnesAtKnob_35 : decode cX6_rightOnesAtKnob 35 = .ok (.getfield 35, 3) := by decide +kernel
theorem dX6_rightOnesAtKnob_38 : decode cX6_rightOnesAtKnob 38 = .ok (.iload_n 3, 1) := by decide +kernel
theorem dX6_rightOnesAtKnob_39 : decode cX6_rightOnesAtKnob 39 = .ok (.invokevirtual 191, 3) := by decide +kernel
theorem dX6_rightOnesAtKnob_42 : decode cX6_rightOnesAtKnob 42 = .ok (.aload_n 0, 1) := by decide +kernel
theorem dX6_rightOnesAtKnob_43 : decode cX6_rightOnesAtKnob 43 = .ok (.getfield 31, 3) := by decide +kernel
theorem dX6_rightOnesAtKnob_46 : decode cX6_rightOnesAtKnob 46 = .ok (.getfield 119, 3) := by decide +kernel
theorem dX6_rightOnesAtKnob_49 : decode cX6_rightOnesAtKnob 49 = .ok (.iload_n 3, 1) := by decide +kernel
theorem dX6_rightOnesAtKnob_50 : decode cX6_rightOnesAtKnob 50 = .ok (.iaload, 1) := by decide +kernel
theorem dX6_rightOnesAtKnob_51 : decode cX6_rightOnesAtKnob 51 = .ok (.iconst 1, 1) := by decide +kernel
theorem dX6_rightOnesAtKnob_52 : decode cX6_rightOnesAtKnob 52 = .ok (.if_icmp .ne 21, 3) := by decide +kernel
theorem dX6_rightOnesAtKnob_55 : decode cX6_rightOnesAtKnob 55 = .ok (.aload_n 0, 1) := by decide +kernel
theorem dX6_rightOnesAtKnob_56 : decode cX6_rightOnesAtKnob 56 = .ok (.getfield 35, 3) := by decide +kernel
theorem dX6_rightOnesAtKnob_59 : decode cX6_rightOnesAtKnob 59 = .ok (.iload_n 3, 1) := by decide +kernel
theorem dX6_rightOnesAtKnob_60 : decode cX6_rightOnesAtKnob 60 = .ok (.iload_n 3, 1) := by decide +kernel
theorem dX6_rightOnesAtKnob_61 : decode cX6_rightOnesAtKnob 61 = .ok (.invokevirtual 134, 3) := by decide +kernel
theorem dX6_rightOnesAtKnob_64 : decode cX6_rightOnesAtKnob 64 = .ok (.ifCond .eq 9, 3) := by decide +kernel
theorem dX6_rightOnesAtKnob_67 : decode cX6_rightOnesAtKnob 67 = .ok (.iload_n 2, 1) := by decide +kernel
theorem dX6_rightOnesAtKnob_68 : decode cX6_rightOnesAtKnob 68 = .ok (.iconst 1, 1) := by decide +kernel
theorem dX6_rightOnesAtKnob_69 : decode cX6_rightOnesAtKnob 69 = .ok (.iload_n 3, 1) := by decide +kernel
theorem dX6_rightOnesAtKnob_70 : decode cX6_rightOnesAtKnob 70 = .ok (.ishl, 1) := by decide +kernel
theorem dX6_rightOnesAtKnob_71 : decode cX6_rightOnesAtKnob 71 = .ok (.ior, 1) := by decide +kernel
theorem dX6_rightOnesAtKnob_72 : decode cX6_rightOnesAtKnob 72 = .ok (.istore_n 2, 1) := by decide +kernel
theorem dX6_rightOnesAtKnob_73 : decode cX6_rightOnesAtKnob 73 = .ok (.iinc 3 1, 3) := by decide +kernel
theorem dX6_rightOnesAtKnob_76 : decode cX6_rightOnesAtKnob 76 = .ok (.goto (-53), 3) := by decide +kernel
theorem dX6_rightOnesAtKnob_79 : decode cX6_rightOnesAtKnob 79 = .ok (.iload_n 2, 1) := by decide +kernel
theorem dX6_rightOnesAtKnob_80 : decode cX6_rightOnesAtKnob 80 = .ok (.ireturn, 1) := by decide +kernel
theorem dX6_momentsThrough_0 : decode cX6_momentsThrough 0 = .ok (.iload_n 1, 1) := by decide +kernel
theorem dX6_momentsThrough_1 : decode cX6_momentsThrough 1 = .ok (.iconst 1, 1) := by decide +kernel
theorem dX6_momentsThrough_2 : decode cX6_momentsThrough 2 = .ok (.if_icmp .ge 7, 3) := by decide +kernel
theorem dX6_momentsThrough_5 : decode cX6_momentsThrough 5 = .ok (.iconst 0, 1) := by decide +kernel
theorem dX6_momentsThrough_6 : decode cX6_momentsThrough 6 = .ok (.goto 10, 3) := by decide +kernel
theorem dX6_momentsThrough_9 : decode cX6_momentsThrough 9 = .ok (.iload_n 0, 1) := by decide +kernel
theorem dX6_momentsThrough_10 : decode cX6_momentsThrough 10 = .ok (.iload_n 1, 1) := by decide +kernel
theorem dX6_momentsThrough_11 : decode cX6_momentsThrough 11 = .ok (.iadd, 1) := by decide +kernel
theorem dX6_momentsThrough_12 : decode cX6_momentsThrough 12 = .ok (.iconst 1, 1) := by decide +kernel
theorem dX6_momentsThrough_13 : decode cX6_momentsThrough 13 = .ok (.isub, 1) := by decide +kernel
theorem dX6_momentsThrough_14 : decode cX6_momentsThrough 14 = .ok (.iload_n 1, 1) := by decide +kernel
theorem dX6_momentsThrough_15 : decode cX6_momentsThrough 15 = .ok (.idiv, 1) := by decide +kernel
theorem dX6_momentsThrough_16 : decode cX6_momentsThrough 16 = .ok (.ireturn, 1) := by decide +kernel
theorem dX6_browning_0 : decode cX6_browning 0 = .ok (.iload_n 1, 1) := by decide +kernel
theorem dX6_browning_1 : decode cX6_browning 1 = .ok (.ifCond .ne 9, 3) := by decide +kernel
theorem dX6_browning_4 : decode cX6_browning 4 = .ok (.iload_n 2, 1) := by decide +kernel
theorem dX6_browning_5 : decode cX6_browning 5 = .ok (.iconst 2, 1) := by decide +kernel
theorem dX6_browning_6 : decode cX6_browning 6 = .ok (.iadd, 1) := by decide +kernel
theorem dX6_browning_7 : decode cX6_browning 7 = .ok (.goto 4, 3) := by decide +kernel
theorem dX6_browning_10 : decode cX6_browning 10 = .ok (.iload_n 2, 1) := by decide +kernel
theorem dX6_browning_11 : decode cX6_browning 11 = .ok (.istore_n 3, 1) := by decide +kernel
theorem dX6_browning_12 : decode cX6_browning 12 = .ok (.iload_n 0, 1) := by decide +kernel
theorem dX6_browning_13 : decode cX6_browning 13 = .ok (.tableswitch 43 1 3 #[27, 31, 39], 27) := by decide +kernel
theorem dX6_browning_40 : decode cX6_browning 40 = .ok (.iload_n 3, 1) := by decide +kernel
theorem dX6_browning_41 : decode cX6_browning 41 = .ok (.iconst 2, 1) := by decide +kernel
theorem dX6_browning_42 : decode cX6_browning 42 = .ok (.idiv, 1) := by decide +kernel
theorem dX6_browning_43 : decode cX6_browning 43 = .ok (.ireturn, 1) := by decide +kernel
theorem dX6_browning_44 : decode cX6_browning 44 = .ok (.iconst 0, 1) := by decide +kernel
theorem dX6_browning_45 : decode cX6_browning 45 = .ok (.iload_n 3, 1) := by decide +kernel
theorem dX6_browning_46 : decode cX6_browning 46 = .ok (.iconst 3, 1) := by decide +kernel
theorem dX6_browning_47 : decode cX6_browning 47 = .ok (.isub, 1) := by decide +kernel
theorem dX6_browning_48 : decode cX6_browning 48 = .ok (.invokestatic 226, 3) := by decide +kernel
theorem dX6_browning_51 : decode cX6_browning 51 = .ok (.ireturn, 1) := by decide +kernel
theorem dX6_browning_52 : decode cX6_browning 52 = .ok (.iconst 2, 1) := by decide +kernel
theorem dX6_browning_53 : decode cX6_browning 53 = .ok (.iload_n 3, 1) := by decide +kernel
theorem dX6_browning_54 : decode cX6_browning 54 = .ok (.imul, 1) := by decide +kernel
theorem dX6_browning_55 : decode cX6_browning 55 = .ok (.ireturn, 1) := by decide +kernel
theorem dX6_browning_56 : decode cX6_browning 56 = .ok (.iload_n 3, 1) := by decide +kernel
theorem dX6_browning_57 : decode cX6_browning 57 = .ok (.ireturn, 1) := by decide +kernel
theorem dX6_greatestDivisor_0 : decode cX6_greatestDivisor 0 = .ok (.iload_n 1, 1) := by decide +kernel
theorem dX6_greatestDivisor_1 : decode cX6_greatestDivisor 1 = .ok (.istore_n 2, 1) := by decide +kernel
theorem dX6_greatestDivisor_2 : decode cX6_greatestDivisor 2 = .ok (.iload_n 2, 1) := by decide +kernel
theorem dX6_greatestDivisor_3 : decode cX6_greatestDivisor 3 = .ok (.iconst 1, 1) := by decide +kernel
theorem dX6_greatestDivisor_4 : decode cX6_greatestDivisor 4 = .ok (.if_icmp .le 23, 3) := by decide +kernel
theorem dX6_greatestDivisor_7 : decode cX6_greatestDivisor 7 = .ok (.iload_n 0, 1) := by decide +kernel
theorem dX6_greatestDivisor_8 : decode cX6_greatestDivisor 8 = .ok (.iload_n 2, 1) := by decide +kernel
theorem dX6_greatestDivisor_9 : decode cX6_greatestDivisor 9 = .ok (.irem, 1) := by decide +kernel
theorem dX6_greatestDivisor_10 : decode cX6_greatestDivisor 10 = .ok (.ifCond .ne 11, 3) := by decide +kernel
theorem dX6_greatestDivisor_13 : decode cX6_greatestDivisor 13 = .ok (.iload_n 1, 1) := by decide +kernel
theorem dX6_greatestDivisor_14 : decode cX6_greatestDivisor 14 = .ok (.iload_n 2, 1) := by decide +kernel
theorem dX6_greatestDivisor_15 : decode cX6_greatestDivisor 15 = .ok (.irem, 1) := by decide +kernel
theorem dX6_greatestDivisor_16 : decode cX6_greatestDivisor 16 = .ok (.ifCond .ne 5, 3) := by decide +kernel
theorem dX6_greatestDivisor_19 : decode cX6_greatestDivisor 19 = .ok (.iload_n 2, 1) := by decide +kernel
theorem dX6_greatestDivisor_20 : decode cX6_greatestDivisor 20 = .ok (.ireturn, 1) := by decide +kernel
theorem dX6_greatestDivisor_21 : decode cX6_greatestDivisor 21 = .ok (.iinc 2 (-1), 3) := by decide +kernel
theorem dX6_greatestDivisor_24 : decode cX6_greatestDivisor 24 = .ok (.goto (-22), 3) := by decide +kernel
theorem dX6_greatestDivisor_27 : decode cX6_greatestDivisor 27 = .ok (.iconst 1, 1) := by decide +kernel
theorem dX6_greatestDivisor_28 : decode cX6_greatestDivisor 28 = .ok (.ireturn, 1) := by decide +kernel
theorem dX6_draw_0 : decode cX6_draw 0 = .ok (.ldc2_w 252, 3) := by decide +kernel
theorem dX6_draw_3 : decode cX6_draw 3 = .ok (.iload_n 0, 1) := by decide +kernel
theorem dX6_draw_4 : decode cX6_draw 4 = .ok (.i2l, 1) := by decide +kernel
theorem dX6_draw_5 : decode cX6_draw 5 = .ok (.lmul, 1) := by decide +kernel
theorem dX6_draw_6 : decode cX6_draw 6 = .ok (.ldc2_w 254, 3) := by decide +kernel
theorem dX6_draw_9 : decode cX6_draw 9 = .ok (.iload_n 1, 1) := by decide +kernel
theorem dX6_draw_10 : decode cX6_draw 10 = .ok (.i2l, 1) := by decide +kernel
theorem dX6_draw_11 : decode cX6_draw 11 = .ok (.lmul, 1) := by decide +kernel
theorem dX6_draw_12 : decode cX6_draw 12 = .ok (.ladd, 1) := by decide +kernel
theorem dX6_draw_13 : decode cX6_draw 13 = .ok (.lconst 1, 1) := by decide +kernel
theorem dX6_draw_14 : decode cX6_draw 14 = .ok (.ladd, 1) := by decide +kernel
theorem dX6_draw_15 : decode cX6_draw 15 = .ok (.lstore_n 2, 1) := by decide +kernel
theorem dX6_draw_16 : decode cX6_draw 16 = .ok (.lload_n 2, 1) := by decide +kernel
theorem dX6_draw_17 : decode cX6_draw 17 = .ok (.lload_n 2, 1) := by decide +kernel
theorem dX6_draw_18 : decode cX6_draw 18 = .ok (.lmul, 1) := by decide +kernel
theorem dX6_draw_19 : decode cX6_draw 19 = .ok (.ldc2_w 256, 3) := by decide +kernel
theorem dX6_draw_22 : decode cX6_draw 22 = .ok (.lrem, 1) := by decide +kernel
theorem dX6_draw_23 : decode cX6_draw 23 = .ok (.ldc2_w 258, 3) := by decide +kernel
theorem dX6_draw_26 : decode cX6_draw 26 = .ok (.ldiv, 1) := by decide +kernel
theorem dX6_draw_27 : decode cX6_draw 27 = .ok (.l2i, 1) := by decide +kernel
theorem dX6_draw_28 : decode cX6_draw 28 = .ok (.ireturn, 1) := by decide +kernel
