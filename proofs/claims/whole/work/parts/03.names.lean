theorem dX0_init_0 : decode cX0_init 0 = .ok (.aload_n 0, 1) := by decide +kernel
theorem dX0_init_1 : decode cX0_init 1 = .ok (.invokespecial 1, 3) := by decide +kernel
theorem dX0_init_4 : decode cX0_init 4 = .ok (.aload_n 0, 1) := by decide +kernel
theorem dX0_init_5 : decode cX0_init 5 = .ok (.iconst 0, 1) := by decide +kernel
theorem dX0_init_6 : decode cX0_init 6 = .ok (.putfield 7, 3) := by decide +kernel
theorem dX0_init_9 : decode cX0_init 9 = .ok (.aload_n 0, 1) := by decide +kernel
theorem dX0_init_10 : decode cX0_init 10 = .ok (.iconst 0, 1) := by decide +kernel
theorem dX0_init_11 : decode cX0_init 11 = .ok (.putfield 13, 3) := by decide +kernel
theorem dX0_init_14 : decode cX0_init 14 = .ok (.aload_n 0, 1) := by decide +kernel
theorem dX0_init_15 : decode cX0_init 15 = .ok (.lconst 0, 1) := by decide +kernel
theorem dX0_init_16 : decode cX0_init 16 = .ok (.putfield 16, 3) := by decide +kernel
theorem dX0_init_19 : decode cX0_init 19 = .ok (.aload_n 0, 1) := by decide +kernel
theorem dX0_init_20 : decode cX0_init 20 = .ok (.iload_n 1, 1) := by decide +kernel
theorem dX0_init_21 : decode cX0_init 21 = .ok (.putfield 20, 3) := by decide +kernel
theorem dX0_init_24 : decode cX0_init 24 = .ok (.aload_n 0, 1) := by decide +kernel
theorem dX0_init_25 : decode cX0_init 25 = .ok (.iload_n 2, 1) := by decide +kernel
theorem dX0_init_26 : decode cX0_init 26 = .ok (.putfield 23, 3) := by decide +kernel
theorem dX0_init_29 : decode cX0_init 29 = .ok (.aload_n 0, 1) := by decide +kernel
theorem dX0_init_30 : decode cX0_init 30 = .ok (.iload_n 3, 1) := by decide +kernel
theorem dX0_init_31 : decode cX0_init 31 = .ok (.putfield 26, 3) := by decide +kernel
theorem dX0_init_34 : decode cX0_init 34 = .ok (.return_, 1) := by decide +kernel
theorem dX1_init_0 : decode cX1_init 0 = .ok (.aload_n 0, 1) := by decide +kernel
theorem dX1_init_1 : decode cX1_init 1 = .ok (.invokespecial 3, 3) := by decide +kernel
theorem dX1_init_4 : decode cX1_init 4 = .ok (.aload_n 0, 1) := by decide +kernel
theorem dX1_init_5 : decode cX1_init 5 = .ok (.bipush 97, 2) := by decide +kernel
theorem dX1_init_7 : decode cX1_init 7 = .ok (.putfield 9, 3) := by decide +kernel
theorem dX1_init_10 : decode cX1_init 10 = .ok (.aload_n 0, 1) := by decide +kernel
theorem dX1_init_11 : decode cX1_init 11 = .ok (.iconst 0, 1) := by decide +kernel
theorem dX1_init_12 : decode cX1_init 12 = .ok (.putfield 15, 3) := by decide +kernel
theorem dX1_init_15 : decode cX1_init 15 = .ok (.aload_n 0, 1) := by decide +kernel
theorem dX1_init_16 : decode cX1_init 16 = .ok (.iconst 0, 1) := by decide +kernel
theorem dX1_init_17 : decode cX1_init 17 = .ok (.putfield 19, 3) := by decide +kernel
theorem dX1_init_20 : decode cX1_init 20 = .ok (.aload_n 0, 1) := by decide +kernel
theorem dX1_init_21 : decode cX1_init 21 = .ok (.iconst 0, 1) := by decide +kernel
theorem dX1_init_22 : decode cX1_init 22 = .ok (.putfield 22, 3) := by decide +kernel
theorem dX1_init_25 : decode cX1_init 25 = .ok (.aload_n 0, 1) := by decide +kernel
theorem dX1_init_26 : decode cX1_init 26 = .ok (.iconst 0, 1) := by decide +kernel
theorem dX1_init_27 : decode cX1_init 27 = .ok (.putfield 25, 3) := by decide +kernel
theorem dX1_init_30 : decode cX1_init 30 = .ok (.aload_n 0, 1) := by decide +kernel
theorem dX1_init_31 : decode cX1_init 31 = .ok (.iconst 0, 1) := by decide +kernel
theorem dX1_init_32 : decode cX1_init 32 = .ok (.putfield 28, 3) := by decide +kernel
theorem dX1_init_35 : decode cX1_init 35 = .ok (.aload_n 0, 1) := by decide +kernel
theorem dX1_init_36 : decode cX1_init 36 = .ok (.iconst 0, 1) := by decide +kernel
theorem dX1_init_37 : decode cX1_init 37 = .ok (.putfield 32, 3) := by decide +kernel
theorem dX1_init_40 : decode cX1_init 40 = .ok (.aload_n 0, 1) := by decide +kernel
theorem dX1_init_41 : decode cX1_init 41 = .ok (.iconst 0, 1) := by decide +kernel
theorem dX1_init_42 : decode cX1_init 42 = .ok (.putfield 35, 3) := by decide +kernel
theorem dX1_init_45 : decode cX1_init 45 = .ok (.aload_n 0, 1) := by decide +kernel
theorem dX1_init_46 : decode cX1_init 46 = .ok (.iconst 0, 1) := by decide +kernel
theorem dX1_init_47 : decode cX1_init 47 = .ok (.putfield 38, 3) := by decide +kernel
theorem dX1_init_50 : decode cX1_init 50 = .ok (.aload_n 0, 1) := by decide +kernel
theorem dX1_init_51 : decode cX1_init 51 = .ok (.bipush 45, 2) := by decide +kernel
theorem dX1_init_53 : decode cX1_init 53 = .ok (.putfield 41, 3) := by decide +kernel
theorem dX1_init_56 : decode cX1_init 56 = .ok (.aload_n 0, 1) := by decide +kernel
theorem dX1_init_57 : decode cX1_init 57 = .ok (.iload_n 1, 1) := by decide +kernel
theorem dX1_init_58 : decode cX1_init 58 = .ok (.putfield 44, 3) := by decide +kernel
theorem dX1_init_61 : decode cX1_init 61 = .ok (.aload_n 0, 1) := by decide +kernel
theorem dX1_init_62 : decode cX1_init 62 = .ok (.iload_n 2, 1) := by decide +kernel
theorem dX1_init_63 : decode cX1_init 63 = .ok (.putfield 47, 3) := by decide +kernel
theorem dX1_init_66 : decode cX1_init 66 = .ok (.aload_n 0, 1) := by decide +kernel
theorem dX1_init_67 : decode cX1_init 67 = .ok (.iload_n 3, 1) := by decide +kernel
theorem dX1_init_68 : decode cX1_init 68 = .ok (.putfield 50, 3) := by decide +kernel
theorem dX1_init_71 : decode cX1_init 71 = .ok (.aload_n 0, 1) := by decide +kernel
theorem dX1_init_72 : decode cX1_init 72 = .ok (.iload_n 3, 1) := by decide +kernel
theorem dX1_init_73 : decode cX1_init 73 = .ok (.iload 4, 2) := by decide +kernel
theorem dX1_init_75 : decode cX1_init 75 = .ok (.imul, 1) := by decide +kernel
theorem dX1_init_76 : decode cX1_init 76 = .ok (.putfield 53, 3) := by decide +kernel
theorem dX1_init_79 : decode cX1_init 79 = .ok (.return_, 1) := by decide +kernel
theorem dX1_pagesToCome_0 : decode cX1_pagesToCome 0 = .ok (.aload_n 0, 1) := by decide +kernel
theorem dX1_pagesToCome_1 : decode cX1_pagesToCome 1 = .ok (.getfield 53, 3) := by decide +kernel
theorem dX1_pagesToCome_4 : decode cX1_pagesToCome 4 = .ok (.aload_n 0, 1) := by decide +kernel
theorem dX1_pagesToCome_5 : decode cX1_pagesToCome 5 = .ok (.getfield 28, 3) := by decide +kernel
theorem dX1_pagesToCome_8 : decode cX1_pagesToCome 8 = .ok (.isub, 1) := by decide +kernel
theorem dX1_pagesToCome_9 : decode cX1_pagesToCome 9 = .ok (.ireturn, 1) := by decide +kernel
set_option maxRecDepth 20000 in
theorem ggX1_isHeld_X1_pagesToCome : GoodIn wsX1_isHeld wsX1_pagesToCome := goodIn_r _ [6, 7, 8, 9, 10, 11, 12, 13, 14, 15, 16, 17, 18, 19, 20, 21, 22] (by decide +kernel) (by decide +kernel)
set_option maxRecDepth 20000 in
theorem gX1_isHeld_X1_pagesToCome : GoodIn wsX1_isHeld (wsV RX1 56 RX1 yX1_pagesToCome wsX1_pagesToCome) := goodIn_app (goodIn_of _ (by decide +kernel)) ggX1_isHeld_X1_pagesToCome
theorem dX1_isHeld_0 : decode cX1_isHeld 0 = .ok (.aload_n 0, 1) := by decide +kernel
theorem dX1_isHeld_1 : decode cX1_isHeld 1 = .ok (.getfield 25, 3) := by decide +kernel
theorem dX1_isHeld_4 : decode cX1_isHeld 4 = .ok (.ifCond .ne 14, 3) := by decide +kernel
theorem dX1_isHeld_7 : decode cX1_isHeld 7 = .ok (.aload_n 0, 1) := by decide +kernel
theorem dX1_isHeld_8 : decode cX1_isHeld 8 = .ok (.invokevirtual 56, 3) := by decide +kernel
theorem dX1_isHeld_11 : decode cX1_isHeld 11 = .ok (.ifCond .le 7, 3) := by decide +kernel
theorem dX1_isHeld_14 : decode cX1_isHeld 14 = .ok (.iconst 1, 1) := by decide +kernel
theorem dX1_isHeld_15 : decode cX1_isHeld 15 = .ok (.goto 4, 3) := by decide +kernel
theorem dX1_isHeld_18 : decode cX1_isHeld 18 = .ok (.iconst 0, 1) := by decide +kernel
theorem dX1_isHeld_19 : decode cX1_isHeld 19 = .ok (.ireturn, 1) := by decide +kernel
theorem dX1_sheetPages_0 : decode cX1_sheetPages 0 = .ok (.aload_n 0, 1) := by decide +kernel
theorem dX1_sheetPages_1 : decode cX1_sheetPages 1 = .ok (.getfield 19, 3) := by decide +kernel
theorem dX1_sheetPages_4 : decode cX1_sheetPages 4 = .ok (.ifCond .eq 16, 3) := by decide +kernel
theorem dX1_sheetPages_7 : decode cX1_sheetPages 7 = .ok (.iconst 2, 1) := by decide +kernel
theorem dX1_sheetPages_8 : decode cX1_sheetPages 8 = .ok (.aload_n 0, 1) := by decide +kernel
theorem dX1_sheetPages_9 : decode cX1_sheetPages 9 = .ok (.getfield 50, 3) := by decide +kernel
theorem dX1_sheetPages_12 : decode cX1_sheetPages 12 = .ok (.iload_n 1, 1) := by decide +kernel
theorem dX1_sheetPages_13 : decode cX1_sheetPages 13 = .ok (.isub, 1) := by decide +kernel
theorem dX1_sheetPages_14 : decode cX1_sheetPages 14 = .ok (.invokestatic 60, 3) := by decide +kernel
theorem dX1_sheetPages_17 : decode cX1_sheetPages 17 = .ok (.goto 4, 3) := by decide +kernel
theorem dX1_sheetPages_20 : decode cX1_sheetPages 20 = .ok (.iconst 1, 1) := by decide +kernel
theorem dX1_sheetPages_21 : decode cX1_sheetPages 21 = .ok (.ireturn, 1) := by decide +kernel
theorem dX1_blackTonerFor_0 : decode cX1_blackTonerFor 0 = .ok (.aload_n 0, 1) := by decide +kernel
theorem dX1_blackTonerFor_1 : decode cX1_blackTonerFor 1 = .ok (.getfield 15, 3) := by decide +kernel
theorem dX1_blackTonerFor_4 : decode cX1_blackTonerFor 4 = .ok (.ifCond .eq 7, 3) := by decide +kernel
theorem dX1_blackTonerFor_7 : decode cX1_blackTonerFor 7 = .ok (.iload_n 1, 1) := by decide +kernel
theorem dX1_blackTonerFor_8 : decode cX1_blackTonerFor 8 = .ok (.goto 6, 3) := by decide +kernel
theorem dX1_blackTonerFor_11 : decode cX1_blackTonerFor 11 = .ok (.iconst 2, 1) := by decide +kernel
theorem dX1_blackTonerFor_12 : decode cX1_blackTonerFor 12 = .ok (.iload_n 1, 1) := by decide +kernel
theorem dX1_blackTonerFor_13 : decode cX1_blackTonerFor 13 = .ok (.imul, 1) := by decide +kernel
theorem dX1_blackTonerFor_14 : decode cX1_blackTonerFor 14 = .ok (.ireturn, 1) := by decide +kernel
theorem dX1_colourTonerFor_0 : decode cX1_colourTonerFor 0 = .ok (.aload_n 0, 1) := by decide +kernel
theorem dX1_colourTonerFor_1 : decode cX1_colourTonerFor 1 = .ok (.getfield 15, 3) := by decide +kernel
theorem dX1_colourTonerFor_4 : decode cX1_colourTonerFor 4 = .ok (.ifCond .eq 9, 3) := by decide +kernel
theorem dX1_colourTonerFor_7 : decode cX1_colourTonerFor 7 = .ok (.iconst 3, 1) := by decide +kernel
theorem dX1_colourTonerFor_8 : decode cX1_colourTonerFor 8 = .ok (.iload_n 1, 1) := by decide +kernel
theorem dX1_colourTonerFor_9 : decode cX1_colourTonerFor 9 = .ok (.imul, 1) := by decide +kernel
theorem dX1_colourTonerFor_10 : decode cX1_colourTonerFor 10 = .ok (.goto 4, 3) := by decide +kernel
theorem dX1_colourTonerFor_13 : decode cX1_colourTonerFor 13 = .ok (.iconst 0, 1) := by decide +kernel
theorem dX1_colourTonerFor_14 : decode cX1_colourTonerFor 14 = .ok (.ireturn, 1) := by decide +kernel
theorem dX2_init_0 : decode cX2_init 0 = .ok (.aload_n 0, 1) := by decide +kernel
theorem dX2_init_1 : decode cX2_init 1 = .ok (.invokespecial 3, 3) := by decide +kernel
theorem dX2_init_4 : decode cX2_init 4 = .ok (.aload_n 0, 1) := by decide +kernel
theorem dX2_init_5 : decode cX2_init 5 = .ok (.iconst 0, 1) := by decide +kernel
theorem dX2_init_6 : decode cX2_init 6 = .ok (.putfield 9, 3) := by decide +kernel
theorem dX2_init_9 : decode cX2_init 9 = .ok (.aload_n 0, 1) := by decide +kernel
theorem dX2_init_10 : decode cX2_init 10 = .ok (.iconst 0, 1) := by decide +kernel
theorem dX2_init_11 : decode cX2_init 11 = .ok (.putfield 15, 3) := by decide +kernel
theorem dX2_init_14 : decode cX2_init 14 = .ok (.aload_n 0, 1) := by decide +kernel
theorem dX2_init_15 : decode cX2_init 15 = .ok (.iconst 0, 1) := by decide +kernel
theorem dX2_init_16 : decode cX2_init 16 = .ok (.putfield 19, 3) := by decide +kernel
theorem dX2_init_19 : decode cX2_init 19 = .ok (.aload_n 0, 1) := by decide +kernel
theorem dX2_init_20 : decode cX2_init 20 = .ok (.iconst 0, 1) := by decide +kernel
theorem dX2_init_21 : decode cX2_init 21 = .ok (.putfield 22, 3) := by decide +kernel
theorem dX2_init_24 : decode cX2_init 24 = .ok (.aload_n 0, 1) := by decide +kernel
theorem dX2_init_25 : decode cX2_init 25 = .ok (.iconst 0, 1) := by decide +kernel
theorem dX2_init_26 : decode cX2_init 26 = .ok (.putfield 25, 3) := by decide +kernel
theorem dX2_init_29 : decode cX2_init 29 = .ok (.aload_n 0, 1) := by decide +kernel
theorem dX2_init_30 : decode cX2_init 30 = .ok (.iconst 0, 1) := by decide +kernel
theorem dX2_init_31 : decode cX2_init 31 = .ok (.putfield 28, 3) := by decide +kernel
theorem dX2_init_34 : decode cX2_init 34 = .ok (.aload_n 0, 1) := by decide +kernel
theorem dX2_init_35 : decode cX2_init 35 = .ok (.iconst 0, 1) := by decide +kernel
theorem dX2_init_36 : decode cX2_init 36 = .ok (.putfield 31, 3) := by decide +kernel
theorem dX2_init_39 : decode cX2_init 39 = .ok (.aload_n 0, 1) := by decide +kernel
theorem dX2_init_40 : decode cX2_init 40 = .ok (.iconst 0, 1) := by decide +kernel
theorem dX2_init_41 : decode cX2_init 41 = .ok (.putfield 34, 3) := by decide +kernel
theorem dX2_init_44 : decode cX2_init 44 = .ok (.aload_n 0, 1) := by decide +kernel
theorem dX2_init_45 : decode cX2_init 45 = .ok (.iconst 0, 1) := by decide +kernel
theorem dX2_init_46 : decode cX2_init 46 = .ok (.putfield 37, 3) := by decide +kernel
theorem dX2_init_49 : decode cX2_init 49 = .ok (.aload_n 0, 1) := by decide +kernel
theorem dX2_init_50 : decode cX2_init 50 = .ok (.bipush 45, 2) := by decide +kernel
theorem dX2_init_52 : decode cX2_init 52 = .ok (.putfield 40, 3) := by decide +kernel
theorem dX2_init_55 : decode cX2_init 55 = .ok (.return_, 1) := by decide +kernel
set_option maxRecDepth 20000 in
theorem ggX2_begin_X3_hasTrayWith : GoodIn wsX2_begin wsX3_hasTrayWith := goodIn_r _ [17, 18, 19, 56, 57, 58, 59, 60, 61, 62, 63] (by decide +kernel) (by decide +kernel)
set_option maxRecDepth 20000 in
theorem gX2_begin_X3_hasTrayWith : GoodIn wsX2_begin (wsV RX2 49 RX3 yX3_hasTrayWith wsX3_hasTrayWith) := goodIn_app (goodIn_of _ (by decide +kernel)) ggX2_begin_X3_hasTrayWith
set_option maxRecDepth 20000 in
theorem ggX2_begin_X3_sheetsWith : GoodIn wsX2_begin wsX3_sheetsWith := goodIn_r _ [23, 18, 19, 24, 56, 57, 58, 59, 60, 61, 62, 63] (by decide +kernel) (by decide +kernel)
set_option maxRecDepth 20000 in
theorem gX2_begin_X3_sheetsWith : GoodIn wsX2_begin (wsV RX2 55 RX3 yX3_sheetsWith wsX3_sheetsWith) := goodIn_app (goodIn_of _ (by decide +kernel)) ggX2_begin_X3_sheetsWith
set_option maxRecDepth 20000 in
theorem ggX2_begin_X5_quota : GoodIn wsX2_begin wsX5_quota := goodIn_r _ [29, 30, 31, 64, 65, 66, 67] (by decide +kernel) (by decide +kernel)
set_option maxRecDepth 20000 in
theorem gX2_begin_X5_quota : GoodIn wsX2_begin (wsV RX2 62 RX5 yX5_quota wsX5_quota) := goodIn_app (goodIn_of _ (by decide +kernel)) ggX2_begin_X5_quota
theorem dX2_begin_0 : decode cX2_begin 0 = .ok (.aload_n 0, 1) := by decide +kernel
theorem dX2_begin_1 : decode cX2_begin 1 = .ok (.aload_n 2, 1) := by decide +kernel
theorem dX2_begin_2 : decode cX2_begin 2 = .ok (.aload_n 1, 1) := by decide +kernel
theorem dX2_begin_3 : decode cX2_begin 3 = .ok (.getfield 44, 3) := by decide +kernel
theorem dX2_begin_6 : decode cX2_begin 6 = .ok (.invokevirtual 49, 3) := by decide +kernel
theorem dX2_begin_9 : decode cX2_begin 9 = .ok (.putfield 9, 3) := by decide +kernel
theorem dX2_begin_12 : decode cX2_begin 12 = .ok (.aload_n 0, 1) := by decide +kernel
theorem dX2_begin_13 : decode cX2_begin 13 = .ok (.aload_n 2, 1) := by decide +kernel
theorem dX2_begin_14 : decode cX2_begin 14 = .ok (.aload_n 1, 1) := by decide +kernel
theorem dX2_begin_15 : decode cX2_begin 15 = .ok (.getfield 44, 3) := by decide +kernel
theorem dX2_begin_18 : decode cX2_begin 18 = .ok (.invokevirtual 55, 3) := by decide +kernel
theorem dX2_begin_21 : decode cX2_begin 21 = .ok (.putfield 15, 3) := by decide +kernel
theorem dX2_begin_24 : decode cX2_begin 24 = .ok (.aload_n 0, 1) := by decide +kernel
theorem dX2_begin_25 : decode cX2_begin 25 = .ok (.aload_n 3, 1) := by decide +kernel
theorem dX2_begin_26 : decode cX2_begin 26 = .ok (.aload_n 1, 1) := by decide +kernel
theorem dX2_begin_27 : decode cX2_begin 27 = .ok (.getfield 59, 3) := by decide +kernel
theorem dX2_begin_30 : decode cX2_begin 30 = .ok (.invokevirtual 62, 3) := by decide +kernel
theorem dX2_begin_33 : decode cX2_begin 33 = .ok (.putfield 19, 3) := by decide +kernel
theorem dX2_begin_36 : decode cX2_begin 36 = .ok (.aload_n 0, 1) := by decide +kernel
theorem dX2_begin_37 : decode cX2_begin 37 = .ok (.iconst 0, 1) := by decide +kernel
theorem dX2_begin_38 : decode cX2_begin 38 = .ok (.putfield 22, 3) := by decide +kernel
theorem dX2_begin_41 : decode cX2_begin 41 = .ok (.aload_n 0, 1) := by decide +kernel
theorem dX2_begin_42 : decode cX2_begin 42 = .ok (.iconst 0, 1) := by decide +kernel
theorem dX2_begin_43 : decode cX2_begin 43 = .ok (.putfield 25, 3) := by decide +kernel
theorem dX2_begin_46 : decode cX2_begin 46 = .ok (.aload_n 0, 1) := by decide +kernel
theorem dX2_begin_47 : decode cX2_begin 47 = .ok (.aload_n 1, 1) := by decide +kernel
theorem dX2_begin_48 : decode cX2_begin 48 = .ok (.getfield 67, 3) := by decide +kernel
theorem dX2_begin_51 : decode cX2_begin 51 = .ok (.putfield 28, 3) := by decide +kernel
theorem dX2_begin_54 : decode cX2_begin 54 = .ok (.aload_n 0, 1) := by decide +kernel
theorem dX2_begin_55 : decode cX2_begin 55 = .ok (.iconst 0, 1) := by decide +kernel
theorem dX2_begin_56 : decode cX2_begin 56 = .ok (.putfield 31, 3) := by decide +kernel
theorem dX2_begin_59 : decode cX2_begin 59 = .ok (.aload_n 0, 1) := by decide +kernel
theorem dX2_begin_60 : decode cX2_begin 60 = .ok (.aload_n 0, 1) := by decide +kernel
theorem dX2_begin_61 : decode cX2_begin 61 = .ok (.getfield 28, 3) := by decide +kernel
theorem dX2_begin_64 : decode cX2_begin 64 = .ok (.ifCond .ne 7, 3) := by decide +kernel
theorem dX2_begin_67 : decode cX2_begin 67 = .ok (.iconst 1, 1) := by decide +kernel
theorem dX2_begin_68 : decode cX2_begin 68 = .ok (.goto 4, 3) := by decide +kernel
theorem dX2_begin_71 : decode cX2_begin 71 = .ok (.iconst 0, 1) := by decide +kernel
theorem dX2_begin_72 : decode cX2_begin 72 = .ok (.putfield 34, 3) := by decide +kernel
theorem dX2_begin_75 : decode cX2_begin 75 = .ok (.aload_n 0, 1) := by decide +kernel
theorem dX2_begin_76 : decode cX2_begin 76 = .ok (.iconst 0, 1) := by decide +kernel
theorem dX2_begin_77 : decode cX2_begin 77 = .ok (.putfield 37, 3) := by decide +kernel
theorem dX2_begin_80 : decode cX2_begin 80 = .ok (.return_, 1) := by decide +kernel
set_option maxRecDepth 20000 in
theorem ggX2_nextReason_X1_pagesToCome : GoodIn wsX2_nextReason wsX1_pagesToCome := goodIn_r _ [16, 17, 18, 48, 49, 50, 51, 52, 53, 54, 55, 56, 57, 58, 59, 60, 61] (by decide +kernel) (by decide +kernel)
set_option maxRecDepth 20000 in
theorem gX2_nextReason_X1_pagesToCome : GoodIn wsX2_nextReason (wsV RX2 68 RX1 yX1_pagesToCome wsX1_pagesToCome) := goodIn_app (goodIn_of _ (by decide +kernel)) ggX2_nextReason_X1_pagesToCome
set_option maxRecDepth 20000 in
theorem ggX2_nextReason_X1_sheetPages : GoodIn wsX2_nextReason wsX1_sheetPages := goodIn_r _ [22, 23, 24, 25, 26, 27, 28, 48, 49, 50, 51, 52, 53, 54, 55, 56, 57, 58, 59, 60, 61] (by decide +kernel) (by decide +kernel)
set_option maxRecDepth 20000 in
theorem gX2_nextReason_X1_sheetPages : GoodIn wsX2_nextReason (wsV RX2 76 RX1 yX1_sheetPages wsX1_sheetPages) := goodIn_app (goodIn_of _ (by decide +kernel)) ggX2_nextReason_X1_sheetPages
set_option maxRecDepth 20000 in
theorem ggX2_nextReason_X1_blackTonerFor : GoodIn wsX2_nextReason wsX1_blackTonerFor := goodIn_r _ [32, 33, 48, 49, 50, 51, 52, 53, 54, 55, 56, 57, 58, 59, 60, 61] (by decide +kernel) (by decide +kernel)
set_option maxRecDepth 20000 in
theorem gX2_nextReason_X1_blackTonerFor : GoodIn wsX2_nextReason (wsV RX2 80 RX1 yX1_blackTonerFor wsX1_blackTonerFor) := goodIn_app (goodIn_of _ (by decide +kernel)) ggX2_nextReason_X1_blackTonerFor
set_option maxRecDepth 20000 in
theorem ggX2_nextReason_X1_colourTonerFor : GoodIn wsX2_nextReason wsX1_colourTonerFor := goodIn_r _ [37, 33, 48, 49, 50, 51, 52, 53, 54, 55, 56, 57, 58, 59, 60, 61] (by decide +kernel) (by decide +kernel)
set_option maxRecDepth 20000 in
theorem gX2_nextReason_X1_colourTonerFor : GoodIn wsX2_nextReason (wsV RX2 86 RX1 yX1_colourTonerFor wsX1_colourTonerFor) := goodIn_app (goodIn_of _ (by decide +kernel)) ggX2_nextReason_X1_colourTonerFor
theorem dX2_nextReason_0 : decode cX2_nextReason 0 = .ok (.aload_n 0, 1) := by decide +kernel
theorem dX2_nextReason_1 : decode cX2_nextReason 1 = .ok (.getfield 22, 3) := by decide +kernel
theorem dX2_nextReason_4 : decode cX2_nextReason 4 = .ok (.aload_n 1, 1) := by decide +kernel
theorem dX2_nextReason_5 : decode cX2_nextReason 5 = .ok (.invokevirtual 68, 3) := by decide +kernel
theorem dX2_nextReason_8 : decode cX2_nextReason 8 = .ok (.if_icmp .lt 6, 3) := by decide +kernel
theorem dX2_nextReason_11 : decode cX2_nextReason 11 = .ok (.bipush 100, 2) := by decide +kernel
theorem dX2_nextReason_13 : decode cX2_nextReason 13 = .ok (.ireturn, 1) := by decide +kernel
theorem dX2_nextReason_14 : decode cX2_nextReason 14 = .ok (.aload_n 1, 1) := by decide +kernel
theorem dX2_nextReason_15 : decode cX2_nextReason 15 = .ok (.getfield 72, 3) := by decide +kernel
theorem dX2_nextReason_18 : decode cX2_nextReason 18 = .ok (.ifCond .eq 6, 3) := by decide +kernel
theorem dX2_nextReason_21 : decode cX2_nextReason 21 = .ok (.bipush 120, 2) := by decide +kernel
theorem dX2_nextReason_23 : decode cX2_nextReason 23 = .ok (.ireturn, 1) := by decide +kernel
theorem dX2_nextReason_24 : decode cX2_nextReason 24 = .ok (.aload_n 1, 1) := by decide +kernel
theorem dX2_nextReason_25 : decode cX2_nextReason 25 = .ok (.getfield 59, 3) := by decide +kernel
theorem dX2_nextReason_28 : decode cX2_nextReason 28 = .ok (.ifCond .eq 13, 3) := by decide +kernel
theorem dX2_nextReason_31 : decode cX2_nextReason 31 = .ok (.aload_n 2, 1) := by decide +kernel
theorem dX2_nextReason_32 : decode cX2_nextReason 32 = .ok (.getfield 75, 3) := by decide +kernel
theorem dX2_nextReason_35 : decode cX2_nextReason 35 = .ok (.ifCond .ne 6, 3) := by decide +kernel
theorem dX2_nextReason_38 : decode cX2_nextReason 38 = .ok (.bipush 110, 2) := by decide +kernel
theorem dX2_nextReason_40 : decode cX2_nextReason 40 = .ok (.ireturn, 1) := by decide +kernel
theorem dX2_nextReason_41 : decode cX2_nextReason 41 = .ok (.aload_n 0, 1) := by decide +kernel
theorem dX2_nextReason_42 : decode cX2_nextReason 42 = .ok (.getfield 9, 3) := by decide +kernel
theorem dX2_nextReason_45 : decode cX2_nextReason 45 = .ok (.ifCond .ne 6, 3) := by decide +kernel
theorem dX2_nextReason_48 : decode cX2_nextReason 48 = .ok (.bipush 107, 2) := by decide +kernel
theorem dX2_nextReason_50 : decode cX2_nextReason 50 = .ok (.ireturn, 1) := by decide +kernel
theorem dX2_nextReason_51 : decode cX2_nextReason 51 = .ok (.aload_n 0, 1) := by decide +kernel
theorem dX2_nextReason_52 : decode cX2_nextReason 52 = .ok (.getfield 25, 3) := by decide +kernel
theorem dX2_nextReason_55 : decode cX2_nextReason 55 = .ok (.aload_n 0, 1) := by decide +kernel
theorem dX2_nextReason_56 : decode cX2_nextReason 56 = .ok (.getfield 15, 3) := by decide +kernel
theorem dX2_nextReason_59 : decode cX2_nextReason 59 = .ok (.if_icmp .lt 6, 3) := by decide +kernel
theorem dX2_nextReason_62 : decode cX2_nextReason 62 = .ok (.bipush 112, 2) := by decide +kernel
theorem dX2_nextReason_64 : decode cX2_nextReason 64 = .ok (.ireturn, 1) := by decide +kernel
theorem dX2_nextReason_65 : decode cX2_nextReason 65 = .ok (.aload_n 0, 1) := by decide +kernel
theorem dX2_nextReason_66 : decode cX2_nextReason 66 = .ok (.getfield 22, 3) := by decide +kernel
theorem dX2_nextReason_69 : decode cX2_nextReason 69 = .ok (.aload_n 1, 1) := by decide +kernel
theorem dX2_nextReason_70 : decode cX2_nextReason 70 = .ok (.aload_n 0, 1) := by decide +kernel
theorem dX2_nextReason_71 : decode cX2_nextReason 71 = .ok (.getfield 28, 3) := by decide +kernel
theorem dX2_nextReason_74 : decode cX2_nextReason 74 = .ok (.invokevirtual 76, 3) := by decide +kernel
theorem dX2_nextReason_77 : decode cX2_nextReason 77 = .ok (.iadd, 1) := by decide +kernel
theorem dX2_nextReason_78 : decode cX2_nextReason 78 = .ok (.istore_n 3, 1) := by decide +kernel
theorem dX2_nextReason_79 : decode cX2_nextReason 79 = .ok (.aload_n 1, 1) := by decide +kernel
theorem dX2_nextReason_80 : decode cX2_nextReason 80 = .ok (.iload_n 3, 1) := by decide +kernel
theorem dX2_nextReason_81 : decode cX2_nextReason 81 = .ok (.invokevirtual 80, 3) := by decide +kernel
theorem dX2_nextReason_84 : decode cX2_nextReason 84 = .ok (.aload_n 2, 1) := by decide +kernel
theorem dX2_nextReason_85 : decode cX2_nextReason 85 = .ok (.getfield 83, 3) := by decide +kernel
theorem dX2_nextReason_88 : decode cX2_nextReason 88 = .ok (.if_icmp .le 6, 3) := by decide +kernel
theorem dX2_nextReason_91 : decode cX2_nextReason 91 = .ok (.bipush 116, 2) := by decide +kernel
theorem dX2_nextReason_93 : decode cX2_nextReason 93 = .ok (.ireturn, 1) := by decide +kernel
theorem dX2_nextReason_94 : decode cX2_nextReason 94 = .ok (.aload_n 1, 1) := by decide +kernel
theorem dX2_nextReason_95 : decode cX2_nextReason 95 = .ok (.iload_n 3, 1) := by decide +kernel
theorem dX2_nextReason_96 : decode cX2_nextReason 96 = .ok (.invokevirtual 86, 3) := by decide +kernel
theorem dX2_nextReason_99 : decode cX2_nextReason 99 = .ok (.aload_n 2, 1) := by decide +kernel
theorem dX2_nextReason_100 : decode cX2_nextReason 100 = .ok (.getfield 89, 3) := by decide +kernel
theorem dX2_nextReason_103 : decode cX2_nextReason 103 = .ok (.if_icmp .le 6, 3) := by decide +kernel
theorem dX2_nextReason_106 : decode cX2_nextReason 106 = .ok (.bipush 99, 2) := by decide +kernel
theorem dX2_nextReason_108 : decode cX2_nextReason 108 = .ok (.ireturn, 1) := by decide +kernel
theorem dX2_nextReason_109 : decode cX2_nextReason 109 = .ok (.iload_n 3, 1) := by decide +kernel
theorem dX2_nextReason_110 : decode cX2_nextReason 110 = .ok (.aload_n 0, 1) := by decide +kernel
theorem dX2_nextReason_111 : decode cX2_nextReason 111 = .ok (.getfield 19, 3) := by decide +kernel
theorem dX2_nextReason_114 : decode cX2_nextReason 114 = .ok (.if_icmp .le 8, 3) := by decide +kernel
theorem dX2_nextReason_117 : decode cX2_nextReason 117 = .ok (.bipush 113, 2) := by decide +kernel
theorem dX2_nextReason_119 : decode cX2_nextReason 119 = .ok (.goto 5, 3) := by decide +kernel
theorem dX2_nextReason_122 : decode cX2_nextReason 122 = .ok (.bipush 45, 2) := by decide +kernel
theorem dX2_nextReason_124 : decode cX2_nextReason 124 = .ok (.ireturn, 1) := by decide +kernel
set_option maxRecDepth 20000 in
theorem ggX2_addSheet_X1_sheetPages : GoodIn wsX2_addSheet wsX1_sheetPages := goodIn_r _ [12, 13, 14, 15, 16, 17, 18, 29, 30, 31, 32, 33, 34, 35, 36, 37, 38, 39, 40, 41, 42] (by decide +kernel) (by decide +kernel)
set_option maxRecDepth 20000 in
theorem gX2_addSheet_X1_sheetPages : GoodIn wsX2_addSheet (wsV RX2 76 RX1 yX1_sheetPages wsX1_sheetPages) := goodIn_app (goodIn_of _ (by decide +kernel)) ggX2_addSheet_X1_sheetPages
theorem dX2_addSheet_0 : decode cX2_addSheet 0 = .ok (.aload_n 1, 1) := by decide +kernel
theorem dX2_addSheet_1 : decode cX2_addSheet 1 = .ok (.aload_n 0, 1) := by decide +kernel
theorem dX2_addSheet_2 : decode cX2_addSheet 2 = .ok (.getfield 28, 3) := by decide +kernel
theorem dX2_addSheet_5 : decode cX2_addSheet 5 = .ok (.invokevirtual 76, 3) := by decide +kernel
theorem dX2_addSheet_8 : decode cX2_addSheet 8 = .ok (.istore_n 2, 1) := by decide +kernel
theorem dX2_addSheet_9 : decode cX2_addSheet 9 = .ok (.aload_n 0, 1) := by decide +kernel
theorem dX2_addSheet_10 : decode cX2_addSheet 10 = .ok (.dup, 1) := by decide +kernel
theorem dX2_addSheet_11 : decode cX2_addSheet 11 = .ok (.getfield 22, 3) := by decide +kernel
theorem dX2_addSheet_14 : decode cX2_addSheet 14 = .ok (.iload_n 2, 1) := by decide +kernel
theorem dX2_addSheet_15 : decode cX2_addSheet 15 = .ok (.iadd, 1) := by decide +kernel
theorem dX2_addSheet_16 : decode cX2_addSheet 16 = .ok (.putfield 22, 3) := by decide +kernel
theorem dX2_addSheet_19 : decode cX2_addSheet 19 = .ok (.aload_n 0, 1) := by decide +kernel
theorem dX2_addSheet_20 : decode cX2_addSheet 20 = .ok (.dup, 1) := by decide +kernel
theorem dX2_addSheet_21 : decode cX2_addSheet 21 = .ok (.getfield 25, 3) := by decide +kernel
theorem dX2_addSheet_24 : decode cX2_addSheet 24 = .ok (.iconst 1, 1) := by decide +kernel
theorem dX2_addSheet_25 : decode cX2_addSheet 25 = .ok (.iadd, 1) := by decide +kernel
theorem dX2_addSheet_26 : decode cX2_addSheet 26 = .ok (.putfield 25, 3) := by decide +kernel
theorem dX2_addSheet_29 : decode cX2_addSheet 29 = .ok (.aload_n 0, 1) := by decide +kernel
theorem dX2_addSheet_30 : decode cX2_addSheet 30 = .ok (.dup, 1) := by decide +kernel
theorem dX2_addSheet_31 : decode cX2_addSheet 31 = .ok (.getfield 28, 3) := by decide +kernel
theorem dX2_addSheet_34 : decode cX2_addSheet 34 = .ok (.iload_n 2, 1) := by decide +kernel
theorem dX2_addSheet_35 : decode cX2_addSheet 35 = .ok (.iadd, 1) := by decide +kernel
theorem dX2_addSheet_36 : decode cX2_addSheet 36 = .ok (.putfield 28, 3) := by decide +kernel
theorem dX2_addSheet_39 : decode cX2_addSheet 39 = .ok (.aload_n 0, 1) := by decide +kernel
theorem dX2_addSheet_40 : decode cX2_addSheet 40 = .ok (.dup, 1) := by decide +kernel
theorem dX2_addSheet_41 : decode cX2_addSheet 41 = .ok (.getfield 31, 3) := by decide +kernel
theorem dX2_addSheet_44 : decode cX2_addSheet 44 = .ok (.iconst 1, 1) := by decide +kernel
theorem dX2_addSheet_45 : decode cX2_addSheet 45 = .ok (.iadd, 1) := by decide +kernel
theorem dX2_addSheet_46 : decode cX2_addSheet 46 = .ok (.putfield 31, 3) := by decide +kernel
theorem dX2_addSheet_49 : decode cX2_addSheet 49 = .ok (.aload_n 0, 1) := by decide +kernel
theorem dX2_addSheet_50 : decode cX2_addSheet 50 = .ok (.getfield 28, 3) := by decide +kernel
theorem dX2_addSheet_53 : decode cX2_addSheet 53 = .ok (.aload_n 1, 1) := by decide +kernel
theorem dX2_addSheet_54 : decode cX2_addSheet 54 = .ok (.getfield 92, 3) := by decide +kernel
theorem dX2_addSheet_57 : decode cX2_addSheet 57 = .ok (.if_icmp .lt 43, 3) := by decide +kernel
theorem dX2_addSheet_60 : decode cX2_addSheet 60 = .ok (.aload_n 0, 1) := by decide +kernel
theorem dX2_addSheet_61 : decode cX2_addSheet 61 = .ok (.getfield 34, 3) := by decide +kernel
theorem dX2_addSheet_64 : decode cX2_addSheet 64 = .ok (.ifCond .eq 21, 3) := by decide +kernel
theorem dX2_addSheet_67 : decode cX2_addSheet 67 = .ok (.aload_n 0, 1) := by decide +kernel
theorem dX2_addSheet_68 : decode cX2_addSheet 68 = .ok (.getfield 31, 3) := by decide +kernel
theorem dX2_addSheet_71 : decode cX2_addSheet 71 = .ok (.iconst 2, 1) := by decide +kernel
theorem dX2_addSheet_72 : decode cX2_addSheet 72 = .ok (.if_icmp .lt 13, 3) := by decide +kernel
theorem dX2_addSheet_75 : decode cX2_addSheet 75 = .ok (.aload_n 0, 1) := by decide +kernel
theorem dX2_addSheet_76 : decode cX2_addSheet 76 = .ok (.dup, 1) := by decide +kernel
theorem dX2_addSheet_77 : decode cX2_addSheet 77 = .ok (.getfield 37, 3) := by decide +kernel
theorem dX2_addSheet_80 : decode cX2_addSheet 80 = .ok (.iconst 1, 1) := by decide +kernel
theorem dX2_addSheet_81 : decode cX2_addSheet 81 = .ok (.iadd, 1) := by decide +kernel
theorem dX2_addSheet_82 : decode cX2_addSheet 82 = .ok (.putfield 37, 3) := by decide +kernel
theorem dX2_addSheet_85 : decode cX2_addSheet 85 = .ok (.aload_n 0, 1) := by decide +kernel
theorem dX2_addSheet_86 : decode cX2_addSheet 86 = .ok (.iconst 0, 1) := by decide +kernel
theorem dX2_addSheet_87 : decode cX2_addSheet 87 = .ok (.putfield 28, 3) := by decide +kernel
theorem dX2_addSheet_90 : decode cX2_addSheet 90 = .ok (.aload_n 0, 1) := by decide +kernel
theorem dX2_addSheet_91 : decode cX2_addSheet 91 = .ok (.iconst 0, 1) := by decide +kernel
theorem dX2_addSheet_92 : decode cX2_addSheet 92 = .ok (.putfield 31, 3) := by decide +kernel
theorem dX2_addSheet_95 : decode cX2_addSheet 95 = .ok (.aload_n 0, 1) := by decide +kernel
theorem dX2_addSheet_96 : decode cX2_addSheet 96 = .ok (.iconst 1, 1) := by decide +kernel
theorem dX2_addSheet_97 : decode cX2_addSheet 97 = .ok (.putfield 34, 3) := by decide +kernel
theorem dX2_addSheet_100 : decode cX2_addSheet 100 = .ok (.return_, 1) := by decide +kernel
theorem dX3_init_0 : decode cX3_init 0 = .ok (.aload_n 0, 1) := by decide +kernel
theorem dX3_init_1 : decode cX3_init 1 = .ok (.invokespecial 3, 3) := by decide +kernel
theorem dX3_init_4 : decode cX3_init 4 = .ok (.aload_n 0, 1) := by decide +kernel
theorem dX3_init_5 : decode cX3_init 5 = .ok (.iconst 3, 1) := by decide +kernel
theorem dX3_init_6 : decode cX3_init 6 = .ok (.anewarray 9, 3) := by decide +kernel
theorem dX3_init_9 : decode cX3_init 9 = .ok (.putfield 11, 3) := by decide +kernel
theorem dX3_init_12 : decode cX3_init 12 = .ok (.aload_n 0, 1) := by decide +kernel
theorem dX3_init_13 : decode cX3_init 13 = .ok (.iconst 0, 1) := by decide +kernel
theorem dX3_init_14 : decode cX3_init 14 = .ok (.putfield 17, 3) := by decide +kernel
theorem dX3_init_17 : decode cX3_init 17 = .ok (.aload_n 0, 1) := by decide +kernel
theorem dX3_init_18 : decode cX3_init 18 = .ok (.iload_n 1, 1) := by decide +kernel
theorem dX3_init_19 : decode cX3_init 19 = .ok (.putfield 21, 3) := by decide +kernel
theorem dX3_init_22 : decode cX3_init 22 = .ok (.aload_n 0, 1) := by decide +kernel
theorem dX3_init_23 : decode cX3_init 23 = .ok (.iload_n 2, 1) := by decide +kernel
theorem dX3_init_24 : decode cX3_init 24 = .ok (.putfield 25, 3) := by decide +kernel
theorem dX3_init_27 : decode cX3_init 27 = .ok (.aload_n 0, 1) := by decide +kernel
theorem dX3_init_28 : decode cX3_init 28 = .ok (.iload_n 1, 1) := by decide +kernel
theorem dX3_init_29 : decode cX3_init 29 = .ok (.ifCond .eq 7, 3) := by decide +kernel
theorem dX3_init_32 : decode cX3_init 32 = .ok (.iload_n 2, 1) := by decide +kernel
theorem dX3_init_33 : decode cX3_init 33 = .ok (.goto 4, 3) := by decide +kernel
theorem dX3_init_36 : decode cX3_init 36 = .ok (.iconst 0, 1) := by decide +kernel
theorem dX3_init_37 : decode cX3_init 37 = .ok (.putfield 28, 3) := by decide +kernel
theorem dX3_init_40 : decode cX3_init 40 = .ok (.aload_n 0, 1) := by decide +kernel
theorem dX3_init_41 : decode cX3_init 41 = .ok (.iload_n 3, 1) := by decide +kernel
theorem dX3_init_42 : decode cX3_init 42 = .ok (.putfield 31, 3) := by decide +kernel
theorem dX3_init_45 : decode cX3_init 45 = .ok (.return_, 1) := by decide +kernel
theorem dX3_toner_0 : decode cX3_toner 0 = .ok (.iload_n 1, 1) := by decide +kernel
theorem dX3_toner_1 : decode cX3_toner 1 = .ok (.ifCond .eq 10, 3) := by decide +kernel
theorem dX3_toner_4 : decode cX3_toner 4 = .ok (.aload_n 0, 1) := by decide +kernel
theorem dX3_toner_5 : decode cX3_toner 5 = .ok (.getfield 28, 3) := by decide +kernel
theorem dX3_toner_8 : decode cX3_toner 8 = .ok (.goto 7, 3) := by decide +kernel
theorem dX3_toner_11 : decode cX3_toner 11 = .ok (.aload_n 0, 1) := by decide +kernel
theorem dX3_toner_12 : decode cX3_toner 12 = .ok (.getfield 25, 3) := by decide +kernel
theorem dX3_toner_15 : decode cX3_toner 15 = .ok (.ireturn, 1) := by decide +kernel
theorem dX3_hasTrayWith_0 : decode cX3_hasTrayWith 0 = .ok (.aload_n 0, 1) := by decide +kernel
theorem dX3_hasTrayWith_1 : decode cX3_hasTrayWith 1 = .ok (.getfield 11, 3) := by decide +kernel
theorem dX3_hasTrayWith_4 : decode cX3_hasTrayWith 4 = .ok (.astore_n 2, 1) := by decide +kernel
theorem dX3_hasTrayWith_5 : decode cX3_hasTrayWith 5 = .ok (.aload_n 2, 1) := by decide +kernel
theorem dX3_hasTrayWith_6 : decode cX3_hasTrayWith 6 = .ok (.arraylength, 1) := by decide +kernel
theorem dX3_hasTrayWith_7 : decode cX3_hasTrayWith 7 = .ok (.istore_n 3, 1) := by decide +kernel
theorem dX3_hasTrayWith_8 : decode cX3_hasTrayWith 8 = .ok (.iconst 0, 1) := by decide +kernel
theorem dX3_hasTrayWith_9 : decode cX3_hasTrayWith 9 = .ok (.istore 4, 2) := by decide +kernel
theorem dX3_hasTrayWith_11 : decode cX3_hasTrayWith 11 = .ok (.iload 4, 2) := by decide +kernel
theorem dX3_hasTrayWith_13 : decode cX3_hasTrayWith 13 = .ok (.iload_n 3, 1) := by decide +kernel
theorem dX3_hasTrayWith_14 : decode cX3_hasTrayWith 14 = .ok (.if_icmp .ge 31, 3) := by decide +kernel
theorem dX3_hasTrayWith_17 : decode cX3_hasTrayWith 17 = .ok (.aload_n 2, 1) := by decide +kernel
theorem dX3_hasTrayWith_18 : decode cX3_hasTrayWith 18 = .ok (.iload 4, 2) := by decide +kernel
theorem dX3_hasTrayWith_20 : decode cX3_hasTrayWith 20 = .ok (.aaload, 1) := by decide +kernel
theorem dX3_hasTrayWith_21 : decode cX3_hasTrayWith 21 = .ok (.astore 5, 2) := by decide +kernel
theorem dX3_hasTrayWith_23 : decode cX3_hasTrayWith 23 = .ok (.aload 5, 2) := by decide +kernel
theorem dX3_hasTrayWith_25 : decode cX3_hasTrayWith 25 = .ok (.ifnull 14, 3) := by decide +kernel
theorem dX3_hasTrayWith_28 : decode cX3_hasTrayWith 28 = .ok (.aload 5, 2) := by decide +kernel
theorem dX3_hasTrayWith_30 : decode cX3_hasTrayWith 30 = .ok (.getfield 34, 3) := by decide +kernel
theorem dX3_hasTrayWith_33 : decode cX3_hasTrayWith 33 = .ok (.iload_n 1, 1) := by decide +kernel
theorem dX3_hasTrayWith_34 : decode cX3_hasTrayWith 34 = .ok (.if_icmp .ne 5, 3) := by decide +kernel
theorem dX3_hasTrayWith_37 : decode cX3_hasTrayWith 37 = .ok (.iconst 1, 1) := by decide +kernel
theorem dX3_hasTrayWith_38 : decode cX3_hasTrayWith 38 = .ok (.ireturn, 1) := by decide +kernel
theorem dX3_hasTrayWith_39 : decode cX3_hasTrayWith 39 = .ok (.iinc 4 1, 3) := by decide +kernel
theorem dX3_hasTrayWith_42 : decode cX3_hasTrayWith 42 = .ok (.goto (-31), 3) := by decide +kernel
theorem dX3_hasTrayWith_45 : decode cX3_hasTrayWith 45 = .ok (.iconst 0, 1) := by decide +kernel
theorem dX3_hasTrayWith_46 : decode cX3_hasTrayWith 46 = .ok (.ireturn, 1) := by decide +kernel
theorem dX3_sheetsWith_0 : decode cX3_sheetsWith 0 = .ok (.iconst 0, 1) := by decide +kernel
theorem dX3_sheetsWith_1 : decode cX3_sheetsWith 1 = .ok (.istore_n 2, 1) := by decide +kernel
theorem dX3_sheetsWith_2 : decode cX3_sheetsWith 2 = .ok (.aload_n 0, 1) := by decide +kernel
theorem dX3_sheetsWith_3 : decode cX3_sheetsWith 3 = .ok (.getfield 11, 3) := by decide +kernel
theorem dX3_sheetsWith_6 : decode cX3_sheetsWith 6 = .ok (.astore_n 3, 1) := by decide +kernel
theorem dX3_sheetsWith_7 : decode cX3_sheetsWith 7 = .ok (.aload_n 3, 1) := by decide +kernel
theorem dX3_sheetsWith_8 : decode cX3_sheetsWith 8 = .ok (.arraylength, 1) := by decide +kernel
theorem dX3_sheetsWith_9 : decode cX3_sheetsWith 9 = .ok (.istore 4, 2) := by decide +kernel
theorem dX3_sheetsWith_11 : decode cX3_sheetsWith 11 = .ok (.iconst 0, 1) := by decide +kernel
theorem dX3_sheetsWith_12 : decode cX3_sheetsWith 12 = .ok (.istore 5, 2) := by decide +kernel
theorem dX3_sheetsWith_14 : decode cX3_sheetsWith 14 = .ok (.iload 5, 2) := by decide +kernel
theorem dX3_sheetsWith_16 : decode cX3_sheetsWith 16 = .ok (.iload 4, 2) := by decide +kernel
theorem dX3_sheetsWith_18 : decode cX3_sheetsWith 18 = .ok (.if_icmp .ge 37, 3) := by decide +kernel
theorem dX3_sheetsWith_21 : decode cX3_sheetsWith 21 = .ok (.aload_n 3, 1) := by decide +kernel
theorem dX3_sheetsWith_22 : decode cX3_sheetsWith 22 = .ok (.iload 5, 2) := by decide +kernel
theorem dX3_sheetsWith_24 : decode cX3_sheetsWith 24 = .ok (.aaload, 1) := by decide +kernel
theorem dX3_sheetsWith_25 : decode cX3_sheetsWith 25 = .ok (.astore 6, 2) := by decide +kernel
theorem dX3_sheetsWith_27 : decode cX3_sheetsWith 27 = .ok (.aload 6, 2) := by decide +kernel
theorem dX3_sheetsWith_29 : decode cX3_sheetsWith 29 = .ok (.ifnull 20, 3) := by decide +kernel
theorem dX3_sheetsWith_32 : decode cX3_sheetsWith 32 = .ok (.aload 6, 2) := by decide +kernel
theorem dX3_sheetsWith_34 : decode cX3_sheetsWith 34 = .ok (.getfield 34, 3) := by decide +kernel
theorem dX3_sheetsWith_37 : decode cX3_sheetsWith 37 = .ok (.iload_n 1, 1) := by decide +kernel
theorem dX3_sheetsWith_38 : decode cX3_sheetsWith 38 = .ok (.if_icmp .ne 11, 3) := by decide +kernel
theorem dX3_sheetsWith_41 : decode cX3_sheetsWith 41 = .ok (.iload_n 2, 1) := by decide +kernel
theorem dX3_sheetsWith_42 : decode cX3_sheetsWith 42 = .ok (.aload 6, 2) := by decide +kernel
theorem dX3_sheetsWith_44 : decode cX3_sheetsWith 44 = .ok (.getfield 38, 3) := by decide +kernel
theorem dX3_sheetsWith_47 : decode cX3_sheetsWith 47 = .ok (.iadd, 1) := by decide +kernel
theorem dX3_sheetsWith_48 : decode cX3_sheetsWith 48 = .ok (.istore_n 2, 1) := by decide +kernel
theorem dX3_sheetsWith_49 : decode cX3_sheetsWith 49 = .ok (.iinc 5 1, 3) := by decide +kernel
theorem dX3_sheetsWith_52 : decode cX3_sheetsWith 52 = .ok (.goto (-38), 3) := by decide +kernel
theorem dX3_sheetsWith_55 : decode cX3_sheetsWith 55 = .ok (.iload_n 2, 1) := by decide +kernel
theorem dX3_sheetsWith_56 : decode cX3_sheetsWith 56 = .ok (.ireturn, 1) := by decide +kernel
theorem dX3_takeSheets_0 : decode cX3_takeSheets 0 = .ok (.iload_n 2, 1) := by decide +kernel
theorem dX3_takeSheets_1 : decode cX3_takeSheets 1 = .ok (.istore_n 3, 1) := by decide +kernel
theorem dX3_takeSheets_2 : decode cX3_takeSheets 2 = .ok (.aload_n 0, 1) := by decide +kernel
theorem dX3_takeSheets_3 : decode cX3_takeSheets 3 = .ok (.getfield 11, 3) := by decide +kernel
theorem dX3_takeSheets_6 : decode cX3_takeSheets 6 = .ok (.astore 4, 2) := by decide +kernel
theorem dX3_takeSheets_8 : decode cX3_takeSheets 8 = .ok (.aload 4, 2) := by decide +kernel
theorem dX3_takeSheets_10 : decode cX3_takeSheets 10 = .ok (.arraylength, 1) := by decide +kernel
theorem dX3_takeSheets_11 : decode cX3_takeSheets 11 = .ok (.istore 5, 2) := by decide +kernel
theorem dX3_takeSheets_13 : decode cX3_takeSheets 13 = .ok (.iconst 0, 1) := by decide +kernel
theorem dX3_takeSheets_14 : decode cX3_takeSheets 14 = .ok (.istore 6, 2) := by decide +kernel
theorem dX3_takeSheets_16 : decode cX3_takeSheets 16 = .ok (.iload 6, 2) := by decide +kernel
theorem dX3_takeSheets_18 : decode cX3_takeSheets 18 = .ok (.iload 5, 2) := by decide +kernel
theorem dX3_takeSheets_20 : decode cX3_takeSheets 20 = .ok (.if_icmp .ge 58, 3) := by decide +kernel
theorem dX3_takeSheets_23 : decode cX3_takeSheets 23 = .ok (.aload 4, 2) := by decide +kernel
theorem dX3_takeSheets_25 : decode cX3_takeSheets 25 = .ok (.iload 6, 2) := by decide +kernel
theorem dX3_takeSheets_27 : decode cX3_takeSheets 27 = .ok (.aaload, 1) := by decide +kernel
theorem dX3_takeSheets_28 : decode cX3_takeSheets 28 = .ok (.astore 7, 2) := by decide +kernel
theorem dX3_takeSheets_30 : decode cX3_takeSheets 30 = .ok (.aload 7, 2) := by decide +kernel
theorem dX3_takeSheets_32 : decode cX3_takeSheets 32 = .ok (.ifnull 40, 3) := by decide +kernel
theorem dX3_takeSheets_35 : decode cX3_takeSheets 35 = .ok (.aload 7, 2) := by decide +kernel
theorem dX3_takeSheets_37 : decode cX3_takeSheets 37 = .ok (.getfield 34, 3) := by decide +kernel
theorem dX3_takeSheets_40 : decode cX3_takeSheets 40 = .ok (.iload_n 1, 1) := by decide +kernel
theorem dX3_takeSheets_41 : decode cX3_takeSheets 41 = .ok (.if_icmp .ne 31, 3) := by decide +kernel
theorem dX3_takeSheets_44 : decode cX3_takeSheets 44 = .ok (.iload_n 3, 1) := by decide +kernel
theorem dX3_takeSheets_45 : decode cX3_takeSheets 45 = .ok (.aload 7, 2) := by decide +kernel
theorem dX3_takeSheets_47 : decode cX3_takeSheets 47 = .ok (.getfield 38, 3) := by decide +kernel
theorem dX3_takeSheets_50 : decode cX3_takeSheets 50 = .ok (.invokestatic 41, 3) := by decide +kernel
theorem dX3_takeSheets_53 : decode cX3_takeSheets 53 = .ok (.istore 8, 2) := by decide +kernel
theorem dX3_takeSheets_55 : decode cX3_takeSheets 55 = .ok (.aload 7, 2) := by decide +kernel
theorem dX3_takeSheets_57 : decode cX3_takeSheets 57 = .ok (.dup, 1) := by decide +kernel
theorem dX3_takeSheets_58 : decode cX3_takeSheets 58 = .ok (.getfield 38, 3) := by decide +kernel
theorem dX3_takeSheets_61 : decode cX3_takeSheets 61 = .ok (.iload 8, 2) := by decide +kernel
theorem dX3_takeSheets_63 : decode cX3_takeSheets 63 = .ok (.isub, 1) := by decide +kernel
theorem dX3_takeSheets_64 : decode cX3_takeSheets 64 = .ok (.putfield 38, 3) := by decide +kernel
theorem dX3_takeSheets_67 : decode cX3_takeSheets 67 = .ok (.iload_n 3, 1) := by decide +kernel
theorem dX3_takeSheets_68 : decode cX3_takeSheets 68 = .ok (.iload 8, 2) := by decide +kernel
theorem dX3_takeSheets_70 : decode cX3_takeSheets 70 = .ok (.isub, 1) := by decide +kernel
theorem dX3_takeSheets_71 : decode cX3_takeSheets 71 = .ok (.istore_n 3, 1) := by decide +kernel
theorem dX3_takeSheets_72 : decode cX3_takeSheets 72 = .ok (.iinc 6 1, 3) := by decide +kernel
theorem dX3_takeSheets_75 : decode cX3_takeSheets 75 = .ok (.goto (-59), 3) := by decide +kernel
theorem dX3_takeSheets_78 : decode cX3_takeSheets 78 = .ok (.return_, 1) := by decide +kernel
theorem dX4_init_0 : decode cX4_init 0 = .ok (.aload_n 0, 1) := by decide +kernel
theorem dX4_init_1 : decode cX4_init 1 = .ok (.invokespecial 1, 3) := by decide +kernel
theorem dX4_init_4 : decode cX4_init 4 = .ok (.aload_n 0, 1) := by decide +kernel
theorem dX4_init_5 : decode cX4_init 5 = .ok (.iload_n 1, 1) := by decide +kernel
theorem dX4_init_6 : decode cX4_init 6 = .ok (.putfield 7, 3) := by decide +kernel
theorem dX4_init_9 : decode cX4_init 9 = .ok (.aload_n 0, 1) := by decide +kernel
theorem dX4_init_10 : decode cX4_init 10 = .ok (.iload_n 2, 1) := by decide +kernel
theorem dX4_init_11 : decode cX4_init 11 = .ok (.putfield 13, 3) := by decide +kernel
theorem dX4_init_14 : decode cX4_init 14 = .ok (.return_, 1) := by decide +kernel
theorem dX5_init_0 : decode cX5_init 0 = .ok (.aload_n 0, 1) := by decide +kernel
theorem dX5_init_1 : decode cX5_init 1 = .ok (.invokespecial 1, 3) := by decide +kernel
theorem dX5_init_4 : decode cX5_init 4 = .ok (.aload_n 0, 1) := by decide +kernel
theorem dX5_init_5 : decode cX5_init 5 = .ok (.iconst 0, 1) := by decide +kernel
theorem dX5_init_6 : decode cX5_init 6 = .ok (.putfield 7, 3) := by decide +kernel
theorem dX5_init_9 : decode cX5_init 9 = .ok (.aload_n 0, 1) := by decide +kernel
theorem dX5_init_10 : decode cX5_init 10 = .ok (.lconst 0, 1) := by decide +kernel
theorem dX5_init_11 : decode cX5_init 11 = .ok (.putfield 13, 3) := by decide +kernel
theorem dX5_init_14 : decode cX5_init 14 = .ok (.aload_n 0, 1) := by decide +kernel
theorem dX5_init_15 : decode cX5_init 15 = .ok (.iload_n 1, 1) := by decide +kernel
theorem dX5_init_16 : decode cX5_init 16 = .ok (.putfield 17, 3) := by decide +kernel
theorem dX5_init_19 : decode cX5_init 19 = .ok (.aload_n 0, 1) := by decide +kernel
theorem dX5_init_20 : decode cX5_init 20 = .ok (.iload_n 2, 1) := by decide +kernel
theorem dX5_init_21 : decode cX5_init 21 = .ok (.putfield 20, 3) := by decide +kernel
theorem dX5_init_24 : decode cX5_init 24 = .ok (.return_, 1) := by decide +kernel
theorem dX5_quota_0 : decode cX5_quota 0 = .ok (.iload_n 1, 1) := by decide +kernel
theorem dX5_quota_1 : decode cX5_quota 1 = .ok (.ifCond .eq 10, 3) := by decide +kernel
theorem dX5_quota_4 : decode cX5_quota 4 = .ok (.aload_n 0, 1) := by decide +kernel
theorem dX5_quota_5 : decode cX5_quota 5 = .ok (.getfield 20, 3) := by decide +kernel
theorem dX5_quota_8 : decode cX5_quota 8 = .ok (.goto 7, 3) := by decide +kernel
theorem dX5_quota_11 : decode cX5_quota 11 = .ok (.aload_n 0, 1) := by decide +kernel
theorem dX5_quota_12 : decode cX5_quota 12 = .ok (.getfield 17, 3) := by decide +kernel
theorem dX5_quota_15 : decode cX5_quota 15 = .ok (.ireturn, 1) := by decide +kernel
theorem dX5_addQuota_0 : decode cX5_addQuota 0 = .ok (.iload_n 1, 1) := by decide +kernel
theorem dX5_addQuota_1 : decode cX5_addQuota 1 = .ok (.ifCond .eq 16, 3) := by decide +kernel
theorem dX5_addQuota_4 : decode cX5_addQuota 4 = .ok (.aload_n 0, 1) := by decide +kernel
theorem dX5_addQuota_5 : decode cX5_addQuota 5 = .ok (.dup, 1) := by decide +kernel
theorem dX5_addQuota_6 : decode cX5_addQuota 6 = .ok (.getfield 20, 3) := by decide +kernel
theorem dX5_addQuota_9 : decode cX5_addQuota 9 = .ok (.iload_n 2, 1) := by decide +kernel
theorem dX5_addQuota_10 : decode cX5_addQuota 10 = .ok (.iadd, 1) := by decide +kernel
theorem dX5_addQuota_11 : decode cX5_addQuota 11 = .ok (.putfield 20, 3) := by decide +kernel
theorem dX5_addQuota_14 : decode cX5_addQuota 14 = .ok (.goto 13, 3) := by decide +kernel
theorem dX5_addQuota_17 : decode cX5_addQuota 17 = .ok (.aload_n 0, 1) := by decide +kernel
theorem dX5_addQuota_18 : decode cX5_addQuota 18 = .ok (.dup, 1) := by decide +kernel
theorem dX5_addQuota_19 : decode cX5_addQuota 19 = .ok (.getfield 17, 3) := by decide +kernel
theorem dX5_addQuota_22 : decode cX5_addQuota 22 = .ok (.iload_n 2, 1) := by decide +kernel
theorem dX5_addQuota_23 : decode cX5_addQuota 23 = .ok (.iadd, 1) := by decide +kernel
theorem dX5_addQuota_24 : decode cX5_addQuota 24 = .ok (.putfield 17, 3) := by decide +kernel
theorem dX5_addQuota_27 : decode cX5_addQuota 27 = .ok (.return_, 1) := by decide +kernel
set_option maxRecDepth 20000 in
theorem ggX6_init_Jx4a65c_init_da8c8 : GoodIn wsX6_init wsJx4a65c_init_da8c8 := goodIn_r _ [30, 31, 32, 33, 34, 35, 36, 37, 38, 39, 40, 41, 42, 2, 3, 88, 89, 90] (by decide +kernel) (by decide +kernel)
set_option maxRecDepth 20000 in
theorem gX6_init_Jx4a65c_init_da8c8 : GoodIn wsX6_init (wsJx4a65c_init_da8c8) := ggX6_init_Jx4a65c_init_da8c8
set_option maxRecDepth 20000 in
theorem ggX6_init_J4_init_da8c8 : GoodIn wsX6_init wsJ4_init_da8c8 := goodIn_r _ [45, 46, 47, 48, 49, 50, 2, 3, 51, 52, 53, 54, 55, 56, 57, 58, 59, 60, 61, 62, 91, 92, 93, 94] (by decide +kernel) (by decide +kernel)
set_option maxRecDepth 20000 in
theorem gX6_init_J4_init_da8c8 : GoodIn wsX6_init (wsJ4_init_da8c8) := ggX6_init_J4_init_da8c8
set_option maxRecDepth 20000 in
theorem ggX6_init_X2_init : GoodIn wsX6_init wsX2_init := goodIn_r _ [64, 65, 2, 3, 66, 67, 68, 69, 70, 71, 72, 73, 74, 75, 95, 96, 97, 98, 99, 100, 101, 102, 103, 104] (by decide +kernel) (by decide +kernel)
set_option maxRecDepth 20000 in
theorem gX6_init_X2_init_n62 : GoodIn wsX6_init (wsX2_init) := ggX6_init_X2_init
theorem dX6_init_0 : decode cX6_init 0 = .ok (.aload_n 0, 1) := by decide +kernel
theorem dX6_init_1 : decode cX6_init 1 = .ok (.invokespecial 1, 3) := by decide +kernel
theorem dX6_init_4 : decode cX6_init 4 = .ok (.aload_n 0, 1) := by decide +kernel
theorem dX6_init_5 : decode cX6_init 5 = .ok (.bipush 6, 2) := by decide +kernel
theorem dX6_init_7 : decode cX6_init 7 = .ok (.anewarray 9, 3) := by decide +kernel
theorem dX6_init_10 : decode cX6_init 10 = .ok (.putfield 11, 3) := by decide +kernel
theorem dX6_init_13 : decode cX6_init 13 = .ok (.aload_n 0, 1) := by decide +kernel
theorem dX6_init_14 : decode cX6_init 14 = .ok (.iconst 4, 1) := by decide +kernel
theorem dX6_init_15 : decode cX6_init 15 = .ok (.anewarray 15, 3) := by decide +kernel
theorem dX6_init_18 : decode cX6_init 18 = .ok (.putfield 17, 3) := by decide +kernel
theorem dX6_init_21 : decode cX6_init 21 = .ok (.aload_n 0, 1) := by decide +kernel
theorem dX6_init_22 : decode cX6_init 22 = .ok (.bipush 40, 2) := by decide +kernel
theorem dX6_init_24 : decode cX6_init 24 = .ok (.anewarray 21, 3) := by decide +kernel
theorem dX6_init_27 : decode cX6_init 27 = .ok (.putfield 23, 3) := by decide +kernel
theorem dX6_init_30 : decode cX6_init 30 = .ok (.aload_n 0, 1) := by decide +kernel
theorem dX6_init_31 : decode cX6_init 31 = .ok (.iconst 0, 1) := by decide +kernel
theorem dX6_init_32 : decode cX6_init 32 = .ok (.putfield 27, 3) := by decide +kernel
theorem dX6_init_35 : decode cX6_init 35 = .ok (.aload_n 0, 1) := by decide +kernel
theorem dX6_init_36 : decode cX6_init 36 = .ok (.iconst 0, 1) := by decide +kernel
theorem dX6_init_37 : decode cX6_init 37 = .ok (.putfield 31, 3) := by decide +kernel
theorem dX6_init_40 : decode cX6_init 40 = .ok (.aload_n 0, 1) := by decide +kernel
theorem dX6_init_41 : decode cX6_init 41 = .ok (.iconst 0, 1) := by decide +kernel
theorem dX6_init_42 : decode cX6_init 42 = .ok (.putfield 34, 3) := by decide +kernel
theorem dX6_init_45 : decode cX6_init 45 = .ok (.aload_n 0, 1) := by decide +kernel
theorem dX6_init_46 : decode cX6_init 46 = .ok (.iconst 2, 1) := by decide +kernel
theorem dX6_init_47 : decode cX6_init 47 = .ok (.putfield 37, 3) := by decide +kernel
theorem dX6_init_50 : decode cX6_init 50 = .ok (.aload_n 0, 1) := by decide +kernel
theorem dX6_init_51 : decode cX6_init 51 = .ok (.bipush 9, 2) := by decide +kernel
theorem dX6_init_53 : decode cX6_init 53 = .ok (.putfield 40, 3) := by decide +kernel
theorem dX6_init_56 : decode cX6_init 56 = .ok (.aload_n 0, 1) := by decide +kernel
theorem dX6_init_57 : decode cX6_init 57 = .ok (.iconst 1, 1) := by decide +kernel
theorem dX6_init_58 : decode cX6_init 58 = .ok (.putfield 43, 3) := by decide +kernel
theorem dX6_init_61 : decode cX6_init 61 = .ok (.aload_n 0, 1) := by decide +kernel
theorem dX6_init_62 : decode cX6_init 62 = .ok (.new 46, 3) := by decide +kernel
theorem dX6_init_65 : decode cX6_init 65 = .ok (.dup, 1) := by decide +kernel
theorem dX6_init_66 : decode cX6_init 66 = .ok (.invokespecial 48, 3) := by decide +kernel
theorem dX6_init_69 : decode cX6_init 69 = .ok (.putfield 49, 3) := by decide +kernel
theorem dX6_init_72 : decode cX6_init 72 = .ok (.aload_n 0, 1) := by decide +kernel
theorem dX6_init_73 : decode cX6_init 73 = .ok (.new 53, 3) := by decide +kernel
theorem dX6_init_76 : decode cX6_init 76 = .ok (.dup, 1) := by decide +kernel
theorem dX6_init_77 : decode cX6_init 77 = .ok (.invokespecial 55, 3) := by decide +kernel
theorem dX6_init_80 : decode cX6_init 80 = .ok (.putfield 56, 3) := by decide +kernel
theorem dX6_init_83 : decode cX6_init 83 = .ok (.aload_n 0, 1) := by decide +kernel
theorem dX6_init_84 : decode cX6_init 84 = .ok (.new 60, 3) := by decide +kernel
theorem dX6_init_87 : decode cX6_init 87 = .ok (.dup, 1) := by decide +kernel
theorem dX6_init_88 : decode cX6_init 88 = .ok (.invokespecial 62, 3) := by decide +kernel
theorem dX6_init_91 : decode cX6_init 91 = .ok (.putfield 63, 3) := by decide +kernel
theorem dX6_init_94 : decode cX6_init 94 = .ok (.return_, 1) := by decide +kernel
set_option maxRecDepth 20000 in
theorem ggX6_addUser_X6_checkRange : GoodIn wsX6_addUser wsX6_checkRange := goodIn_ca (goodIn_r _ [11, 12, 13] (by decide +kernel) (by decide +kernel)) (goodIn_sub (fun _ h => List.mem_cons_of_mem _ (List.mem_append_right _ h)) (by decide +kernel))
set_option maxRecDepth 20000 in
theorem gX6_addUser_X6_checkRange : GoodIn wsX6_addUser (va_wsS RX6 67 yX6_checkRange wsX6_checkRange) := goodIn_app (goodIn_of _ (by decide +kernel)) ggX6_addUser_X6_checkRange
set_option maxRecDepth 20000 in
theorem ggX6_addUser_X5_init : GoodIn wsX6_addUser wsX5_init := goodIn_r _ [16, 17, 18, 19, 20, 21, 22, 23, 36, 37, 38, 39] (by decide +kernel) (by decide +kernel)
set_option maxRecDepth 20000 in
theorem gX6_addUser_X5_init : GoodIn wsX6_addUser (wsX5_init) := ggX6_addUser_X5_init
theorem dX6_addUser_0 : decode cX6_addUser 0 = .ok (.iload_n 1, 1) := by decide +kernel
theorem dX6_addUser_1 : decode cX6_addUser 1 = .ok (.iconst 0, 1) := by decide +kernel
theorem dX6_addUser_2 : decode cX6_addUser 2 = .ok (.sipush 999, 3) := by decide +kernel
theorem dX6_addUser_5 : decode cX6_addUser 5 = .ok (.invokestatic 67, 3) := by decide +kernel
theorem dX6_addUser_8 : decode cX6_addUser 8 = .ok (.iload_n 2, 1) := by decide +kernel
theorem dX6_addUser_9 : decode cX6_addUser 9 = .ok (.iconst 0, 1) := by decide +kernel
theorem dX6_addUser_10 : decode cX6_addUser 10 = .ok (.sipush 999, 3) := by decide +kernel
theorem dX6_addUser_13 : decode cX6_addUser 13 = .ok (.invokestatic 67, 3) := by decide +kernel
theorem dX6_addUser_16 : decode cX6_addUser 16 = .ok (.aload_n 0, 1) := by decide +kernel
theorem dX6_addUser_17 : decode cX6_addUser 17 = .ok (.getfield 27, 3) := by decide +kernel
theorem dX6_addUser_20 : decode cX6_addUser 20 = .ok (.istore_n 3, 1) := by decide +kernel
theorem dX6_addUser_21 : decode cX6_addUser 21 = .ok (.iload_n 3, 1) := by decide +kernel
theorem dX6_addUser_22 : decode cX6_addUser 22 = .ok (.aload_n 0, 1) := by decide +kernel
theorem dX6_addUser_23 : decode cX6_addUser 23 = .ok (.getfield 11, 3) := by decide +kernel
theorem dX6_addUser_26 : decode cX6_addUser 26 = .ok (.arraylength, 1) := by decide +kernel
theorem dX6_addUser_27 : decode cX6_addUser 27 = .ok (.if_icmp .lt 13, 3) := by decide +kernel
theorem dX6_addUser_30 : decode cX6_addUser 30 = .ok (.new 71, 3) := by decide +kernel
theorem dX6_addUser_33 : decode cX6_addUser 33 = .ok (.dup, 1) := by decide +kernel
theorem dX6_addUser_34 : decode cX6_addUser 34 = .ok (.ldc 73, 2) := by decide +kernel
theorem dX6_addUser_36 : decode cX6_addUser 36 = .ok (.invokespecial 75, 3) := by decide +kernel
theorem dX6_addUser_39 : decode cX6_addUser 39 = .ok (.athrow, 1) := by decide +kernel
theorem dX6_addUser_40 : decode cX6_addUser 40 = .ok (.aload_n 0, 1) := by decide +kernel
theorem dX6_addUser_41 : decode cX6_addUser 41 = .ok (.getfield 11, 3) := by decide +kernel
theorem dX6_addUser_44 : decode cX6_addUser 44 = .ok (.iload_n 3, 1) := by decide +kernel
theorem dX6_addUser_45 : decode cX6_addUser 45 = .ok (.new 9, 3) := by decide +kernel
theorem dX6_addUser_48 : decode cX6_addUser 48 = .ok (.dup, 1) := by decide +kernel
theorem dX6_addUser_49 : decode cX6_addUser 49 = .ok (.iload_n 1, 1) := by decide +kernel
theorem dX6_addUser_50 : decode cX6_addUser 50 = .ok (.iload_n 2, 1) := by decide +kernel
theorem dX6_addUser_51 : decode cX6_addUser 51 = .ok (.invokespecial 78, 3) := by decide +kernel
theorem dX6_addUser_54 : decode cX6_addUser 54 = .ok (.aastore, 1) := by decide +kernel
theorem dX6_addUser_55 : decode cX6_addUser 55 = .ok (.aload_n 0, 1) := by decide +kernel
theorem dX6_addUser_56 : decode cX6_addUser 56 = .ok (.iload_n 3, 1) := by decide +kernel
theorem dX6_addUser_57 : decode cX6_addUser 57 = .ok (.iconst 1, 1) := by decide +kernel
theorem dX6_addUser_58 : decode cX6_addUser 58 = .ok (.iadd, 1) := by decide +kernel
theorem dX6_addUser_59 : decode cX6_addUser 59 = .ok (.putfield 27, 3) := by decide +kernel
theorem dX6_addUser_62 : decode cX6_addUser 62 = .ok (.iload_n 3, 1) := by decide +kernel
theorem dX6_addUser_63 : decode cX6_addUser 63 = .ok (.ireturn, 1) := by decide +kernel
set_option maxRecDepth 20000 in
theorem ggX6_addPrinter_X6_checkRange : GoodIn wsX6_addPrinter wsX6_checkRange := goodIn_ca (goodIn_r _ [11, 12, 13] (by decide +kernel) (by decide +kernel)) (goodIn_sub (fun _ h => List.mem_cons_of_mem _ (List.mem_append_right _ h)) (by decide +kernel))
set_option maxRecDepth 20000 in
theorem gX6_addPrinter_X6_checkRange : GoodIn wsX6_addPrinter (va_wsS RX6 67 yX6_checkRange wsX6_checkRange) := goodIn_app (goodIn_of _ (by decide +kernel)) ggX6_addPrinter_X6_checkRange
set_option maxRecDepth 20000 in
theorem ggX6_addPrinter_X3_init : GoodIn wsX6_addPrinter wsX3_init := goodIn_r _ [16, 17, 18, 19, 20, 21, 22, 23, 24, 25, 26, 39, 40, 41, 42, 43, 44] (by decide +kernel) (by decide +kernel)
set_option maxRecDepth 20000 in
theorem gX6_addPrinter_X3_init : GoodIn wsX6_addPrinter (wsX3_init) := ggX6_addPrinter_X3_init
theorem dX6_addPrinter_0 : decode cX6_addPrinter 0 = .ok (.iload_n 2, 1) := by decide +kernel
theorem dX6_addPrinter_1 : decode cX6_addPrinter 1 = .ok (.iconst 0, 1) := by decide +kernel
theorem dX6_addPrinter_2 : decode cX6_addPrinter 2 = .ok (.sipush 1000, 3) := by decide +kernel
theorem dX6_addPrinter_5 : decode cX6_addPrinter 5 = .ok (.invokestatic 67, 3) := by decide +kernel
theorem dX6_addPrinter_8 : decode cX6_addPrinter 8 = .ok (.iload_n 3, 1) := by decide +kernel
theorem dX6_addPrinter_9 : decode cX6_addPrinter 9 = .ok (.iconst 0, 1) := by decide +kernel
theorem dX6_addPrinter_10 : decode cX6_addPrinter 10 = .ok (.bipush 100, 2) := by decide +kernel
theorem dX6_addPrinter_12 : decode cX6_addPrinter 12 = .ok (.invokestatic 67, 3) := by decide +kernel
theorem dX6_addPrinter_15 : decode cX6_addPrinter 15 = .ok (.aload_n 0, 1) := by decide +kernel
theorem dX6_addPrinter_16 : decode cX6_addPrinter 16 = .ok (.getfield 31, 3) := by decide +kernel
theorem dX6_addPrinter_19 : decode cX6_addPrinter 19 = .ok (.istore 4, 2) := by decide +kernel
theorem dX6_addPrinter_21 : decode cX6_addPrinter 21 = .ok (.iload 4, 2) := by decide +kernel
theorem dX6_addPrinter_23 : decode cX6_addPrinter 23 = .ok (.aload_n 0, 1) := by decide +kernel
theorem dX6_addPrinter_24 : decode cX6_addPrinter 24 = .ok (.getfield 17, 3) := by decide +kernel
theorem dX6_addPrinter_27 : decode cX6_addPrinter 27 = .ok (.arraylength, 1) := by decide +kernel
theorem dX6_addPrinter_28 : decode cX6_addPrinter 28 = .ok (.if_icmp .lt 13, 3) := by decide +kernel
theorem dX6_addPrinter_31 : decode cX6_addPrinter 31 = .ok (.new 71, 3) := by decide +kernel
theorem dX6_addPrinter_34 : decode cX6_addPrinter 34 = .ok (.dup, 1) := by decide +kernel
theorem dX6_addPrinter_35 : decode cX6_addPrinter 35 = .ok (.ldc 81, 2) := by decide +kernel
theorem dX6_addPrinter_37 : decode cX6_addPrinter 37 = .ok (.invokespecial 75, 3) := by decide +kernel
theorem dX6_addPrinter_40 : decode cX6_addPrinter 40 = .ok (.athrow, 1) := by decide +kernel
theorem dX6_addPrinter_41 : decode cX6_addPrinter 41 = .ok (.aload_n 0, 1) := by decide +kernel
theorem dX6_addPrinter_42 : decode cX6_addPrinter 42 = .ok (.getfield 17, 3) := by decide +kernel
theorem dX6_addPrinter_45 : decode cX6_addPrinter 45 = .ok (.iload 4, 2) := by decide +kernel
theorem dX6_addPrinter_47 : decode cX6_addPrinter 47 = .ok (.new 15, 3) := by decide +kernel
theorem dX6_addPrinter_50 : decode cX6_addPrinter 50 = .ok (.dup, 1) := by decide +kernel
theorem dX6_addPrinter_51 : decode cX6_addPrinter 51 = .ok (.iload_n 1, 1) := by decide +kernel
theorem dX6_addPrinter_52 : decode cX6_addPrinter 52 = .ok (.iload_n 2, 1) := by decide +kernel
theorem dX6_addPrinter_53 : decode cX6_addPrinter 53 = .ok (.iload_n 3, 1) := by decide +kernel
theorem dX6_addPrinter_54 : decode cX6_addPrinter 54 = .ok (.invokespecial 83, 3) := by decide +kernel
theorem dX6_addPrinter_57 : decode cX6_addPrinter 57 = .ok (.aastore, 1) := by decide +kernel
theorem dX6_addPrinter_58 : decode cX6_addPrinter 58 = .ok (.aload_n 0, 1) := by decide +kernel
theorem dX6_addPrinter_59 : decode cX6_addPrinter 59 = .ok (.iload 4, 2) := by decide +kernel
theorem dX6_addPrinter_61 : decode cX6_addPrinter 61 = .ok (.iconst 1, 1) := by decide +kernel
theorem dX6_addPrinter_62 : decode cX6_addPrinter 62 = .ok (.iadd, 1) := by decide +kernel
theorem dX6_addPrinter_63 : decode cX6_addPrinter 63 = .ok (.putfield 31, 3) := by decide +kernel
theorem dX6_addPrinter_66 : decode cX6_addPrinter 66 = .ok (.iload 4, 2) := by decide +kernel
theorem dX6_addPrinter_68 : decode cX6_addPrinter 68 = .ok (.ireturn, 1) := by decide +kernel
set_option maxRecDepth 20000 in
theorem ggX6_addTray_X6_printerAt : GoodIn wsX6_addTray wsX6_printerAt := goodIn_ca (goodIn_r _ [12, 13, 14, 15, 40, 41, 42, 43, 44, 45, 46, 47, 48, 49, 50, 51] (by decide +kernel) (by decide +kernel)) (goodIn_sub (fun _ h => List.mem_cons_of_mem _ (List.mem_append_left _ (List.mem_append_right _ h))) (by decide +kernel))
set_option maxRecDepth 20000 in
theorem gX6_addTray_X6_printerAt : GoodIn wsX6_addTray (wsV RX6 86 RX6 yX6_printerAt wsX6_printerAt) := goodIn_app (goodIn_of _ (by decide +kernel)) ggX6_addTray_X6_printerAt
set_option maxRecDepth 20000 in
theorem ggX6_addTray_X6_checkPaper : GoodIn wsX6_addTray wsX6_checkPaper := goodIn_ca (goodIn_r _ [18, 19, 20] (by decide +kernel) (by decide +kernel)) (goodIn_sub (fun _ h => List.mem_cons_of_mem _ (List.mem_append_right _ h)) (by decide +kernel))
set_option maxRecDepth 20000 in
theorem gX6_addTray_X6_checkPaper : GoodIn wsX6_addTray (va_wsS RX6 90 yX6_checkPaper wsX6_checkPaper) := goodIn_app (goodIn_of _ (by decide +kernel)) ggX6_addTray_X6_checkPaper
set_option maxRecDepth 20000 in
theorem ggX6_addTray_X6_checkRange : GoodIn wsX6_addTray wsX6_checkRange := goodIn_ca (goodIn_r _ [23, 19, 20] (by decide +kernel) (by decide +kernel)) (goodIn_sub (fun _ h => List.mem_cons_of_mem _ (List.mem_append_right _ h)) (by decide +kernel))
set_option maxRecDepth 20000 in
theorem gX6_addTray_X6_checkRange : GoodIn wsX6_addTray (va_wsS RX6 67 yX6_checkRange wsX6_checkRange) := goodIn_app (goodIn_of _ (by decide +kernel)) ggX6_addTray_X6_checkRange
set_option maxRecDepth 20000 in
theorem ggX6_addTray_X4_init : GoodIn wsX6_addTray wsX4_init := goodIn_r _ [26, 27, 28, 29, 30, 31, 38, 39] (by decide +kernel) (by decide +kernel)
set_option maxRecDepth 20000 in
theorem gX6_addTray_X4_init : GoodIn wsX6_addTray (wsX4_init) := ggX6_addTray_X4_init
theorem dX6_addTray_0 : decode cX6_addTray 0 = .ok (.aload_n 0, 1) := by decide +kernel
theorem dX6_addTray_1 : decode cX6_addTray 1 = .ok (.iload_n 1, 1) := by decide +kernel
theorem dX6_addTray_2 : decode cX6_addTray 2 = .ok (.invokevirtual 86, 3) := by decide +kernel
theorem dX6_addTray_5 : decode cX6_addTray 5 = .ok (.astore 4, 2) := by decide +kernel
theorem dX6_addTray_7 : decode cX6_addTray 7 = .ok (.iload_n 2, 1) := by decide +kernel
theorem dX6_addTray_8 : decode cX6_addTray 8 = .ok (.invokestatic 90, 3) := by decide +kernel
theorem dX6_addTray_11 : decode cX6_addTray 11 = .ok (.iload_n 3, 1) := by decide +kernel
theorem dX6_addTray_12 : decode cX6_addTray 12 = .ok (.iconst 0, 1) := by decide +kernel
theorem dX6_addTray_13 : decode cX6_addTray 13 = .ok (.sipush 500, 3) := by decide +kernel
theorem dX6_addTray_16 : decode cX6_addTray 16 = .ok (.invokestatic 67, 3) := by decide +kernel
theorem dX6_addTray_19 : decode cX6_addTray 19 = .ok (.aload 4, 2) := by decide +kernel
theorem dX6_addTray_21 : decode cX6_addTray 21 = .ok (.getfield 94, 3) := by decide +kernel
theorem dX6_addTray_24 : decode cX6_addTray 24 = .ok (.istore 5, 2) := by decide +kernel
theorem dX6_addTray_26 : decode cX6_addTray 26 = .ok (.iload 5, 2) := by decide +kernel
theorem dX6_addTray_28 : decode cX6_addTray 28 = .ok (.aload 4, 2) := by decide +kernel
theorem dX6_addTray_30 : decode cX6_addTray 30 = .ok (.getfield 97, 3) := by decide +kernel
theorem dX6_addTray_33 : decode cX6_addTray 33 = .ok (.arraylength, 1) := by decide +kernel
theorem dX6_addTray_34 : decode cX6_addTray 34 = .ok (.if_icmp .lt 13, 3) := by decide +kernel
theorem dX6_addTray_37 : decode cX6_addTray 37 = .ok (.new 71, 3) := by decide +kernel
theorem dX6_addTray_40 : decode cX6_addTray 40 = .ok (.dup, 1) := by decide +kernel
theorem dX6_addTray_41 : decode cX6_addTray 41 = .ok (.ldc 101, 2) := by decide +kernel
theorem dX6_addTray_43 : decode cX6_addTray 43 = .ok (.invokespecial 75, 3) := by decide +kernel
theorem dX6_addTray_46 : decode cX6_addTray 46 = .ok (.athrow, 1) := by decide +kernel
theorem dX6_addTray_47 : decode cX6_addTray 47 = .ok (.aload 4, 2) := by decide +kernel
theorem dX6_addTray_49 : decode cX6_addTray 49 = .ok (.getfield 97, 3) := by decide +kernel
theorem dX6_addTray_52 : decode cX6_addTray 52 = .ok (.iload 5, 2) := by decide +kernel
theorem dX6_addTray_54 : decode cX6_addTray 54 = .ok (.new 103, 3) := by decide +kernel
theorem dX6_addTray_57 : decode cX6_addTray 57 = .ok (.dup, 1) := by decide +kernel
theorem dX6_addTray_58 : decode cX6_addTray 58 = .ok (.iload_n 2, 1) := by decide +kernel
theorem dX6_addTray_59 : decode cX6_addTray 59 = .ok (.iload_n 3, 1) := by decide +kernel
theorem dX6_addTray_60 : decode cX6_addTray 60 = .ok (.invokespecial 105, 3) := by decide +kernel
theorem dX6_addTray_63 : decode cX6_addTray 63 = .ok (.aastore, 1) := by decide +kernel
theorem dX6_addTray_64 : decode cX6_addTray 64 = .ok (.aload 4, 2) := by decide +kernel
theorem dX6_addTray_66 : decode cX6_addTray 66 = .ok (.iload 5, 2) := by decide +kernel
theorem dX6_addTray_68 : decode cX6_addTray 68 = .ok (.iconst 1, 1) := by decide +kernel
theorem dX6_addTray_69 : decode cX6_addTray 69 = .ok (.iadd, 1) := by decide +kernel
theorem dX6_addTray_70 : decode cX6_addTray 70 = .ok (.putfield 94, 3) := by decide +kernel
theorem dX6_addTray_73 : decode cX6_addTray 73 = .ok (.iload 5, 2) := by decide +kernel
theorem dX6_addTray_75 : decode cX6_addTray 75 = .ok (.ireturn, 1) := by decide +kernel
set_option maxRecDepth 20000 in
theorem ggX6_trayCount_X6_printerAt : GoodIn wsX6_trayCount wsX6_printerAt := goodIn_ca (goodIn_r _ [6, 7, 8, 9, 16, 17, 18, 19, 20, 21, 22, 23, 24, 25, 26, 27] (by decide +kernel) (by decide +kernel)) (goodIn_sub (fun _ h => List.mem_cons_of_mem _ (List.mem_append_right _ h)) (by decide +kernel))
set_option maxRecDepth 20000 in
theorem gX6_trayCount_X6_printerAt : GoodIn wsX6_trayCount (wsV RX6 86 RX6 yX6_printerAt wsX6_printerAt) := goodIn_app (goodIn_of _ (by decide +kernel)) ggX6_trayCount_X6_printerAt
theorem dX6_trayCount_0 : decode cX6_trayCount 0 = .ok (.aload_n 0, 1) := by decide +kernel
theorem dX6_trayCount_1 : decode cX6_trayCount 1 = .ok (.iload_n 1, 1) := by decide +kernel
theorem dX6_trayCount_2 : decode cX6_trayCount 2 = .ok (.invokevirtual 86, 3) := by decide +kernel
theorem dX6_trayCount_5 : decode cX6_trayCount 5 = .ok (.getfield 94, 3) := by decide +kernel
theorem dX6_trayCount_8 : decode cX6_trayCount 8 = .ok (.ireturn, 1) := by decide +kernel
set_option maxRecDepth 20000 in
theorem ggX6_load_X6_trayAt : GoodIn wsX6_load wsX6_trayAt := goodIn_ca (goodIn_r _ [8, 9, 10, 11, 12, 13, 14, 7, 15, 16, 24, 25, 26, 27, 28, 29, 30, 31, 32, 33, 34, 35, 36, 37, 38, 39, 40, 41] (by decide +kernel) (by decide +kernel)) (goodIn_sub (fun _ h => List.mem_cons_of_mem _ (List.mem_append_left _ (List.mem_append_right _ h))) (by decide +kernel))
set_option maxRecDepth 20000 in
theorem gX6_load_X6_trayAt : GoodIn wsX6_load (wsV RX6 108 RX6 yX6_trayAt wsX6_trayAt) := goodIn_app (goodIn_of _ (by decide +kernel)) ggX6_load_X6_trayAt
set_option maxRecDepth 20000 in
theorem ggX6_load_X6_checkRange : GoodIn wsX6_load wsX6_checkRange := goodIn_ca (goodIn_r _ [19, 20, 21] (by decide +kernel) (by decide +kernel)) (goodIn_sub (fun _ h => List.mem_cons_of_mem _ (List.mem_append_right _ h)) (by decide +kernel))
set_option maxRecDepth 20000 in
theorem gX6_load_X6_checkRange : GoodIn wsX6_load (va_wsS RX6 67 yX6_checkRange wsX6_checkRange) := goodIn_app (goodIn_of _ (by decide +kernel)) ggX6_load_X6_checkRange
theorem dX6_load_0 : decode cX6_load 0 = .ok (.aload_n 0, 1) := by decide +kernel
theorem dX6_load_1 : decode cX6_load 1 = .ok (.iload_n 1, 1) := by decide +kernel
theorem dX6_load_2 : decode cX6_load 2 = .ok (.iload_n 2, 1) := by decide +kernel
theorem dX6_load_3 : decode cX6_load 3 = .ok (.invokevirtual 108, 3) := by decide +kernel
theorem dX6_load_6 : decode cX6_load 6 = .ok (.astore 4, 2) := by decide +kernel
theorem dX6_load_8 : decode cX6_load 8 = .ok (.iload_n 3, 1) := by decide +kernel
theorem dX6_load_9 : decode cX6_load 9 = .ok (.iconst 1, 1) := by decide +kernel
theorem dX6_load_10 : decode cX6_load 10 = .ok (.sipush 500, 3) := by decide +kernel
theorem dX6_load_13 : decode cX6_load 13 = .ok (.invokestatic 67, 3) := by decide +kernel
theorem dX6_load_16 : decode cX6_load 16 = .ok (.aload 4, 2) := by decide +kernel
theorem dX6_load_18 : decode cX6_load 18 = .ok (.getfield 112, 3) := by decide +kernel
theorem dX6_load_21 : decode cX6_load 21 = .ok (.iload_n 3, 1) := by decide +kernel
theorem dX6_load_22 : decode cX6_load 22 = .ok (.iadd, 1) := by decide +kernel
theorem dX6_load_23 : decode cX6_load 23 = .ok (.sipush 500, 3) := by decide +kernel
theorem dX6_load_26 : decode cX6_load 26 = .ok (.if_icmp .le 13, 3) := by decide +kernel
theorem dX6_load_29 : decode cX6_load 29 = .ok (.new 71, 3) := by decide +kernel
theorem dX6_load_32 : decode cX6_load 32 = .ok (.dup, 1) := by decide +kernel
theorem dX6_load_33 : decode cX6_load 33 = .ok (.ldc 115, 2) := by decide +kernel
theorem dX6_load_35 : decode cX6_load 35 = .ok (.invokespecial 75, 3) := by decide +kernel
theorem dX6_load_38 : decode cX6_load 38 = .ok (.athrow, 1) := by decide +kernel
theorem dX6_load_39 : decode cX6_load 39 = .ok (.aload 4, 2) := by decide +kernel
theorem dX6_load_41 : decode cX6_load 41 = .ok (.dup, 1) := by decide +kernel
theorem dX6_load_42 : decode cX6_load 42 = .ok (.getfield 112, 3) := by decide +kernel
theorem dX6_load_45 : decode cX6_load 45 = .ok (.iload_n 3, 1) := by decide +kernel
theorem dX6_load_46 : decode cX6_load 46 = .ok (.iadd, 1) := by decide +kernel
theorem dX6_load_47 : decode cX6_load 47 = .ok (.putfield 112, 3) := by decide +kernel
theorem dX6_load_50 : decode cX6_load 50 = .ok (.aload 4, 2) := by decide +kernel
theorem dX6_load_52 : decode cX6_load 52 = .ok (.getfield 112, 3) := by decide +kernel
theorem dX6_load_55 : decode cX6_load 55 = .ok (.ireturn, 1) := by decide +kernel
set_option maxRecDepth 20000 in
theorem ggX6_changePaper_X6_trayAt : GoodIn wsX6_changePaper wsX6_trayAt := goodIn_ca (goodIn_r _ [9, 10, 11, 12, 13, 14, 15, 8, 16, 17, 25, 26, 27, 28, 29, 30, 31, 32, 33, 34, 35, 36, 37, 38, 39, 40, 41, 42] (by decide +kernel) (by decide +kernel)) (goodIn_sub (fun _ h => List.mem_cons_of_mem _ (List.mem_append_left _ (List.mem_append_right _ h))) (by decide +kernel))
set_option maxRecDepth 20000 in
theorem gX6_changePaper_X6_trayAt : GoodIn wsX6_changePaper (wsV RX6 108 RX6 yX6_trayAt wsX6_trayAt) := goodIn_app (goodIn_of _ (by decide +kernel)) ggX6_changePaper_X6_trayAt
set_option maxRecDepth 20000 in
theorem ggX6_changePaper_X6_checkPaper : GoodIn wsX6_changePaper wsX6_checkPaper := goodIn_ca (goodIn_r _ [20, 21, 22] (by decide +kernel) (by decide +kernel)) (goodIn_sub (fun _ h => List.mem_cons_of_mem _ (List.mem_append_right _ h)) (by decide +kernel))
set_option maxRecDepth 20000 in
theorem gX6_changePaper_X6_checkPaper : GoodIn wsX6_changePaper (va_wsS RX6 90 yX6_checkPaper wsX6_checkPaper) := goodIn_app (goodIn_of _ (by decide +kernel)) ggX6_changePaper_X6_checkPaper
theorem dX6_changePaper_0 : decode cX6_changePaper 0 = .ok (.aload_n 0, 1) := by decide +kernel
theorem dX6_changePaper_1 : decode cX6_changePaper 1 = .ok (.iload_n 1, 1) := by decide +kernel
theorem dX6_changePaper_2 : decode cX6_changePaper 2 = .ok (.iload_n 2, 1) := by decide +kernel
theorem dX6_changePaper_3 : decode cX6_changePaper 3 = .ok (.invokevirtual 108, 3) := by decide +kernel
theorem dX6_changePaper_6 : decode cX6_changePaper 6 = .ok (.astore 4, 2) := by decide +kernel
theorem dX6_changePaper_8 : decode cX6_changePaper 8 = .ok (.iload_n 3, 1) := by decide +kernel
theorem dX6_changePaper_9 : decode cX6_changePaper 9 = .ok (.invokestatic 90, 3) := by decide +kernel
theorem dX6_changePaper_12 : decode cX6_changePaper 12 = .ok (.aload 4, 2) := by decide +kernel
theorem dX6_changePaper_14 : decode cX6_changePaper 14 = .ok (.getfield 112, 3) := by decide +kernel
theorem dX6_changePaper_17 : decode cX6_changePaper 17 = .ok (.ifCond .le 13, 3) := by decide +kernel
theorem dX6_changePaper_20 : decode cX6_changePaper 20 = .ok (.new 71, 3) := by decide +kernel
theorem dX6_changePaper_23 : decode cX6_changePaper 23 = .ok (.dup, 1) := by decide +kernel
theorem dX6_changePaper_24 : decode cX6_changePaper 24 = .ok (.ldc 117, 2) := by decide +kernel
theorem dX6_changePaper_26 : decode cX6_changePaper 26 = .ok (.invokespecial 75, 3) := by decide +kernel
theorem dX6_changePaper_29 : decode cX6_changePaper 29 = .ok (.athrow, 1) := by decide +kernel
theorem dX6_changePaper_30 : decode cX6_changePaper 30 = .ok (.aload 4, 2) := by decide +kernel
theorem dX6_changePaper_32 : decode cX6_changePaper 32 = .ok (.getfield 119, 3) := by decide +kernel
theorem dX6_changePaper_35 : decode cX6_changePaper 35 = .ok (.istore 5, 2) := by decide +kernel
theorem dX6_changePaper_37 : decode cX6_changePaper 37 = .ok (.aload 4, 2) := by decide +kernel
theorem dX6_changePaper_39 : decode cX6_changePaper 39 = .ok (.iload_n 3, 1) := by decide +kernel
theorem dX6_changePaper_40 : decode cX6_changePaper 40 = .ok (.putfield 119, 3) := by decide +kernel
theorem dX6_changePaper_43 : decode cX6_changePaper 43 = .ok (.iload 5, 2) := by decide +kernel
theorem dX6_changePaper_45 : decode cX6_changePaper 45 = .ok (.ireturn, 1) := by decide +kernel
set_option maxRecDepth 20000 in
theorem ggX6_sheetsIn_X6_trayAt : GoodIn wsX6_sheetsIn wsX6_trayAt := goodIn_ca (goodIn_r _ [6, 7, 8, 9, 10, 11, 12, 5, 13, 14, 17, 18, 19, 20, 21, 22, 23, 24, 25, 26, 27, 28, 29, 30, 31, 32, 33, 34] (by decide +kernel) (by decide +kernel)) (goodIn_sub (fun _ h => List.mem_cons_of_mem _ (List.mem_append_right _ h)) (by decide +kernel))
set_option maxRecDepth 20000 in
theorem gX6_sheetsIn_X6_trayAt : GoodIn wsX6_sheetsIn (wsV RX6 108 RX6 yX6_trayAt wsX6_trayAt) := goodIn_app (goodIn_of _ (by decide +kernel)) ggX6_sheetsIn_X6_trayAt
theorem dX6_sheetsIn_0 : decode cX6_sheetsIn 0 = .ok (.aload_n 0, 1) := by decide +kernel
theorem dX6_sheetsIn_1 : decode cX6_sheetsIn 1 = .ok (.iload_n 1, 1) := by decide +kernel
theorem dX6_sheetsIn_2 : decode cX6_sheetsIn 2 = .ok (.iload_n 2, 1) := by decide +kernel
theorem dX6_sheetsIn_3 : decode cX6_sheetsIn 3 = .ok (.invokevirtual 108, 3) := by decide +kernel
theorem dX6_sheetsIn_6 : decode cX6_sheetsIn 6 = .ok (.getfield 112, 3) := by decide +kernel
theorem dX6_sheetsIn_9 : decode cX6_sheetsIn 9 = .ok (.ireturn, 1) := by decide +kernel
set_option maxRecDepth 20000 in
theorem ggX6_paperOf_X6_trayAt : GoodIn wsX6_paperOf wsX6_trayAt := goodIn_ca (goodIn_r _ [6, 7, 8, 9, 10, 11, 12, 5, 13, 14, 17, 18, 19, 20, 21, 22, 23, 24, 25, 26, 27, 28, 29, 30, 31, 32, 33, 34] (by decide +kernel) (by decide +kernel)) (goodIn_sub (fun _ h => List.mem_cons_of_mem _ (List.mem_append_right _ h)) (by decide +kernel))
set_option maxRecDepth 20000 in
theorem gX6_paperOf_X6_trayAt : GoodIn wsX6_paperOf (wsV RX6 108 RX6 yX6_trayAt wsX6_trayAt) := goodIn_app (goodIn_of _ (by decide +kernel)) ggX6_paperOf_X6_trayAt
theorem dX6_paperOf_0 : decode cX6_paperOf 0 = .ok (.aload_n 0, 1) := by decide +kernel
theorem dX6_paperOf_1 : decode cX6_paperOf 1 = .ok (.iload_n 1, 1) := by decide +kernel
theorem dX6_paperOf_2 : decode cX6_paperOf 2 = .ok (.iload_n 2, 1) := by decide +kernel
theorem dX6_paperOf_3 : decode cX6_paperOf 3 = .ok (.invokevirtual 108, 3) := by decide +kernel
theorem dX6_paperOf_6 : decode cX6_paperOf 6 = .ok (.getfield 119, 3) := by decide +kernel
theorem dX6_paperOf_9 : decode cX6_paperOf 9 = .ok (.ireturn, 1) := by decide +kernel
set_option maxRecDepth 20000 in
theorem ggX6_setToner_X6_printerAt : GoodIn wsX6_setToner wsX6_printerAt := goodIn_ca (goodIn_r _ [7, 8, 9, 10, 35, 36, 37, 38, 39, 40, 41, 42, 43, 44, 45, 46] (by decide +kernel) (by decide +kernel)) (goodIn_sub (fun _ h => List.mem_cons_of_mem _ (List.mem_append_left _ (List.mem_append_left _ (List.mem_append_right _ h)))) (by decide +kernel))
set_option maxRecDepth 20000 in
theorem gX6_setToner_X6_printerAt : GoodIn wsX6_setToner (wsV RX6 86 RX6 yX6_printerAt wsX6_printerAt) := goodIn_app (goodIn_of _ (by decide +kernel)) ggX6_setToner_X6_printerAt
set_option maxRecDepth 20000 in
theorem ggX6_setToner_X6_checkRange : GoodIn wsX6_setToner wsX6_checkRange := goodIn_ca (goodIn_r _ [13, 14, 15] (by decide +kernel) (by decide +kernel)) (goodIn_sub (fun _ h => List.mem_cons_of_mem _ (List.mem_append_left _ (List.mem_append_right _ h))) (by decide +kernel))
set_option maxRecDepth 20000 in
theorem gX6_setToner_X6_checkRange : GoodIn wsX6_setToner (va_wsS RX6 67 yX6_checkRange wsX6_checkRange) := goodIn_app (goodIn_of _ (by decide +kernel)) ggX6_setToner_X6_checkRange
set_option maxRecDepth 20000 in
theorem ggX6_setToner_X6_checkHasToner : GoodIn wsX6_setToner wsX6_checkHasToner := goodIn_ca (goodIn_r _ [18, 19, 20, 21, 29, 30, 31, 32, 33, 34] (by decide +kernel) (by decide +kernel)) (goodIn_sub (fun _ h => List.mem_cons_of_mem _ (List.mem_append_right _ h)) (by decide +kernel))
set_option maxRecDepth 20000 in
theorem gX6_setToner_X6_checkHasToner : GoodIn wsX6_setToner (va_wsS RX6 123 yX6_checkHasToner wsX6_checkHasToner) := goodIn_app (goodIn_of _ (by decide +kernel)) ggX6_setToner_X6_checkHasToner
set_option maxRecDepth 20000 in
theorem ggX6_setToner_X3_toner : GoodIn wsX6_setToner wsX3_toner := goodIn_r _ [26, 27, 28, 29, 30, 31, 32, 33, 34] (by decide +kernel) (by decide +kernel)
set_option maxRecDepth 20000 in
theorem gX6_setToner_X3_toner : GoodIn wsX6_setToner (wsV RX6 127 RX3 yX3_toner wsX3_toner) := goodIn_app (goodIn_of _ (by decide +kernel)) ggX6_setToner_X3_toner
theorem dX6_setToner_0 : decode cX6_setToner 0 = .ok (.aload_n 0, 1) := by decide +kernel
theorem dX6_setToner_1 : decode cX6_setToner 1 = .ok (.iload_n 1, 1) := by decide +kernel
theorem dX6_setToner_2 : decode cX6_setToner 2 = .ok (.invokevirtual 86, 3) := by decide +kernel
theorem dX6_setToner_5 : decode cX6_setToner 5 = .ok (.astore 4, 2) := by decide +kernel
theorem dX6_setToner_7 : decode cX6_setToner 7 = .ok (.iload_n 3, 1) := by decide +kernel
theorem dX6_setToner_8 : decode cX6_setToner 8 = .ok (.iconst 0, 1) := by decide +kernel
theorem dX6_setToner_9 : decode cX6_setToner 9 = .ok (.sipush 1000, 3) := by decide +kernel
theorem dX6_setToner_12 : decode cX6_setToner 12 = .ok (.invokestatic 67, 3) := by decide +kernel
theorem dX6_setToner_15 : decode cX6_setToner 15 = .ok (.aload 4, 2) := by decide +kernel
theorem dX6_setToner_17 : decode cX6_setToner 17 = .ok (.iload_n 2, 1) := by decide +kernel
theorem dX6_setToner_18 : decode cX6_setToner 18 = .ok (.invokestatic 123, 3) := by decide +kernel
theorem dX6_setToner_21 : decode cX6_setToner 21 = .ok (.aload 4, 2) := by decide +kernel
theorem dX6_setToner_23 : decode cX6_setToner 23 = .ok (.iload_n 2, 1) := by decide +kernel
theorem dX6_setToner_24 : decode cX6_setToner 24 = .ok (.invokevirtual 127, 3) := by decide +kernel
theorem dX6_setToner_27 : decode cX6_setToner 27 = .ok (.istore 5, 2) := by decide +kernel
theorem dX6_setToner_29 : decode cX6_setToner 29 = .ok (.iload_n 2, 1) := by decide +kernel
theorem dX6_setToner_30 : decode cX6_setToner 30 = .ok (.ifCond .eq 12, 3) := by decide +kernel
theorem dX6_setToner_33 : decode cX6_setToner 33 = .ok (.aload 4, 2) := by decide +kernel
theorem dX6_setToner_35 : decode cX6_setToner 35 = .ok (.iload_n 3, 1) := by decide +kernel
theorem dX6_setToner_36 : decode cX6_setToner 36 = .ok (.putfield 131, 3) := by decide +kernel
theorem dX6_setToner_39 : decode cX6_setToner 39 = .ok (.goto 9, 3) := by decide +kernel
theorem dX6_setToner_42 : decode cX6_setToner 42 = .ok (.aload 4, 2) := by decide +kernel
theorem dX6_setToner_44 : decode cX6_setToner 44 = .ok (.iload_n 3, 1) := by decide +kernel
theorem dX6_setToner_45 : decode cX6_setToner 45 = .ok (.putfield 134, 3) := by decide +kernel
theorem dX6_setToner_48 : decode cX6_setToner 48 = .ok (.iload 5, 2) := by decide +kernel
theorem dX6_setToner_50 : decode cX6_setToner 50 = .ok (.ireturn, 1) := by decide +kernel
set_option maxRecDepth 20000 in
theorem ggX6_tonerOf_X6_printerAt : GoodIn wsX6_tonerOf wsX6_printerAt := goodIn_ca (goodIn_r _ [5, 6, 7, 8, 22, 23, 24, 25, 26, 27, 28, 29, 30, 31, 32, 33] (by decide +kernel) (by decide +kernel)) (goodIn_sub (fun _ h => List.mem_cons_of_mem _ (List.mem_append_left _ (List.mem_append_right _ h))) (by decide +kernel))
set_option maxRecDepth 20000 in
theorem gX6_tonerOf_X6_printerAt : GoodIn wsX6_tonerOf (wsV RX6 86 RX6 yX6_printerAt wsX6_printerAt) := goodIn_app (goodIn_of _ (by decide +kernel)) ggX6_tonerOf_X6_printerAt
set_option maxRecDepth 20000 in
theorem ggX6_tonerOf_X6_checkHasToner : GoodIn wsX6_tonerOf wsX6_checkHasToner := goodIn_ca (goodIn_r _ [11, 12, 13, 14, 34, 35, 36, 37, 38, 39] (by decide +kernel) (by decide +kernel)) (goodIn_sub (fun _ h => List.mem_cons_of_mem _ (List.mem_append_right _ h)) (by decide +kernel))
set_option maxRecDepth 20000 in
theorem gX6_tonerOf_X6_checkHasToner : GoodIn wsX6_tonerOf (va_wsS RX6 123 yX6_checkHasToner wsX6_checkHasToner) := goodIn_app (goodIn_of _ (by decide +kernel)) ggX6_tonerOf_X6_checkHasToner
set_option maxRecDepth 20000 in
theorem ggX6_tonerOf_X3_toner : GoodIn wsX6_tonerOf wsX3_toner := goodIn_r _ [19, 20, 21, 34, 35, 36, 37, 38, 39] (by decide +kernel) (by decide +kernel)
set_option maxRecDepth 20000 in
theorem gX6_tonerOf_X3_toner : GoodIn wsX6_tonerOf (wsV RX6 127 RX3 yX3_toner wsX3_toner) := goodIn_app (goodIn_of _ (by decide +kernel)) ggX6_tonerOf_X3_toner
theorem dX6_tonerOf_0 : decode cX6_tonerOf 0 = .ok (.aload_n 0, 1) := by decide +kernel
theorem dX6_tonerOf_1 : decode cX6_tonerOf 1 = .ok (.iload_n 1, 1) := by decide +kernel
theorem dX6_tonerOf_2 : decode cX6_tonerOf 2 = .ok (.invokevirtual 86, 3) := by decide +kernel
theorem dX6_tonerOf_5 : decode cX6_tonerOf 5 = .ok (.astore_n 3, 1) := by decide +kernel
theorem dX6_tonerOf_6 : decode cX6_tonerOf 6 = .ok (.aload_n 3, 1) := by decide +kernel
theorem dX6_tonerOf_7 : decode cX6_tonerOf 7 = .ok (.iload_n 2, 1) := by decide +kernel
theorem dX6_tonerOf_8 : decode cX6_tonerOf 8 = .ok (.invokestatic 123, 3) := by decide +kernel
theorem dX6_tonerOf_11 : decode cX6_tonerOf 11 = .ok (.aload_n 3, 1) := by decide +kernel
theorem dX6_tonerOf_12 : decode cX6_tonerOf 12 = .ok (.iload_n 2, 1) := by decide +kernel
theorem dX6_tonerOf_13 : decode cX6_tonerOf 13 = .ok (.invokevirtual 127, 3) := by decide +kernel
theorem dX6_tonerOf_16 : decode cX6_tonerOf 16 = .ok (.ireturn, 1) := by decide +kernel
set_option maxRecDepth 20000 in
theorem ggX6_setStaples_X6_printerAt : GoodIn wsX6_setStaples wsX6_printerAt := goodIn_ca (goodIn_r _ [6, 7, 8, 9, 21, 22, 23, 24, 25, 26, 27, 28, 29, 30, 31, 32] (by decide +kernel) (by decide +kernel)) (goodIn_sub (fun _ h => List.mem_cons_of_mem _ (List.mem_append_left _ (List.mem_append_right _ h))) (by decide +kernel))
set_option maxRecDepth 20000 in
theorem gX6_setStaples_X6_printerAt : GoodIn wsX6_setStaples (wsV RX6 86 RX6 yX6_printerAt wsX6_printerAt) := goodIn_app (goodIn_of _ (by decide +kernel)) ggX6_setStaples_X6_printerAt
set_option maxRecDepth 20000 in
theorem ggX6_setStaples_X6_checkRange : GoodIn wsX6_setStaples wsX6_checkRange := goodIn_ca (goodIn_r _ [12, 13, 14] (by decide +kernel) (by decide +kernel)) (goodIn_sub (fun _ h => List.mem_cons_of_mem _ (List.mem_append_right _ h)) (by decide +kernel))
set_option maxRecDepth 20000 in
theorem gX6_setStaples_X6_checkRange : GoodIn wsX6_setStaples (va_wsS RX6 67 yX6_checkRange wsX6_checkRange) := goodIn_app (goodIn_of _ (by decide +kernel)) ggX6_setStaples_X6_checkRange
theorem dX6_setStaples_0 : decode cX6_setStaples 0 = .ok (.aload_n 0, 1) := by decide +kernel
theorem dX6_setStaples_1 : decode cX6_setStaples 1 = .ok (.iload_n 1, 1) := by decide +kernel
theorem dX6_setStaples_2 : decode cX6_setStaples 2 = .ok (.invokevirtual 86, 3) := by decide +kernel
theorem dX6_setStaples_5 : decode cX6_setStaples 5 = .ok (.astore_n 3, 1) := by decide +kernel
theorem dX6_setStaples_6 : decode cX6_setStaples 6 = .ok (.iload_n 2, 1) := by decide +kernel
theorem dX6_setStaples_7 : decode cX6_setStaples 7 = .ok (.iconst 0, 1) := by decide +kernel
theorem dX6_setStaples_8 : decode cX6_setStaples 8 = .ok (.bipush 100, 2) := by decide +kernel
theorem dX6_setStaples_10 : decode cX6_setStaples 10 = .ok (.invokestatic 67, 3) := by decide +kernel
theorem dX6_setStaples_13 : decode cX6_setStaples 13 = .ok (.aload_n 3, 1) := by decide +kernel
theorem dX6_setStaples_14 : decode cX6_setStaples 14 = .ok (.getfield 137, 3) := by decide +kernel
theorem dX6_setStaples_17 : decode cX6_setStaples 17 = .ok (.istore 4, 2) := by decide +kernel
theorem dX6_setStaples_19 : decode cX6_setStaples 19 = .ok (.aload_n 3, 1) := by decide +kernel
theorem dX6_setStaples_20 : decode cX6_setStaples 20 = .ok (.iload_n 2, 1) := by decide +kernel
theorem dX6_setStaples_21 : decode cX6_setStaples 21 = .ok (.putfield 137, 3) := by decide +kernel
theorem dX6_setStaples_24 : decode cX6_setStaples 24 = .ok (.iload 4, 2) := by decide +kernel
theorem dX6_setStaples_26 : decode cX6_setStaples 26 = .ok (.ireturn, 1) := by decide +kernel
set_option maxRecDepth 20000 in
theorem ggX6_staplesIn_X6_printerAt : GoodIn wsX6_staplesIn wsX6_printerAt := goodIn_ca (goodIn_r _ [6, 7, 8, 9, 16, 17, 18, 19, 20, 21, 22, 23, 24, 25, 26, 27] (by decide +kernel) (by decide +kernel)) (goodIn_sub (fun _ h => List.mem_cons_of_mem _ (List.mem_append_right _ h)) (by decide +kernel))
set_option maxRecDepth 20000 in
theorem gX6_staplesIn_X6_printerAt : GoodIn wsX6_staplesIn (wsV RX6 86 RX6 yX6_printerAt wsX6_printerAt) := goodIn_app (goodIn_of _ (by decide +kernel)) ggX6_staplesIn_X6_printerAt
theorem dX6_staplesIn_0 : decode cX6_staplesIn 0 = .ok (.aload_n 0, 1) := by decide +kernel
theorem dX6_staplesIn_1 : decode cX6_staplesIn 1 = .ok (.iload_n 1, 1) := by decide +kernel
theorem dX6_staplesIn_2 : decode cX6_staplesIn 2 = .ok (.invokevirtual 86, 3) := by decide +kernel
theorem dX6_staplesIn_5 : decode cX6_staplesIn 5 = .ok (.getfield 137, 3) := by decide +kernel
theorem dX6_staplesIn_8 : decode cX6_staplesIn 8 = .ok (.ireturn, 1) := by decide +kernel
set_option maxRecDepth 20000 in
theorem ggX6_grant_X6_userAt : GoodIn wsX6_grant wsX6_userAt := goodIn_ca (goodIn_r _ [7, 8, 9, 10, 27, 28, 29, 30, 31, 32, 33, 34, 35, 36, 37, 38] (by decide +kernel) (by decide +kernel)) (goodIn_sub (fun _ h => List.mem_cons_of_mem _ (List.mem_append_left _ (List.mem_append_right _ h))) (by decide +kernel))
set_option maxRecDepth 20000 in
theorem gX6_grant_X6_userAt : GoodIn wsX6_grant (wsV RX6 140 RX6 yX6_userAt wsX6_userAt) := goodIn_app (goodIn_of _ (by decide +kernel)) ggX6_grant_X6_userAt
set_option maxRecDepth 20000 in
theorem ggX6_grant_X6_checkRange : GoodIn wsX6_grant wsX6_checkRange := goodIn_ca (goodIn_r _ [13, 14, 15] (by decide +kernel) (by decide +kernel)) (goodIn_sub (fun _ h => List.mem_cons_of_mem _ (List.mem_append_right _ h)) (by decide +kernel))
set_option maxRecDepth 20000 in
theorem gX6_grant_X6_checkRange : GoodIn wsX6_grant (va_wsS RX6 67 yX6_checkRange wsX6_checkRange) := goodIn_app (goodIn_of _ (by decide +kernel)) ggX6_grant_X6_checkRange
set_option maxRecDepth 20000 in
theorem ggX6_grant_X5_quota : GoodIn wsX6_grant wsX5_quota := goodIn_r _ [20, 21, 22, 39, 40, 41, 42] (by decide +kernel) (by decide +kernel)
set_option maxRecDepth 20000 in
theorem gX6_grant_X5_quota : GoodIn wsX6_grant (wsV RX6 144 RX5 yX5_quota wsX5_quota) := goodIn_app (goodIn_of _ (by decide +kernel)) ggX6_grant_X5_quota
set_option maxRecDepth 20000 in
theorem ggX6_grant_X5_addQuota : GoodIn wsX6_grant wsX5_addQuota := goodIn_r _ [26, 21, 22, 39, 40, 41, 42] (by decide +kernel) (by decide +kernel)
set_option maxRecDepth 20000 in
theorem gX6_grant_X5_addQuota : GoodIn wsX6_grant (wsV RX6 149 RX5 yX5_addQuota wsX5_addQuota) := goodIn_app (goodIn_of _ (by decide +kernel)) ggX6_grant_X5_addQuota
theorem dX6_grant_0 : decode cX6_grant 0 = .ok (.aload_n 0, 1) := by decide +kernel
theorem dX6_grant_1 : decode cX6_grant 1 = .ok (.iload_n 1, 1) := by decide +kernel
theorem dX6_grant_2 : decode cX6_grant 2 = .ok (.invokevirtual 140, 3) := by decide +kernel
theorem dX6_grant_5 : decode cX6_grant 5 = .ok (.astore 4, 2) := by decide +kernel
theorem dX6_grant_7 : decode cX6_grant 7 = .ok (.iload_n 3, 1) := by decide +kernel
theorem dX6_grant_8 : decode cX6_grant 8 = .ok (.iconst 1, 1) := by decide +kernel
theorem dX6_grant_9 : decode cX6_grant 9 = .ok (.sipush 999, 3) := by decide +kernel
theorem dX6_grant_12 : decode cX6_grant 12 = .ok (.invokestatic 67, 3) := by decide +kernel
theorem dX6_grant_15 : decode cX6_grant 15 = .ok (.aload 4, 2) := by decide +kernel
theorem dX6_grant_17 : decode cX6_grant 17 = .ok (.iload_n 2, 1) := by decide +kernel
theorem dX6_grant_18 : decode cX6_grant 18 = .ok (.invokevirtual 144, 3) := by decide +kernel
theorem dX6_grant_21 : decode cX6_grant 21 = .ok (.iload_n 3, 1) := by decide +kernel
theorem dX6_grant_22 : decode cX6_grant 22 = .ok (.iadd, 1) := by decide +kernel
theorem dX6_grant_23 : decode cX6_grant 23 = .ok (.sipush 9999, 3) := by decide +kernel
theorem dX6_grant_26 : decode cX6_grant 26 = .ok (.if_icmp .le 13, 3) := by decide +kernel
theorem dX6_grant_29 : decode cX6_grant 29 = .ok (.new 71, 3) := by decide +kernel
theorem dX6_grant_32 : decode cX6_grant 32 = .ok (.dup, 1) := by decide +kernel
theorem dX6_grant_33 : decode cX6_grant 33 = .ok (.ldc 147, 2) := by decide +kernel
theorem dX6_grant_35 : decode cX6_grant 35 = .ok (.invokespecial 75, 3) := by decide +kernel
theorem dX6_grant_38 : decode cX6_grant 38 = .ok (.athrow, 1) := by decide +kernel
theorem dX6_grant_39 : decode cX6_grant 39 = .ok (.aload 4, 2) := by decide +kernel
theorem dX6_grant_41 : decode cX6_grant 41 = .ok (.iload_n 2, 1) := by decide +kernel
theorem dX6_grant_42 : decode cX6_grant 42 = .ok (.iload_n 3, 1) := by decide +kernel
theorem dX6_grant_43 : decode cX6_grant 43 = .ok (.invokevirtual 149, 3) := by decide +kernel
theorem dX6_grant_46 : decode cX6_grant 46 = .ok (.aload 4, 2) := by decide +kernel
theorem dX6_grant_48 : decode cX6_grant 48 = .ok (.iload_n 2, 1) := by decide +kernel
theorem dX6_grant_49 : decode cX6_grant 49 = .ok (.invokevirtual 144, 3) := by decide +kernel
theorem dX6_grant_52 : decode cX6_grant 52 = .ok (.ireturn, 1) := by decide +kernel
set_option maxRecDepth 20000 in
theorem ggX6_quotaOf_X6_userAt : GoodIn wsX6_quotaOf wsX6_userAt := goodIn_ca (goodIn_r _ [5, 6, 7, 8, 16, 17, 18, 19, 20, 21, 22, 23, 24, 25, 26, 27] (by decide +kernel) (by decide +kernel)) (goodIn_sub (fun _ h => List.mem_cons_of_mem _ (List.mem_append_right _ h)) (by decide +kernel))
set_option maxRecDepth 20000 in
theorem gX6_quotaOf_X6_userAt : GoodIn wsX6_quotaOf (wsV RX6 140 RX6 yX6_userAt wsX6_userAt) := goodIn_app (goodIn_of _ (by decide +kernel)) ggX6_quotaOf_X6_userAt
set_option maxRecDepth 20000 in
theorem ggX6_quotaOf_X5_quota : GoodIn wsX6_quotaOf wsX5_quota := goodIn_r _ [13, 14, 15, 28, 29, 30, 31] (by decide +kernel) (by decide +kernel)
set_option maxRecDepth 20000 in
theorem gX6_quotaOf_X5_quota : GoodIn wsX6_quotaOf (wsV RX6 144 RX5 yX5_quota wsX5_quota) := goodIn_app (goodIn_of _ (by decide +kernel)) ggX6_quotaOf_X5_quota
theorem dX6_quotaOf_0 : decode cX6_quotaOf 0 = .ok (.aload_n 0, 1) := by decide +kernel
theorem dX6_quotaOf_1 : decode cX6_quotaOf 1 = .ok (.iload_n 1, 1) := by decide +kernel
theorem dX6_quotaOf_2 : decode cX6_quotaOf 2 = .ok (.invokevirtual 140, 3) := by decide +kernel
theorem dX6_quotaOf_5 : decode cX6_quotaOf 5 = .ok (.iload_n 2, 1) := by decide +kernel
theorem dX6_quotaOf_6 : decode cX6_quotaOf 6 = .ok (.invokevirtual 144, 3) := by decide +kernel
theorem dX6_quotaOf_9 : decode cX6_quotaOf 9 = .ok (.ireturn, 1) := by decide +kernel
set_option maxRecDepth 20000 in
theorem ggX6_setPrices_X6_checkRange : GoodIn wsX6_setPrices wsX6_checkRange := goodIn_ca (goodIn_r _ [7, 8, 9] (by decide +kernel) (by decide +kernel)) (goodIn_sub (fun _ h => List.mem_cons_of_mem _ (List.mem_append_right _ h)) (by decide +kernel))
set_option maxRecDepth 20000 in
theorem gX6_setPrices_X6_checkRange : GoodIn wsX6_setPrices (va_wsS RX6 67 yX6_checkRange wsX6_checkRange) := goodIn_app (goodIn_of _ (by decide +kernel)) ggX6_setPrices_X6_checkRange
theorem dX6_setPrices_0 : decode cX6_setPrices 0 = .ok (.iload_n 1, 1) := by decide +kernel
theorem dX6_setPrices_1 : decode cX6_setPrices 1 = .ok (.iconst 0, 1) := by decide +kernel
theorem dX6_setPrices_2 : decode cX6_setPrices 2 = .ok (.bipush 99, 2) := by decide +kernel
theorem dX6_setPrices_4 : decode cX6_setPrices 4 = .ok (.invokestatic 67, 3) := by decide +kernel
theorem dX6_setPrices_7 : decode cX6_setPrices 7 = .ok (.iload_n 2, 1) := by decide +kernel
theorem dX6_setPrices_8 : decode cX6_setPrices 8 = .ok (.iconst 0, 1) := by decide +kernel
theorem dX6_setPrices_9 : decode cX6_setPrices 9 = .ok (.bipush 99, 2) := by decide +kernel
theorem dX6_setPrices_11 : decode cX6_setPrices 11 = .ok (.invokestatic 67, 3) := by decide +kernel
theorem dX6_setPrices_14 : decode cX6_setPrices 14 = .ok (.iload_n 3, 1) := by decide +kernel
theorem dX6_setPrices_15 : decode cX6_setPrices 15 = .ok (.iconst 0, 1) := by decide +kernel
theorem dX6_setPrices_16 : decode cX6_setPrices 16 = .ok (.bipush 99, 2) := by decide +kernel
theorem dX6_setPrices_18 : decode cX6_setPrices 18 = .ok (.invokestatic 67, 3) := by decide +kernel
theorem dX6_setPrices_21 : decode cX6_setPrices 21 = .ok (.aload_n 0, 1) := by decide +kernel
theorem dX6_setPrices_22 : decode cX6_setPrices 22 = .ok (.getfield 37, 3) := by decide +kernel
theorem dX6_setPrices_25 : decode cX6_setPrices 25 = .ok (.istore 4, 2) := by decide +kernel
theorem dX6_setPrices_27 : decode cX6_setPrices 27 = .ok (.aload_n 0, 1) := by decide +kernel
theorem dX6_setPrices_28 : decode cX6_setPrices 28 = .ok (.iload_n 1, 1) := by decide +kernel
theorem dX6_setPrices_29 : decode cX6_setPrices 29 = .ok (.putfield 37, 3) := by decide +kernel
theorem dX6_setPrices_32 : decode cX6_setPrices 32 = .ok (.aload_n 0, 1) := by decide +kernel
theorem dX6_setPrices_33 : decode cX6_setPrices 33 = .ok (.iload_n 2, 1) := by decide +kernel
theorem dX6_setPrices_34 : decode cX6_setPrices 34 = .ok (.putfield 40, 3) := by decide +kernel
theorem dX6_setPrices_37 : decode cX6_setPrices 37 = .ok (.aload_n 0, 1) := by decide +kernel
theorem dX6_setPrices_38 : decode cX6_setPrices 38 = .ok (.iload_n 3, 1) := by decide +kernel
theorem dX6_setPrices_39 : decode cX6_setPrices 39 = .ok (.putfield 43, 3) := by decide +kernel
theorem dX6_setPrices_42 : decode cX6_setPrices 42 = .ok (.iload 4, 2) := by decide +kernel
theorem dX6_setPrices_44 : decode cX6_setPrices 44 = .ok (.ireturn, 1) := by decide +kernel
set_option maxRecDepth 20000 in
theorem ggX6_submit_X6_userAt : GoodIn wsX6_submit wsX6_userAt := goodIn_ca (goodIn_r _ [15, 16, 17, 18, 47, 48, 49, 50, 51, 52, 53, 54, 55, 56, 57, 58] (by decide +kernel) (by decide +kernel)) (goodIn_sub (fun _ h => List.mem_cons_of_mem _ (List.mem_append_left _ (List.mem_append_right _ h))) (by decide +kernel))
set_option maxRecDepth 20000 in
theorem gX6_submit_X6_userAt : GoodIn wsX6_submit (wsV RX6 140 RX6 yX6_userAt wsX6_userAt) := goodIn_app (goodIn_of _ (by decide +kernel)) ggX6_submit_X6_userAt
set_option maxRecDepth 20000 in
theorem ggX6_submit_X6_checkRange : GoodIn wsX6_submit wsX6_checkRange := goodIn_ca (goodIn_r _ [21, 22, 23] (by decide +kernel) (by decide +kernel)) (goodIn_sub (fun _ h => List.mem_cons_of_mem _ (List.mem_append_right _ h)) (by decide +kernel))
set_option maxRecDepth 20000 in
theorem gX6_submit_X6_checkRange : GoodIn wsX6_submit (va_wsS RX6 67 yX6_checkRange wsX6_checkRange) := goodIn_app (goodIn_of _ (by decide +kernel)) ggX6_submit_X6_checkRange
set_option maxRecDepth 20000 in
theorem ggX6_submit_X6_checkPaper : GoodIn wsX6_submit wsX6_checkPaper := goodIn_ca (goodIn_r _ [26, 22, 23] (by decide +kernel) (by decide +kernel)) (goodIn_sub (fun _ h => List.mem_cons_of_mem _ (List.mem_append_right _ h)) (by decide +kernel))
set_option maxRecDepth 20000 in
theorem gX6_submit_X6_checkPaper : GoodIn wsX6_submit (va_wsS RX6 90 yX6_checkPaper wsX6_checkPaper) := goodIn_app (goodIn_of _ (by decide +kernel)) ggX6_submit_X6_checkPaper
set_option maxRecDepth 20000 in
theorem ggX6_submit_X1_init : GoodIn wsX6_submit wsX1_init := goodIn_r _ [29, 30, 31, 32, 33, 34, 35, 36, 37, 38, 39, 40, 41, 42, 43, 44, 45, 46, 59, 60, 61, 62, 63, 64, 65, 66, 67, 68, 69, 70, 71, 72] (by decide +kernel) (by decide +kernel)
set_option maxRecDepth 20000 in
theorem gX6_submit_X1_init : GoodIn wsX6_submit (wsX1_init) := ggX6_submit_X1_init
theorem dX6_submit_0 : decode cX6_submit 0 = .ok (.aload_n 0, 1) := by decide +kernel
theorem dX6_submit_1 : decode cX6_submit 1 = .ok (.iload_n 1, 1) := by decide +kernel
theorem dX6_submit_2 : decode cX6_submit 2 = .ok (.invokevirtual 140, 3) := by decide +kernel
theorem dX6_submit_5 : decode cX6_submit 5 = .ok (.pop, 1) := by decide +kernel
theorem dX6_submit_6 : decode cX6_submit 6 = .ok (.iload_n 2, 1) := by decide +kernel
theorem dX6_submit_7 : decode cX6_submit 7 = .ok (.iconst 1, 1) := by decide +kernel
theorem dX6_submit_8 : decode cX6_submit 8 = .ok (.bipush 100, 2) := by decide +kernel
theorem dX6_submit_10 : decode cX6_submit 10 = .ok (.invokestatic 67, 3) := by decide +kernel
theorem dX6_submit_13 : decode cX6_submit 13 = .ok (.iload_n 3, 1) := by decide +kernel
theorem dX6_submit_14 : decode cX6_submit 14 = .ok (.iconst 1, 1) := by decide +kernel
theorem dX6_submit_15 : decode cX6_submit 15 = .ok (.bipush 9, 2) := by decide +kernel
theorem dX6_submit_17 : decode cX6_submit 17 = .ok (.invokestatic 67, 3) := by decide +kernel
theorem dX6_submit_20 : decode cX6_submit 20 = .ok (.iload 4, 2) := by decide +kernel
theorem dX6_submit_22 : decode cX6_submit 22 = .ok (.invokestatic 90, 3) := by decide +kernel
theorem dX6_submit_25 : decode cX6_submit 25 = .ok (.aload_n 0, 1) := by decide +kernel
theorem dX6_submit_26 : decode cX6_submit 26 = .ok (.getfield 34, 3) := by decide +kernel
theorem dX6_submit_29 : decode cX6_submit 29 = .ok (.istore 7, 2) := by decide +kernel
theorem dX6_submit_31 : decode cX6_submit 31 = .ok (.iload 7, 2) := by decide +kernel
theorem dX6_submit_33 : decode cX6_submit 33 = .ok (.aload_n 0, 1) := by decide +kernel
theorem dX6_submit_34 : decode cX6_submit 34 = .ok (.getfield 23, 3) := by decide +kernel
theorem dX6_submit_37 : decode cX6_submit 37 = .ok (.arraylength, 1) := by decide +kernel
theorem dX6_submit_38 : decode cX6_submit 38 = .ok (.if_icmp .lt 13, 3) := by decide +kernel
theorem dX6_submit_41 : decode cX6_submit 41 = .ok (.new 71, 3) := by decide +kernel
theorem dX6_submit_44 : decode cX6_submit 44 = .ok (.dup, 1) := by decide +kernel
theorem dX6_submit_45 : decode cX6_submit 45 = .ok (.ldc 153, 2) := by decide +kernel
theorem dX6_submit_47 : decode cX6_submit 47 = .ok (.invokespecial 75, 3) := by decide +kernel
theorem dX6_submit_50 : decode cX6_submit 50 = .ok (.athrow, 1) := by decide +kernel
theorem dX6_submit_51 : decode cX6_submit 51 = .ok (.new 21, 3) := by decide +kernel
theorem dX6_submit_54 : decode cX6_submit 54 = .ok (.dup, 1) := by decide +kernel
theorem dX6_submit_55 : decode cX6_submit 55 = .ok (.iload 7, 2) := by decide +kernel
theorem dX6_submit_57 : decode cX6_submit 57 = .ok (.iload_n 1, 1) := by decide +kernel
theorem dX6_submit_58 : decode cX6_submit 58 = .ok (.iload_n 2, 1) := by decide +kernel
theorem dX6_submit_59 : decode cX6_submit 59 = .ok (.iload_n 3, 1) := by decide +kernel
theorem dX6_submit_60 : decode cX6_submit 60 = .ok (.invokespecial 155, 3) := by decide +kernel
theorem dX6_submit_63 : decode cX6_submit 63 = .ok (.astore 8, 2) := by decide +kernel
theorem dX6_submit_65 : decode cX6_submit 65 = .ok (.aload 8, 2) := by decide +kernel
theorem dX6_submit_67 : decode cX6_submit 67 = .ok (.iload 4, 2) := by decide +kernel
theorem dX6_submit_69 : decode cX6_submit 69 = .ok (.putfield 158, 3) := by decide +kernel
theorem dX6_submit_72 : decode cX6_submit 72 = .ok (.aload 8, 2) := by decide +kernel
theorem dX6_submit_74 : decode cX6_submit 74 = .ok (.iload 5, 2) := by decide +kernel
theorem dX6_submit_76 : decode cX6_submit 76 = .ok (.putfield 159, 3) := by decide +kernel
theorem dX6_submit_79 : decode cX6_submit 79 = .ok (.aload 8, 2) := by decide +kernel
theorem dX6_submit_81 : decode cX6_submit 81 = .ok (.iload 6, 2) := by decide +kernel
theorem dX6_submit_83 : decode cX6_submit 83 = .ok (.putfield 163, 3) := by decide +kernel
theorem dX6_submit_86 : decode cX6_submit 86 = .ok (.aload_n 0, 1) := by decide +kernel
theorem dX6_submit_87 : decode cX6_submit 87 = .ok (.getfield 23, 3) := by decide +kernel
theorem dX6_submit_90 : decode cX6_submit 90 = .ok (.iload 7, 2) := by decide +kernel
theorem dX6_submit_92 : decode cX6_submit 92 = .ok (.aload 8, 2) := by decide +kernel
theorem dX6_submit_94 : decode cX6_submit 94 = .ok (.aastore, 1) := by decide +kernel
theorem dX6_submit_95 : decode cX6_submit 95 = .ok (.aload_n 0, 1) := by decide +kernel
theorem dX6_submit_96 : decode cX6_submit 96 = .ok (.iload 7, 2) := by decide +kernel
theorem dX6_submit_98 : decode cX6_submit 98 = .ok (.iconst 1, 1) := by decide +kernel
theorem dX6_submit_99 : decode cX6_submit 99 = .ok (.iadd, 1) := by decide +kernel
theorem dX6_submit_100 : decode cX6_submit 100 = .ok (.putfield 34, 3) := by decide +kernel
theorem dX6_submit_103 : decode cX6_submit 103 = .ok (.iload 7, 2) := by decide +kernel
theorem dX6_submit_105 : decode cX6_submit 105 = .ok (.ireturn, 1) := by decide +kernel
set_option maxRecDepth 20000 in
theorem ggX6_setStapled_X6_jobAt : GoodIn wsX6_setStapled wsX6_jobAt := goodIn_ca (goodIn_r _ [6, 7, 8, 9, 24, 25, 26, 27, 28, 29, 30, 31, 32, 33, 34, 35] (by decide +kernel) (by decide +kernel)) (goodIn_sub (fun _ h => List.mem_cons_of_mem _ (List.mem_append_right _ h)) (by decide +kernel))
set_option maxRecDepth 20000 in
theorem gX6_setStapled_X6_jobAt : GoodIn wsX6_setStapled (wsV RX6 166 RX6 yX6_jobAt wsX6_jobAt) := goodIn_app (goodIn_of _ (by decide +kernel)) ggX6_setStapled_X6_jobAt
theorem dX6_setStapled_0 : decode cX6_setStapled 0 = .ok (.aload_n 0, 1) := by decide +kernel
theorem dX6_setStapled_1 : decode cX6_setStapled 1 = .ok (.iload_n 1, 1) := by decide +kernel
theorem dX6_setStapled_2 : decode cX6_setStapled 2 = .ok (.invokevirtual 166, 3) := by decide +kernel
theorem dX6_setStapled_5 : decode cX6_setStapled 5 = .ok (.astore_n 3, 1) := by decide +kernel
theorem dX6_setStapled_6 : decode cX6_setStapled 6 = .ok (.aload_n 3, 1) := by decide +kernel
theorem dX6_setStapled_7 : decode cX6_setStapled 7 = .ok (.getfield 170, 3) := by decide +kernel
theorem dX6_setStapled_10 : decode cX6_setStapled 10 = .ok (.istore 4, 2) := by decide +kernel
theorem dX6_setStapled_12 : decode cX6_setStapled 12 = .ok (.aload_n 3, 1) := by decide +kernel
theorem dX6_setStapled_13 : decode cX6_setStapled 13 = .ok (.iload_n 2, 1) := by decide +kernel
theorem dX6_setStapled_14 : decode cX6_setStapled 14 = .ok (.putfield 170, 3) := by decide +kernel
theorem dX6_setStapled_17 : decode cX6_setStapled 17 = .ok (.iload 4, 2) := by decide +kernel
theorem dX6_setStapled_19 : decode cX6_setStapled 19 = .ok (.ireturn, 1) := by decide +kernel
set_option maxRecDepth 20000 in
theorem ggX6_cancel_X6_jobAt : GoodIn wsX6_cancel wsX6_jobAt := goodIn_ca (goodIn_r _ [8, 9, 10, 11, 39, 40, 41, 42, 43, 44, 45, 46, 47, 48, 49, 50] (by decide +kernel) (by decide +kernel)) (goodIn_sub (fun _ h => List.mem_cons_of_mem _ (List.mem_append_right _ h)) (by decide +kernel))
set_option maxRecDepth 20000 in
theorem gX6_cancel_X6_jobAt : GoodIn wsX6_cancel (wsV RX6 166 RX6 yX6_jobAt wsX6_jobAt) := goodIn_app (goodIn_of _ (by decide +kernel)) ggX6_cancel_X6_jobAt
set_option maxRecDepth 20000 in
theorem ggX6_cancel_X1_isHeld : GoodIn wsX6_cancel wsX1_isHeld := goodIn_r _ [16, 17, 18, 19, 20, 15, 21, 22, 23, 25, 26, 27, 28, 29, 30, 31, 32, 33, 34, 35, 36, 37, 38] (by decide +kernel) (by decide +kernel)
set_option maxRecDepth 20000 in
theorem gX6_cancel_X1_isHeld : GoodIn wsX6_cancel (wsV RX6 173 RX1 yX1_isHeld wsX1_isHeld) := goodIn_app (goodIn_of _ (by decide +kernel)) ggX6_cancel_X1_isHeld
set_option maxRecDepth 20000 in
theorem ggX6_cancel_X1_pagesToCome : GoodIn wsX6_cancel wsX1_pagesToCome := goodIn_r _ [21, 22, 23, 25, 26, 27, 28, 29, 30, 31, 32, 33, 34, 35, 36, 37, 38] (by decide +kernel) (by decide +kernel)
set_option maxRecDepth 20000 in
theorem gX6_cancel_X1_pagesToCome : GoodIn wsX6_cancel (wsV RX6 182 RX1 yX1_pagesToCome wsX1_pagesToCome) := goodIn_app (goodIn_of _ (by decide +kernel)) ggX6_cancel_X1_pagesToCome
theorem dX6_cancel_0 : decode cX6_cancel 0 = .ok (.aload_n 0, 1) := by decide +kernel
theorem dX6_cancel_1 : decode cX6_cancel 1 = .ok (.iload_n 1, 1) := by decide +kernel
theorem dX6_cancel_2 : decode cX6_cancel 2 = .ok (.invokevirtual 166, 3) := by decide +kernel
theorem dX6_cancel_5 : decode cX6_cancel 5 = .ok (.astore_n 2, 1) := by decide +kernel
theorem dX6_cancel_6 : decode cX6_cancel 6 = .ok (.aload_n 2, 1) := by decide +kernel
theorem dX6_cancel_7 : decode cX6_cancel 7 = .ok (.invokevirtual 173, 3) := by decide +kernel
theorem dX6_cancel_10 : decode cX6_cancel 10 = .ok (.ifCond .ne 13, 3) := by decide +kernel
theorem dX6_cancel_13 : decode cX6_cancel 13 = .ok (.new 71, 3) := by decide +kernel
theorem dX6_cancel_16 : decode cX6_cancel 16 = .ok (.dup, 1) := by decide +kernel
theorem dX6_cancel_17 : decode cX6_cancel 17 = .ok (.ldc 177, 2) := by decide +kernel
theorem dX6_cancel_19 : decode cX6_cancel 19 = .ok (.invokespecial 75, 3) := by decide +kernel
theorem dX6_cancel_22 : decode cX6_cancel 22 = .ok (.athrow, 1) := by decide +kernel
theorem dX6_cancel_23 : decode cX6_cancel 23 = .ok (.aload_n 2, 1) := by decide +kernel
theorem dX6_cancel_24 : decode cX6_cancel 24 = .ok (.iconst 1, 1) := by decide +kernel
theorem dX6_cancel_25 : decode cX6_cancel 25 = .ok (.putfield 179, 3) := by decide +kernel
theorem dX6_cancel_28 : decode cX6_cancel 28 = .ok (.aload_n 2, 1) := by decide +kernel
theorem dX6_cancel_29 : decode cX6_cancel 29 = .ok (.invokevirtual 182, 3) := by decide +kernel
theorem dX6_cancel_32 : decode cX6_cancel 32 = .ok (.ireturn, 1) := by decide +kernel
set_option maxRecDepth 20000 in
theorem ggX6_stateOf_X6_jobAt : GoodIn wsX6_stateOf wsX6_jobAt := goodIn_ca (goodIn_r _ [7, 8, 9, 10, 32, 33, 34, 35, 36, 37, 38, 39, 40, 41, 42, 43] (by decide +kernel) (by decide +kernel)) (goodIn_sub (fun _ h => List.mem_cons_of_mem _ (List.mem_append_right _ h)) (by decide +kernel))
set_option maxRecDepth 20000 in
theorem gX6_stateOf_X6_jobAt : GoodIn wsX6_stateOf (wsV RX6 166 RX6 yX6_jobAt wsX6_jobAt) := goodIn_app (goodIn_of _ (by decide +kernel)) ggX6_stateOf_X6_jobAt
set_option maxRecDepth 20000 in
theorem ggX6_stateOf_X1_pagesToCome : GoodIn wsX6_stateOf wsX1_pagesToCome := goodIn_r _ [15, 16, 17, 18, 19, 20, 21, 22, 23, 24, 25, 26, 27, 28, 29, 30, 31] (by decide +kernel) (by decide +kernel)
set_option maxRecDepth 20000 in
theorem gX6_stateOf_X1_pagesToCome : GoodIn wsX6_stateOf (wsV RX6 182 RX1 yX1_pagesToCome wsX1_pagesToCome) := goodIn_app (goodIn_of _ (by decide +kernel)) ggX6_stateOf_X1_pagesToCome
theorem dX6_stateOf_0 : decode cX6_stateOf 0 = .ok (.aload_n 0, 1) := by decide +kernel
theorem dX6_stateOf_1 : decode cX6_stateOf 1 = .ok (.iload_n 1, 1) := by decide +kernel
theorem dX6_stateOf_2 : decode cX6_stateOf 2 = .ok (.invokevirtual 166, 3) := by decide +kernel
theorem dX6_stateOf_5 : decode cX6_stateOf 5 = .ok (.astore_n 2, 1) := by decide +kernel
theorem dX6_stateOf_6 : decode cX6_stateOf 6 = .ok (.aload_n 2, 1) := by decide +kernel
theorem dX6_stateOf_7 : decode cX6_stateOf 7 = .ok (.getfield 179, 3) := by decide +kernel
theorem dX6_stateOf_10 : decode cX6_stateOf 10 = .ok (.ifCond .eq 6, 3) := by decide +kernel
theorem dX6_stateOf_13 : decode cX6_stateOf 13 = .ok (.bipush 120, 2) := by decide +kernel
theorem dX6_stateOf_15 : decode cX6_stateOf 15 = .ok (.ireturn, 1) := by decide +kernel
theorem dX6_stateOf_16 : decode cX6_stateOf 16 = .ok (.aload_n 2, 1) := by decide +kernel
theorem dX6_stateOf_17 : decode cX6_stateOf 17 = .ok (.invokevirtual 182, 3) := by decide +kernel
theorem dX6_stateOf_20 : decode cX6_stateOf 20 = .ok (.ifCond .ne 6, 3) := by decide +kernel
theorem dX6_stateOf_23 : decode cX6_stateOf 23 = .ok (.bipush 100, 2) := by decide +kernel
theorem dX6_stateOf_25 : decode cX6_stateOf 25 = .ok (.ireturn, 1) := by decide +kernel
theorem dX6_stateOf_26 : decode cX6_stateOf 26 = .ok (.aload_n 2, 1) := by decide +kernel
theorem dX6_stateOf_27 : decode cX6_stateOf 27 = .ok (.getfield 186, 3) := by decide +kernel
theorem dX6_stateOf_30 : decode cX6_stateOf 30 = .ok (.ifCond .ne 8, 3) := by decide +kernel
theorem dX6_stateOf_33 : decode cX6_stateOf 33 = .ok (.bipush 104, 2) := by decide +kernel
theorem dX6_stateOf_35 : decode cX6_stateOf 35 = .ok (.goto 5, 3) := by decide +kernel
theorem dX6_stateOf_38 : decode cX6_stateOf 38 = .ok (.bipush 112, 2) := by decide +kernel
theorem dX6_stateOf_40 : decode cX6_stateOf 40 = .ok (.ireturn, 1) := by decide +kernel
set_option maxRecDepth 20000 in
theorem ggX6_pagesLeft_X6_jobAt : GoodIn wsX6_pagesLeft wsX6_jobAt := goodIn_ca (goodIn_r _ [5, 6, 7, 8, 16, 17, 18, 19, 20, 21, 22, 23, 24, 25, 26, 27] (by decide +kernel) (by decide +kernel)) (goodIn_sub (fun _ h => List.mem_cons_of_mem _ (List.mem_append_right _ h)) (by decide +kernel))
set_option maxRecDepth 20000 in
theorem gX6_pagesLeft_X6_jobAt : GoodIn wsX6_pagesLeft (wsV RX6 166 RX6 yX6_jobAt wsX6_jobAt) := goodIn_app (goodIn_of _ (by decide +kernel)) ggX6_pagesLeft_X6_jobAt
set_option maxRecDepth 20000 in
theorem ggX6_pagesLeft_X1_pagesToCome : GoodIn wsX6_pagesLeft wsX1_pagesToCome := goodIn_r _ [13, 14, 15, 28, 29, 30, 31, 32, 33, 34, 35, 36, 37, 38, 39, 40, 41] (by decide +kernel) (by decide +kernel)
set_option maxRecDepth 20000 in
theorem gX6_pagesLeft_X1_pagesToCome : GoodIn wsX6_pagesLeft (wsV RX6 182 RX1 yX1_pagesToCome wsX1_pagesToCome) := goodIn_app (goodIn_of _ (by decide +kernel)) ggX6_pagesLeft_X1_pagesToCome
theorem dX6_pagesLeft_0 : decode cX6_pagesLeft 0 = .ok (.aload_n 0, 1) := by decide +kernel
theorem dX6_pagesLeft_1 : decode cX6_pagesLeft 1 = .ok (.iload_n 1, 1) := by decide +kernel
theorem dX6_pagesLeft_2 : decode cX6_pagesLeft 2 = .ok (.invokevirtual 166, 3) := by decide +kernel
theorem dX6_pagesLeft_5 : decode cX6_pagesLeft 5 = .ok (.invokevirtual 182, 3) := by decide +kernel
theorem dX6_pagesLeft_8 : decode cX6_pagesLeft 8 = .ok (.ireturn, 1) := by decide +kernel
set_option maxRecDepth 20000 in
theorem ggX6_sheetsOut_X6_jobAt : GoodIn wsX6_sheetsOut wsX6_jobAt := goodIn_ca (goodIn_r _ [6, 7, 8, 9, 24, 25, 26, 27, 28, 29, 30, 31, 32, 33, 34, 35] (by decide +kernel) (by decide +kernel)) (goodIn_sub (fun _ h => List.mem_cons_of_mem _ (List.mem_append_right _ h)) (by decide +kernel))
set_option maxRecDepth 20000 in
theorem gX6_sheetsOut_X6_jobAt : GoodIn wsX6_sheetsOut (wsV RX6 166 RX6 yX6_jobAt wsX6_jobAt) := goodIn_app (goodIn_of _ (by decide +kernel)) ggX6_sheetsOut_X6_jobAt
theorem dX6_sheetsOut_0 : decode cX6_sheetsOut 0 = .ok (.aload_n 0, 1) := by decide +kernel
theorem dX6_sheetsOut_1 : decode cX6_sheetsOut 1 = .ok (.iload_n 1, 1) := by decide +kernel
theorem dX6_sheetsOut_2 : decode cX6_sheetsOut 2 = .ok (.invokevirtual 166, 3) := by decide +kernel
theorem dX6_sheetsOut_5 : decode cX6_sheetsOut 5 = .ok (.getfield 189, 3) := by decide +kernel
theorem dX6_sheetsOut_8 : decode cX6_sheetsOut 8 = .ok (.ireturn, 1) := by decide +kernel
set_option maxRecDepth 20000 in
theorem ggX6_stapledCopies_X6_jobAt : GoodIn wsX6_stapledCopies wsX6_jobAt := goodIn_ca (goodIn_r _ [6, 7, 8, 9, 24, 25, 26, 27, 28, 29, 30, 31, 32, 33, 34, 35] (by decide +kernel) (by decide +kernel)) (goodIn_sub (fun _ h => List.mem_cons_of_mem _ (List.mem_append_right _ h)) (by decide +kernel))
set_option maxRecDepth 20000 in
theorem gX6_stapledCopies_X6_jobAt : GoodIn wsX6_stapledCopies (wsV RX6 166 RX6 yX6_jobAt wsX6_jobAt) := goodIn_app (goodIn_of _ (by decide +kernel)) ggX6_stapledCopies_X6_jobAt
theorem dX6_stapledCopies_0 : decode cX6_stapledCopies 0 = .ok (.aload_n 0, 1) := by decide +kernel
theorem dX6_stapledCopies_1 : decode cX6_stapledCopies 1 = .ok (.iload_n 1, 1) := by decide +kernel
theorem dX6_stapledCopies_2 : decode cX6_stapledCopies 2 = .ok (.invokevirtual 166, 3) := by decide +kernel
theorem dX6_stapledCopies_5 : decode cX6_stapledCopies 5 = .ok (.getfield 192, 3) := by decide +kernel
theorem dX6_stapledCopies_8 : decode cX6_stapledCopies 8 = .ok (.ireturn, 1) := by decide +kernel
set_option maxRecDepth 20000 in
theorem ggX6_reasonFor_X6_jobAt : GoodIn wsX6_reasonFor wsX6_jobAt := goodIn_ca (goodIn_r _ [5, 6, 7, 8, 95, 96, 97, 98, 99, 100, 101, 102, 103, 104, 105, 106] (by decide +kernel) (by decide +kernel)) (goodIn_sub (fun _ h => List.mem_cons_of_mem _ (List.mem_append_right _ h)) (by decide +kernel))
set_option maxRecDepth 20000 in
theorem gX6_reasonFor_X6_jobAt : GoodIn wsX6_reasonFor (wsV RX6 166 RX6 yX6_jobAt wsX6_jobAt) := goodIn_app (goodIn_of _ (by decide +kernel)) ggX6_reasonFor_X6_jobAt
set_option maxRecDepth 20000 in
theorem ggX6_reasonFor_X6_printerAt : GoodIn wsX6_reasonFor wsX6_printerAt := goodIn_ca (goodIn_r _ [12, 6, 7, 13, 95, 96, 97, 98, 99, 100, 101, 102, 103, 104, 105, 106] (by decide +kernel) (by decide +kernel)) (goodIn_sub (fun _ h => List.mem_cons_of_mem _ (List.mem_append_right _ h)) (by decide +kernel))
set_option maxRecDepth 20000 in
theorem gX6_reasonFor_X6_printerAt : GoodIn wsX6_reasonFor (wsV RX6 86 RX6 yX6_printerAt wsX6_printerAt) := goodIn_app (goodIn_of _ (by decide +kernel)) ggX6_reasonFor_X6_printerAt
set_option maxRecDepth 20000 in
theorem ggX6_reasonFor_X6_reasonNow : GoodIn wsX6_reasonFor wsX6_reasonNow := goodIn_ca (goodIn_r _ [17, 18, 19, 20, 21, 22, 4, 23, 6, 7, 24, 25, 26, 27, 28, 29, 30, 31, 32, 33, 34, 35, 36, 37, 38, 39, 40, 41, 42, 43, 44, 45, 46, 47, 48, 49, 50, 51, 52, 53, 54, 55, 56, 57, 58, 59, 60, 61, 62, 63, 64, 65, 66, 67, 68, 69, 70, 71, 72, 73, 74, 75, 76, 77, 78, 79, 80, 81, 82, 83, 84, 85, 86, 87, 88, 89, 90, 91, 92, 93, 94, 95, 96, 97, 98, 99, 100, 101, 102, 103, 104, 105, 106, 107, 108, 109, 110, 111, 112, 113, 114, 115, 116, 117, 118, 119, 120, 121, 122, 123, 124, 125, 126, 127, 128, 129, 130, 131, 132, 133, 134, 135, 136, 137, 138, 139, 140, 141, 142] (by decide +kernel) (by decide +kernel)) (goodIn_sub (fun _ h => List.mem_cons_of_mem _ (List.mem_append_right _ h)) (by decide +kernel))
set_option maxRecDepth 20000 in
theorem gX6_reasonFor_X6_reasonNow : GoodIn wsX6_reasonFor (wsV RX6 195 RX6 yX6_reasonNow wsX6_reasonNow) := goodIn_app (goodIn_of _ (by decide +kernel)) ggX6_reasonFor_X6_reasonNow
theorem dX6_reasonFor_0 : decode cX6_reasonFor 0 = .ok (.aload_n 0, 1) := by decide +kernel
theorem dX6_reasonFor_1 : decode cX6_reasonFor 1 = .ok (.aload_n 0, 1) := by decide +kernel
theorem dX6_reasonFor_2 : decode cX6_reasonFor 2 = .ok (.iload_n 1, 1) := by decide +kernel
theorem dX6_reasonFor_3 : decode cX6_reasonFor 3 = .ok (.invokevirtual 166, 3) := by decide +kernel
theorem dX6_reasonFor_6 : decode cX6_reasonFor 6 = .ok (.aload_n 0, 1) := by decide +kernel
theorem dX6_reasonFor_7 : decode cX6_reasonFor 7 = .ok (.iload_n 2, 1) := by decide +kernel
theorem dX6_reasonFor_8 : decode cX6_reasonFor 8 = .ok (.invokevirtual 86, 3) := by decide +kernel
theorem dX6_reasonFor_11 : decode cX6_reasonFor 11 = .ok (.invokevirtual 195, 3) := by decide +kernel
theorem dX6_reasonFor_14 : decode cX6_reasonFor 14 = .ok (.ireturn, 1) := by decide +kernel
set_option maxRecDepth 20000 in
theorem ggX6_wouldPrint_X6_jobAt : GoodIn wsX6_wouldPrint wsX6_jobAt := goodIn_ca (goodIn_r _ [7, 8, 9, 10, 106, 107, 108, 109, 110, 111, 112, 113, 114, 115, 116, 117] (by decide +kernel) (by decide +kernel)) (goodIn_sub (fun _ h => List.mem_cons_of_mem _ (List.mem_append_right _ h)) (by decide +kernel))
set_option maxRecDepth 20000 in
theorem gX6_wouldPrint_X6_jobAt : GoodIn wsX6_wouldPrint (wsV RX6 166 RX6 yX6_jobAt wsX6_jobAt) := goodIn_app (goodIn_of _ (by decide +kernel)) ggX6_wouldPrint_X6_jobAt
set_option maxRecDepth 20000 in
theorem ggX6_wouldPrint_X6_printerAt : GoodIn wsX6_wouldPrint wsX6_printerAt := goodIn_ca (goodIn_r _ [14, 8, 9, 15, 106, 107, 108, 109, 110, 111, 112, 113, 114, 115, 116, 117] (by decide +kernel) (by decide +kernel)) (goodIn_sub (fun _ h => List.mem_cons_of_mem _ (List.mem_append_right _ h)) (by decide +kernel))
set_option maxRecDepth 20000 in
theorem gX6_wouldPrint_X6_printerAt : GoodIn wsX6_wouldPrint (wsV RX6 86 RX6 yX6_printerAt wsX6_printerAt) := goodIn_app (goodIn_of _ (by decide +kernel)) ggX6_wouldPrint_X6_printerAt
set_option maxRecDepth 20000 in
theorem ggX6_wouldPrint_X6_makePlan : GoodIn wsX6_wouldPrint wsX6_makePlan := goodIn_ca (goodIn_r _ [19, 1, 20, 21, 22, 23, 6, 24, 25, 26, 27, 28, 29, 8, 9, 30, 31, 32, 33, 34, 35, 36, 37, 38, 39, 40, 41, 42, 43, 44, 45, 46, 47, 48, 49, 50, 51, 52, 53, 54, 55, 56, 57, 58, 59, 60, 61, 62, 63, 64, 65, 66, 67, 68, 69, 70, 71, 72, 73, 74, 75, 76, 77, 78, 79, 80, 81, 82, 83, 84, 85, 86, 87, 88, 89, 90, 91, 92, 93, 94, 95, 96, 97, 98, 99, 100, 101, 102, 103, 104, 105, 106, 107, 108, 109, 110, 111, 112, 113, 114, 115, 116, 117, 118, 119, 120, 121, 122, 123, 124, 125, 126, 127, 128, 129, 130, 131, 132, 133, 134, 135, 136, 137, 138, 139, 140, 141, 142, 143, 144, 145, 146, 147, 148, 149, 150, 151, 152, 153] (by decide +kernel) (by decide +kernel)) (goodIn_sub (fun _ h => List.mem_cons_of_mem _ (List.mem_append_right _ h)) (by decide +kernel))
set_option maxRecDepth 20000 in
theorem gX6_wouldPrint_X6_makePlan : GoodIn wsX6_wouldPrint (wsV RX6 199 RX6 yX6_makePlan wsX6_makePlan) := goodIn_app (goodIn_of _ (by decide +kernel)) ggX6_wouldPrint_X6_makePlan
theorem dX6_wouldPrint_0 : decode cX6_wouldPrint 0 = .ok (.aload_n 0, 1) := by decide +kernel
theorem dX6_wouldPrint_1 : decode cX6_wouldPrint 1 = .ok (.aload_n 0, 1) := by decide +kernel
theorem dX6_wouldPrint_2 : decode cX6_wouldPrint 2 = .ok (.iload_n 1, 1) := by decide +kernel
theorem dX6_wouldPrint_3 : decode cX6_wouldPrint 3 = .ok (.invokevirtual 166, 3) := by decide +kernel
theorem dX6_wouldPrint_6 : decode cX6_wouldPrint 6 = .ok (.aload_n 0, 1) := by decide +kernel
theorem dX6_wouldPrint_7 : decode cX6_wouldPrint 7 = .ok (.iload_n 2, 1) := by decide +kernel
theorem dX6_wouldPrint_8 : decode cX6_wouldPrint 8 = .ok (.invokevirtual 86, 3) := by decide +kernel
theorem dX6_wouldPrint_11 : decode cX6_wouldPrint 11 = .ok (.invokevirtual 199, 3) := by decide +kernel
theorem dX6_wouldPrint_14 : decode cX6_wouldPrint 14 = .ok (.aload_n 0, 1) := by decide +kernel
theorem dX6_wouldPrint_15 : decode cX6_wouldPrint 15 = .ok (.getfield 63, 3) := by decide +kernel
theorem dX6_wouldPrint_18 : decode cX6_wouldPrint 18 = .ok (.getfield 203, 3) := by decide +kernel
theorem dX6_wouldPrint_21 : decode cX6_wouldPrint 21 = .ok (.ireturn, 1) := by decide +kernel
set_option maxRecDepth 20000 in
theorem ggX6_release_X6_jobAt : GoodIn wsX6_release wsX6_jobAt := goodIn_ca (goodIn_r _ [10, 11, 12, 13, 216, 217, 218, 219, 220, 221, 222, 223, 224, 225, 226, 227] (by decide +kernel) (by decide +kernel)) (goodIn_sub (fun _ h => List.mem_cons_of_mem _ (List.mem_append_right _ h)) (by decide +kernel))
set_option maxRecDepth 20000 in
theorem gX6_release_X6_jobAt : GoodIn wsX6_release (wsV RX6 166 RX6 yX6_jobAt wsX6_jobAt) := goodIn_app (goodIn_of _ (by decide +kernel)) ggX6_release_X6_jobAt
set_option maxRecDepth 20000 in
theorem ggX6_release_X6_printerAt : GoodIn wsX6_release wsX6_printerAt := goodIn_ca (goodIn_r _ [17, 11, 12, 18, 216, 217, 218, 219, 220, 221, 222, 223, 224, 225, 226, 227] (by decide +kernel) (by decide +kernel)) (goodIn_sub (fun _ h => List.mem_cons_of_mem _ (List.mem_append_right _ h)) (by decide +kernel))
set_option maxRecDepth 20000 in
theorem gX6_release_X6_printerAt : GoodIn wsX6_release (wsV RX6 86 RX6 yX6_printerAt wsX6_printerAt) := goodIn_app (goodIn_of _ (by decide +kernel)) ggX6_release_X6_printerAt
set_option maxRecDepth 20000 in
theorem ggX6_release_X6_makePlan : GoodIn wsX6_release wsX6_makePlan := goodIn_ca (goodIn_r _ [22, 3, 23, 24, 25, 26, 9, 27, 28, 29, 30, 31, 32, 11, 12, 33, 34, 35, 36, 37, 38, 39, 40, 41, 42, 43, 44, 45, 46, 47, 48, 49, 50, 51, 52, 53, 54, 55, 56, 57, 58, 59, 60, 61, 62, 63, 64, 65, 66, 67, 68, 69, 70, 71, 72, 73, 74, 75, 76, 77, 78, 79, 80, 81, 82, 83, 84, 85, 86, 87, 88, 89, 90, 91, 92, 93, 94, 95, 96, 97, 98, 99, 100, 101, 102, 103, 104, 105, 106, 107, 108, 216, 217, 218, 219, 220, 221, 222, 223, 224, 225, 226, 227, 228, 229, 230, 231, 232, 233, 234, 235, 236, 237, 238, 239, 240, 241, 242, 243, 244, 245, 246, 247, 248, 249, 250, 251, 252, 253, 254, 255, 256, 257, 258, 259, 260, 261, 262, 263] (by decide +kernel) (by decide +kernel)) (goodIn_sub (fun _ h => List.mem_cons_of_mem _ (List.mem_append_right _ h)) (by decide +kernel))
set_option maxRecDepth 20000 in
theorem gX6_release_X6_makePlan : GoodIn wsX6_release (wsV RX6 199 RX6 yX6_makePlan wsX6_makePlan) := goodIn_app (goodIn_of _ (by decide +kernel)) ggX6_release_X6_makePlan
set_option maxRecDepth 20000 in
theorem ggX6_release_X6_carryOutPlan : GoodIn wsX6_release wsX6_carryOutPlan := goodIn_ca (goodIn_r _ [112, 28, 113, 3, 114, 115, 116, 92, 93, 94, 117, 118, 119, 5, 120, 4, 121, 122, 123, 124, 125, 126, 127, 128, 129, 130, 23, 131, 132, 133, 134, 135, 136, 137, 138, 139, 14, 15, 16, 9, 17, 11, 12, 18, 29, 30, 31, 32, 33, 140, 141, 142, 54, 143, 56, 57, 62, 144, 145, 96, 97, 81, 98, 99, 146, 101, 102, 103, 147, 148, 149, 66, 150, 68, 69, 151, 152, 153, 154, 155, 156, 157, 158, 159, 160, 161, 162, 163, 164, 165, 166, 167, 168, 169, 170, 171, 172, 173, 174, 175, 176, 177, 178, 179, 180, 181, 182, 183, 184, 185, 186, 187, 188, 189, 190, 191, 192, 193, 194, 195, 196, 197, 198, 199, 200, 201, 202, 203, 204, 205, 206, 207, 208, 209, 210, 211, 212, 213, 214, 215, 238, 239, 240, 241, 242, 243, 244, 245, 246, 247, 248, 249, 250, 251, 216, 217, 218, 219, 220, 221, 222, 223, 224, 225, 226, 227, 228, 229, 230, 231, 232, 233, 234, 235, 236, 237, 252, 253, 254, 255, 256, 257, 260, 261, 262, 263, 264, 265, 266, 267, 268, 269, 258, 259, 270, 271, 272] (by decide +kernel) (by decide +kernel)) (goodIn_sub (fun _ h => List.mem_cons_of_mem _ (List.mem_append_right _ h)) (by decide +kernel))
set_option maxRecDepth 20000 in
theorem gX6_release_X6_carryOutPlan : GoodIn wsX6_release (wsV RX6 212 RX6 yX6_carryOutPlan wsX6_carryOutPlan) := goodIn_app (goodIn_of _ (by decide +kernel)) ggX6_release_X6_carryOutPlan
theorem dX6_release_0 : decode cX6_release 0 = .ok (.aload_n 0, 1) := by decide +kernel
theorem dX6_release_1 : decode cX6_release 1 = .ok (.iload_n 1, 1) := by decide +kernel
theorem dX6_release_2 : decode cX6_release 2 = .ok (.invokevirtual 166, 3) := by decide +kernel
theorem dX6_release_5 : decode cX6_release 5 = .ok (.astore_n 3, 1) := by decide +kernel
theorem dX6_release_6 : decode cX6_release 6 = .ok (.aload_n 0, 1) := by decide +kernel
theorem dX6_release_7 : decode cX6_release 7 = .ok (.aload_n 3, 1) := by decide +kernel
theorem dX6_release_8 : decode cX6_release 8 = .ok (.aload_n 0, 1) := by decide +kernel
theorem dX6_release_9 : decode cX6_release 9 = .ok (.iload_n 2, 1) := by decide +kernel
theorem dX6_release_10 : decode cX6_release 10 = .ok (.invokevirtual 86, 3) := by decide +kernel
theorem dX6_release_13 : decode cX6_release 13 = .ok (.invokevirtual 199, 3) := by decide +kernel
theorem dX6_release_16 : decode cX6_release 16 = .ok (.aload_n 0, 1) := by decide +kernel
theorem dX6_release_17 : decode cX6_release 17 = .ok (.getfield 63, 3) := by decide +kernel
theorem dX6_release_20 : decode cX6_release 20 = .ok (.getfield 206, 3) := by decide +kernel
theorem dX6_release_23 : decode cX6_release 23 = .ok (.ifCond .ne 13, 3) := by decide +kernel
theorem dX6_release_26 : decode cX6_release 26 = .ok (.new 207, 3) := by decide +kernel
theorem dX6_release_29 : decode cX6_release 29 = .ok (.dup, 1) := by decide +kernel
theorem dX6_release_30 : decode cX6_release 30 = .ok (.ldc 209, 2) := by decide +kernel
theorem dX6_release_32 : decode cX6_release 32 = .ok (.invokespecial 211, 3) := by decide +kernel
theorem dX6_release_35 : decode cX6_release 35 = .ok (.athrow, 1) := by decide +kernel
theorem dX6_release_36 : decode cX6_release 36 = .ok (.aload_n 0, 1) := by decide +kernel
theorem dX6_release_37 : decode cX6_release 37 = .ok (.aload_n 3, 1) := by decide +kernel
theorem dX6_release_38 : decode cX6_release 38 = .ok (.iload_n 2, 1) := by decide +kernel
theorem dX6_release_39 : decode cX6_release 39 = .ok (.invokevirtual 212, 3) := by decide +kernel
theorem dX6_release_42 : decode cX6_release 42 = .ok (.aload_n 0, 1) := by decide +kernel
theorem dX6_release_43 : decode cX6_release 43 = .ok (.getfield 63, 3) := by decide +kernel
theorem dX6_release_46 : decode cX6_release 46 = .ok (.getfield 203, 3) := by decide +kernel
theorem dX6_release_49 : decode cX6_release 49 = .ok (.ireturn, 1) := by decide +kernel
set_option maxRecDepth 20000 in
theorem ggX6_releaseAll_X6_userAt : GoodIn wsX6_releaseAll wsX6_userAt := goodIn_ca (goodIn_r _ [10, 11, 12, 13, 216, 217, 218, 219, 220, 221, 222, 223, 224, 225, 226, 227] (by decide +kernel) (by decide +kernel)) (goodIn_sub (fun _ h => List.mem_cons_of_mem _ (List.mem_append_right _ h)) (by decide +kernel))
set_option maxRecDepth 20000 in
theorem gX6_releaseAll_X6_userAt : GoodIn wsX6_releaseAll (wsV RX6 140 RX6 yX6_userAt wsX6_userAt) := goodIn_app (goodIn_of _ (by decide +kernel)) ggX6_releaseAll_X6_userAt
set_option maxRecDepth 20000 in
theorem ggX6_releaseAll_X6_printerAt : GoodIn wsX6_releaseAll wsX6_printerAt := goodIn_ca (goodIn_r _ [17, 11, 12, 18, 216, 217, 218, 219, 220, 221, 222, 223, 224, 225, 226, 227] (by decide +kernel) (by decide +kernel)) (goodIn_sub (fun _ h => List.mem_cons_of_mem _ (List.mem_append_right _ h)) (by decide +kernel))
set_option maxRecDepth 20000 in
theorem gX6_releaseAll_X6_printerAt : GoodIn wsX6_releaseAll (wsV RX6 86 RX6 yX6_printerAt wsX6_printerAt) := goodIn_app (goodIn_of _ (by decide +kernel)) ggX6_releaseAll_X6_printerAt
set_option maxRecDepth 20000 in
theorem ggX6_releaseAll_X1_isHeld : GoodIn wsX6_releaseAll wsX1_isHeld := goodIn_r _ [23, 24, 25, 26, 27, 22, 28, 29, 30, 228, 229, 230, 231, 232, 233, 234, 235, 236, 237, 238, 239, 240, 241] (by decide +kernel) (by decide +kernel)
set_option maxRecDepth 20000 in
theorem gX6_releaseAll_X1_isHeld : GoodIn wsX6_releaseAll (wsV RX6 173 RX1 yX1_isHeld wsX1_isHeld) := goodIn_app (goodIn_of _ (by decide +kernel)) ggX6_releaseAll_X1_isHeld
set_option maxRecDepth 20000 in
theorem ggX6_releaseAll_X6_makePlan : GoodIn wsX6_releaseAll wsX6_makePlan := goodIn_ca (goodIn_r _ [34, 3, 5, 35, 36, 37, 9, 38, 2, 6, 7, 8, 10, 11, 12, 13, 39, 40, 41, 42, 43, 44, 45, 46, 47, 48, 49, 50, 51, 52, 53, 54, 55, 56, 57, 58, 59, 60, 61, 62, 63, 64, 65, 66, 67, 68, 69, 70, 71, 72, 73, 74, 75, 76, 77, 78, 79, 80, 81, 82, 83, 26, 27, 22, 28, 29, 30, 84, 85, 86, 87, 88, 89, 90, 91, 92, 93, 94, 95, 96, 97, 98, 99, 100, 101, 102, 103, 104, 105, 106, 107, 216, 217, 218, 219, 220, 221, 222, 223, 224, 225, 226, 227, 242, 243, 244, 245, 246, 247, 248, 249, 250, 251, 228, 229, 230, 231, 232, 233, 234, 235, 236, 237, 238, 239, 240, 241, 252, 253, 254, 255, 256, 257, 258, 259, 260, 261, 262, 263] (by decide +kernel) (by decide +kernel)) (goodIn_sub (fun _ h => List.mem_cons_of_mem _ (List.mem_append_right _ h)) (by decide +kernel))
set_option maxRecDepth 20000 in
theorem gX6_releaseAll_X6_makePlan : GoodIn wsX6_releaseAll (wsV RX6 199 RX6 yX6_makePlan wsX6_makePlan) := goodIn_app (goodIn_of _ (by decide +kernel)) ggX6_releaseAll_X6_makePlan
set_option maxRecDepth 20000 in
theorem ggX6_releaseAll_X6_carryOutPlan : GoodIn wsX6_releaseAll wsX6_carryOutPlan := goodIn_ca (goodIn_r _ [111, 2, 112, 3, 113, 114, 115, 91, 92, 93, 116, 117, 118, 119, 120, 4, 121, 122, 123, 124, 125, 126, 127, 128, 129, 130, 5, 131, 132, 133, 134, 135, 136, 137, 138, 139, 14, 15, 16, 9, 17, 11, 12, 18, 6, 7, 8, 10, 13, 140, 141, 142, 59, 143, 61, 62, 67, 144, 145, 95, 96, 22, 97, 98, 146, 100, 101, 102, 147, 148, 149, 71, 150, 73, 74, 151, 152, 153, 154, 155, 156, 157, 158, 159, 160, 161, 162, 163, 164, 165, 166, 167, 168, 169, 170, 171, 172, 173, 174, 175, 176, 177, 178, 179, 180, 181, 182, 183, 184, 185, 186, 187, 188, 189, 190, 191, 192, 193, 194, 195, 196, 197, 198, 199, 200, 201, 202, 203, 204, 205, 206, 207, 208, 209, 210, 211, 212, 213, 214, 215, 228, 229, 230, 231, 232, 233, 234, 235, 236, 237, 238, 239, 240, 241, 216, 217, 218, 219, 220, 221, 222, 223, 224, 225, 226, 227, 242, 243, 244, 245, 246, 247, 248, 249, 250, 251, 252, 253, 254, 255, 256, 257, 260, 261, 262, 263, 264, 265, 266, 267, 268, 269, 258, 259, 270, 271, 272] (by decide +kernel) (by decide +kernel)) (goodIn_sub (fun _ h => List.mem_cons_of_mem _ (List.mem_append_right _ h)) (by decide +kernel))
set_option maxRecDepth 20000 in
theorem gX6_releaseAll_X6_carryOutPlan : GoodIn wsX6_releaseAll (wsV RX6 212 RX6 yX6_carryOutPlan wsX6_carryOutPlan) := goodIn_app (goodIn_of _ (by decide +kernel)) ggX6_releaseAll_X6_carryOutPlan
theorem dX6_releaseAll_0 : decode cX6_releaseAll 0 = .ok (.aload_n 0, 1) := by decide +kernel
theorem dX6_releaseAll_1 : decode cX6_releaseAll 1 = .ok (.iload_n 1, 1) := by decide +kernel
theorem dX6_releaseAll_2 : decode cX6_releaseAll 2 = .ok (.invokevirtual 140, 3) := by decide +kernel
theorem dX6_releaseAll_5 : decode cX6_releaseAll 5 = .ok (.pop, 1) := by decide +kernel
theorem dX6_releaseAll_6 : decode cX6_releaseAll 6 = .ok (.aload_n 0, 1) := by decide +kernel
theorem dX6_releaseAll_7 : decode cX6_releaseAll 7 = .ok (.iload_n 2, 1) := by decide +kernel
theorem dX6_releaseAll_8 : decode cX6_releaseAll 8 = .ok (.invokevirtual 86, 3) := by decide +kernel
theorem dX6_releaseAll_11 : decode cX6_releaseAll 11 = .ok (.astore_n 3, 1) := by decide +kernel
theorem dX6_releaseAll_12 : decode cX6_releaseAll 12 = .ok (.iconst 0, 1) := by decide +kernel
theorem dX6_releaseAll_13 : decode cX6_releaseAll 13 = .ok (.istore 4, 2) := by decide +kernel
theorem dX6_releaseAll_15 : decode cX6_releaseAll 15 = .ok (.aload_n 0, 1) := by decide +kernel
theorem dX6_releaseAll_16 : decode cX6_releaseAll 16 = .ok (.getfield 23, 3) := by decide +kernel
theorem dX6_releaseAll_19 : decode cX6_releaseAll 19 = .ok (.astore 5, 2) := by decide +kernel
theorem dX6_releaseAll_21 : decode cX6_releaseAll 21 = .ok (.aload 5, 2) := by decide +kernel
theorem dX6_releaseAll_23 : decode cX6_releaseAll 23 = .ok (.arraylength, 1) := by decide +kernel
theorem dX6_releaseAll_24 : decode cX6_releaseAll 24 = .ok (.istore 6, 2) := by decide +kernel
theorem dX6_releaseAll_26 : decode cX6_releaseAll 26 = .ok (.iconst 0, 1) := by decide +kernel
theorem dX6_releaseAll_27 : decode cX6_releaseAll 27 = .ok (.istore 7, 2) := by decide +kernel
theorem dX6_releaseAll_29 : decode cX6_releaseAll 29 = .ok (.iload 7, 2) := by decide +kernel
theorem dX6_releaseAll_31 : decode cX6_releaseAll 31 = .ok (.iload 6, 2) := by decide +kernel
theorem dX6_releaseAll_33 : decode cX6_releaseAll 33 = .ok (.if_icmp .ge 84, 3) := by decide +kernel
theorem dX6_releaseAll_36 : decode cX6_releaseAll 36 = .ok (.aload 5, 2) := by decide +kernel
theorem dX6_releaseAll_38 : decode cX6_releaseAll 38 = .ok (.iload 7, 2) := by decide +kernel
theorem dX6_releaseAll_40 : decode cX6_releaseAll 40 = .ok (.aaload, 1) := by decide +kernel
theorem dX6_releaseAll_41 : decode cX6_releaseAll 41 = .ok (.astore 8, 2) := by decide +kernel
theorem dX6_releaseAll_43 : decode cX6_releaseAll 43 = .ok (.aload 8, 2) := by decide +kernel
theorem dX6_releaseAll_45 : decode cX6_releaseAll 45 = .ok (.ifnull 66, 3) := by decide +kernel
theorem dX6_releaseAll_48 : decode cX6_releaseAll 48 = .ok (.aload 8, 2) := by decide +kernel
theorem dX6_releaseAll_50 : decode cX6_releaseAll 50 = .ok (.getfield 216, 3) := by decide +kernel
theorem dX6_releaseAll_53 : decode cX6_releaseAll 53 = .ok (.iload_n 1, 1) := by decide +kernel
theorem dX6_releaseAll_54 : decode cX6_releaseAll 54 = .ok (.if_icmp .ne 57, 3) := by decide +kernel
theorem dX6_releaseAll_57 : decode cX6_releaseAll 57 = .ok (.aload 8, 2) := by decide +kernel
theorem dX6_releaseAll_59 : decode cX6_releaseAll 59 = .ok (.invokevirtual 173, 3) := by decide +kernel
theorem dX6_releaseAll_62 : decode cX6_releaseAll 62 = .ok (.ifCond .eq 49, 3) := by decide +kernel
theorem dX6_releaseAll_65 : decode cX6_releaseAll 65 = .ok (.aload_n 0, 1) := by decide +kernel
theorem dX6_releaseAll_66 : decode cX6_releaseAll 66 = .ok (.aload 8, 2) := by decide +kernel
theorem dX6_releaseAll_68 : decode cX6_releaseAll 68 = .ok (.aload_n 3, 1) := by decide +kernel
theorem dX6_releaseAll_69 : decode cX6_releaseAll 69 = .ok (.invokevirtual 199, 3) := by decide +kernel
theorem dX6_releaseAll_72 : decode cX6_releaseAll 72 = .ok (.aload_n 0, 1) := by decide +kernel
theorem dX6_releaseAll_73 : decode cX6_releaseAll 73 = .ok (.getfield 63, 3) := by decide +kernel
theorem dX6_releaseAll_76 : decode cX6_releaseAll 76 = .ok (.getfield 206, 3) := by decide +kernel
theorem dX6_releaseAll_79 : decode cX6_releaseAll 79 = .ok (.ifCond .le 32, 3) := by decide +kernel
theorem dX6_releaseAll_82 : decode cX6_releaseAll 82 = .ok (.aload_n 0, 1) := by decide +kernel
theorem dX6_releaseAll_83 : decode cX6_releaseAll 83 = .ok (.aload 8, 2) := by decide +kernel
theorem dX6_releaseAll_85 : decode cX6_releaseAll 85 = .ok (.iload_n 2, 1) := by decide +kernel
theorem dX6_releaseAll_86 : decode cX6_releaseAll 86 = .ok (.invokevirtual 212, 3) := by decide +kernel
theorem dX6_releaseAll_89 : decode cX6_releaseAll 89 = .ok (.iload 4, 2) := by decide +kernel
theorem dX6_releaseAll_91 : decode cX6_releaseAll 91 = .ok (.aload_n 0, 1) := by decide +kernel
theorem dX6_releaseAll_92 : decode cX6_releaseAll 92 = .ok (.getfield 63, 3) := by decide +kernel
theorem dX6_releaseAll_95 : decode cX6_releaseAll 95 = .ok (.getfield 219, 3) := by decide +kernel
theorem dX6_releaseAll_98 : decode cX6_releaseAll 98 = .ok (.bipush 100, 2) := by decide +kernel
theorem dX6_releaseAll_100 : decode cX6_releaseAll 100 = .ok (.if_icmp .ne 7, 3) := by decide +kernel
theorem dX6_releaseAll_103 : decode cX6_releaseAll 103 = .ok (.iconst 1, 1) := by decide +kernel
theorem dX6_releaseAll_104 : decode cX6_releaseAll 104 = .ok (.goto 4, 3) := by decide +kernel
theorem dX6_releaseAll_107 : decode cX6_releaseAll 107 = .ok (.iconst 0, 1) := by decide +kernel
theorem dX6_releaseAll_108 : decode cX6_releaseAll 108 = .ok (.iadd, 1) := by decide +kernel
theorem dX6_releaseAll_109 : decode cX6_releaseAll 109 = .ok (.istore 4, 2) := by decide +kernel
theorem dX6_releaseAll_111 : decode cX6_releaseAll 111 = .ok (.iinc 7 1, 3) := by decide +kernel
theorem dX6_releaseAll_114 : decode cX6_releaseAll 114 = .ok (.goto (-85), 3) := by decide +kernel
theorem dX6_releaseAll_117 : decode cX6_releaseAll 117 = .ok (.iload 4, 2) := by decide +kernel
theorem dX6_releaseAll_119 : decode cX6_releaseAll 119 = .ok (.ireturn, 1) := by decide +kernel
set_option maxRecDepth 20000 in
theorem ggX6_stopOf_X6_jobAt : GoodIn wsX6_stopOf wsX6_jobAt := goodIn_ca (goodIn_r _ [8, 9, 10, 11, 26, 27, 28, 29, 30, 31, 32, 33, 34, 35, 36, 37] (by decide +kernel) (by decide +kernel)) (goodIn_sub (fun _ h => List.mem_cons_of_mem _ (List.mem_append_right _ h)) (by decide +kernel))
set_option maxRecDepth 20000 in
theorem gX6_stopOf_X6_jobAt : GoodIn wsX6_stopOf (wsV RX6 166 RX6 yX6_jobAt wsX6_jobAt) := goodIn_app (goodIn_of _ (by decide +kernel)) ggX6_stopOf_X6_jobAt
theorem dX6_stopOf_0 : decode cX6_stopOf 0 = .ok (.aload_n 0, 1) := by decide +kernel
theorem dX6_stopOf_1 : decode cX6_stopOf 1 = .ok (.iload_n 1, 1) := by decide +kernel
theorem dX6_stopOf_2 : decode cX6_stopOf 2 = .ok (.invokevirtual 166, 3) := by decide +kernel
theorem dX6_stopOf_5 : decode cX6_stopOf 5 = .ok (.astore_n 2, 1) := by decide +kernel
theorem dX6_stopOf_6 : decode cX6_stopOf 6 = .ok (.aload_n 2, 1) := by decide +kernel
theorem dX6_stopOf_7 : decode cX6_stopOf 7 = .ok (.getfield 222, 3) := by decide +kernel
theorem dX6_stopOf_10 : decode cX6_stopOf 10 = .ok (.bipush 45, 2) := by decide +kernel
theorem dX6_stopOf_12 : decode cX6_stopOf 12 = .ok (.if_icmp .ne 13, 3) := by decide +kernel
theorem dX6_stopOf_15 : decode cX6_stopOf 15 = .ok (.new 223, 3) := by decide +kernel
theorem dX6_stopOf_18 : decode cX6_stopOf 18 = .ok (.dup, 1) := by decide +kernel
theorem dX6_stopOf_19 : decode cX6_stopOf 19 = .ok (.ldc 225, 2) := by decide +kernel
theorem dX6_stopOf_21 : decode cX6_stopOf 21 = .ok (.invokespecial 227, 3) := by decide +kernel
theorem dX6_stopOf_24 : decode cX6_stopOf 24 = .ok (.athrow, 1) := by decide +kernel
theorem dX6_stopOf_25 : decode cX6_stopOf 25 = .ok (.aload_n 2, 1) := by decide +kernel
theorem dX6_stopOf_26 : decode cX6_stopOf 26 = .ok (.getfield 222, 3) := by decide +kernel
theorem dX6_stopOf_29 : decode cX6_stopOf 29 = .ok (.ireturn, 1) := by decide +kernel
set_option maxRecDepth 20000 in
theorem ggX6_bestPrinter_X6_jobAt : GoodIn wsX6_bestPrinter wsX6_jobAt := goodIn_ca (goodIn_r _ [10, 11, 12, 13, 104, 105, 106, 107, 108, 109, 110, 111, 112, 113, 114, 115] (by decide +kernel) (by decide +kernel)) (goodIn_sub (fun _ h => List.mem_cons_of_mem _ (List.mem_append_right _ h)) (by decide +kernel))
set_option maxRecDepth 20000 in
theorem gX6_bestPrinter_X6_jobAt : GoodIn wsX6_bestPrinter (wsV RX6 166 RX6 yX6_jobAt wsX6_jobAt) := goodIn_app (goodIn_of _ (by decide +kernel)) ggX6_bestPrinter_X6_jobAt
set_option maxRecDepth 20000 in
theorem ggX6_bestPrinter_X6_makePlan : GoodIn wsX6_bestPrinter wsX6_makePlan := goodIn_ca (goodIn_r _ [17, 4, 18, 19, 20, 21, 9, 22, 23, 24, 25, 26, 27, 11, 12, 28, 29, 30, 31, 32, 33, 34, 35, 36, 37, 38, 39, 40, 41, 42, 43, 44, 45, 46, 47, 48, 49, 50, 51, 52, 53, 54, 55, 56, 57, 58, 59, 60, 61, 62, 63, 64, 65, 66, 67, 68, 69, 70, 71, 72, 73, 74, 75, 76, 77, 78, 79, 80, 81, 82, 83, 84, 85, 86, 87, 88, 89, 90, 91, 92, 93, 94, 95, 96, 97, 98, 99, 100, 101, 102, 103, 104, 105, 106, 107, 108, 109, 110, 111, 112, 113, 114, 115, 116, 117, 118, 119, 120, 121, 122, 123, 124, 125, 126, 127, 128, 129, 130, 131, 132, 133, 134, 135, 136, 137, 138, 139, 140, 141, 142, 143, 144, 145, 146, 147, 148, 149, 150, 151] (by decide +kernel) (by decide +kernel)) (goodIn_sub (fun _ h => List.mem_cons_of_mem _ (List.mem_append_right _ h)) (by decide +kernel))
set_option maxRecDepth 20000 in
theorem gX6_bestPrinter_X6_makePlan : GoodIn wsX6_bestPrinter (wsV RX6 199 RX6 yX6_makePlan wsX6_makePlan) := goodIn_app (goodIn_of _ (by decide +kernel)) ggX6_bestPrinter_X6_makePlan
theorem dX6_bestPrinter_0 : decode cX6_bestPrinter 0 = .ok (.aload_n 0, 1) := by decide +kernel
theorem dX6_bestPrinter_1 : decode cX6_bestPrinter 1 = .ok (.iload_n 1, 1) := by decide +kernel
theorem dX6_bestPrinter_2 : decode cX6_bestPrinter 2 = .ok (.invokevirtual 166, 3) := by decide +kernel
theorem dX6_bestPrinter_5 : decode cX6_bestPrinter 5 = .ok (.astore_n 2, 1) := by decide +kernel
theorem dX6_bestPrinter_6 : decode cX6_bestPrinter 6 = .ok (.iconst (-1), 1) := by decide +kernel
theorem dX6_bestPrinter_7 : decode cX6_bestPrinter 7 = .ok (.istore_n 3, 1) := by decide +kernel
theorem dX6_bestPrinter_8 : decode cX6_bestPrinter 8 = .ok (.iconst 0, 1) := by decide +kernel
theorem dX6_bestPrinter_9 : decode cX6_bestPrinter 9 = .ok (.istore 4, 2) := by decide +kernel
theorem dX6_bestPrinter_11 : decode cX6_bestPrinter 11 = .ok (.iconst 0, 1) := by decide +kernel
theorem dX6_bestPrinter_12 : decode cX6_bestPrinter 12 = .ok (.istore 5, 2) := by decide +kernel
theorem dX6_bestPrinter_14 : decode cX6_bestPrinter 14 = .ok (.iload 5, 2) := by decide +kernel
theorem dX6_bestPrinter_16 : decode cX6_bestPrinter 16 = .ok (.aload_n 0, 1) := by decide +kernel
theorem dX6_bestPrinter_17 : decode cX6_bestPrinter 17 = .ok (.getfield 17, 3) := by decide +kernel
theorem dX6_bestPrinter_20 : decode cX6_bestPrinter 20 = .ok (.arraylength, 1) := by decide +kernel
theorem dX6_bestPrinter_21 : decode cX6_bestPrinter 21 = .ok (.if_icmp .ge 54, 3) := by decide +kernel
theorem dX6_bestPrinter_24 : decode cX6_bestPrinter 24 = .ok (.aload_n 0, 1) := by decide +kernel
theorem dX6_bestPrinter_25 : decode cX6_bestPrinter 25 = .ok (.getfield 17, 3) := by decide +kernel
theorem dX6_bestPrinter_28 : decode cX6_bestPrinter 28 = .ok (.iload 5, 2) := by decide +kernel
theorem dX6_bestPrinter_30 : decode cX6_bestPrinter 30 = .ok (.aaload, 1) := by decide +kernel
theorem dX6_bestPrinter_31 : decode cX6_bestPrinter 31 = .ok (.astore 6, 2) := by decide +kernel
theorem dX6_bestPrinter_33 : decode cX6_bestPrinter 33 = .ok (.aload 6, 2) := by decide +kernel
theorem dX6_bestPrinter_35 : decode cX6_bestPrinter 35 = .ok (.ifnull 34, 3) := by decide +kernel
theorem dX6_bestPrinter_38 : decode cX6_bestPrinter 38 = .ok (.aload_n 0, 1) := by decide +kernel
theorem dX6_bestPrinter_39 : decode cX6_bestPrinter 39 = .ok (.aload_n 2, 1) := by decide +kernel
theorem dX6_bestPrinter_40 : decode cX6_bestPrinter 40 = .ok (.aload 6, 2) := by decide +kernel
theorem dX6_bestPrinter_42 : decode cX6_bestPrinter 42 = .ok (.invokevirtual 199, 3) := by decide +kernel
theorem dX6_bestPrinter_45 : decode cX6_bestPrinter 45 = .ok (.aload_n 0, 1) := by decide +kernel
theorem dX6_bestPrinter_46 : decode cX6_bestPrinter 46 = .ok (.getfield 63, 3) := by decide +kernel
theorem dX6_bestPrinter_49 : decode cX6_bestPrinter 49 = .ok (.getfield 203, 3) := by decide +kernel
theorem dX6_bestPrinter_52 : decode cX6_bestPrinter 52 = .ok (.iload 4, 2) := by decide +kernel
theorem dX6_bestPrinter_54 : decode cX6_bestPrinter 54 = .ok (.if_icmp .le 15, 3) := by decide +kernel
theorem dX6_bestPrinter_57 : decode cX6_bestPrinter 57 = .ok (.iload 5, 2) := by decide +kernel
theorem dX6_bestPrinter_59 : decode cX6_bestPrinter 59 = .ok (.istore_n 3, 1) := by decide +kernel
theorem dX6_bestPrinter_60 : decode cX6_bestPrinter 60 = .ok (.aload_n 0, 1) := by decide +kernel
theorem dX6_bestPrinter_61 : decode cX6_bestPrinter 61 = .ok (.getfield 63, 3) := by decide +kernel
theorem dX6_bestPrinter_64 : decode cX6_bestPrinter 64 = .ok (.getfield 203, 3) := by decide +kernel
theorem dX6_bestPrinter_67 : decode cX6_bestPrinter 67 = .ok (.istore 4, 2) := by decide +kernel
theorem dX6_bestPrinter_69 : decode cX6_bestPrinter 69 = .ok (.iinc 5 1, 3) := by decide +kernel
theorem dX6_bestPrinter_72 : decode cX6_bestPrinter 72 = .ok (.goto (-58), 3) := by decide +kernel
theorem dX6_bestPrinter_75 : decode cX6_bestPrinter 75 = .ok (.iload_n 3, 1) := by decide +kernel
theorem dX6_bestPrinter_76 : decode cX6_bestPrinter 76 = .ok (.ifCond .ge 13, 3) := by decide +kernel
theorem dX6_bestPrinter_79 : decode cX6_bestPrinter 79 = .ok (.new 223, 3) := by decide +kernel
theorem dX6_bestPrinter_82 : decode cX6_bestPrinter 82 = .ok (.dup, 1) := by decide +kernel
theorem dX6_bestPrinter_83 : decode cX6_bestPrinter 83 = .ok (.ldc 228, 2) := by decide +kernel
theorem dX6_bestPrinter_85 : decode cX6_bestPrinter 85 = .ok (.invokespecial 227, 3) := by decide +kernel
theorem dX6_bestPrinter_88 : decode cX6_bestPrinter 88 = .ok (.athrow, 1) := by decide +kernel
theorem dX6_bestPrinter_89 : decode cX6_bestPrinter 89 = .ok (.iload_n 3, 1) := by decide +kernel
theorem dX6_bestPrinter_90 : decode cX6_bestPrinter 90 = .ok (.ireturn, 1) := by decide +kernel
set_option maxRecDepth 20000 in
theorem ggX6_queueLength_X6_printerAt : GoodIn wsX6_queueLength wsX6_printerAt := goodIn_ca (goodIn_r _ [6, 7, 8, 9, 91, 92, 93, 94, 95, 96, 97, 98, 99, 100, 101, 102] (by decide +kernel) (by decide +kernel)) (goodIn_sub (fun _ h => List.mem_cons_of_mem _ (List.mem_append_right _ h)) (by decide +kernel))
set_option maxRecDepth 20000 in
theorem gX6_queueLength_X6_printerAt : GoodIn wsX6_queueLength (wsV RX6 86 RX6 yX6_printerAt wsX6_printerAt) := goodIn_app (goodIn_of _ (by decide +kernel)) ggX6_queueLength_X6_printerAt
set_option maxRecDepth 20000 in
theorem ggX6_queueLength_X6_reasonNow : GoodIn wsX6_queueLength wsX6_reasonNow := goodIn_ca (goodIn_r _ [13, 14, 15, 16, 17, 18, 5, 19, 7, 8, 20, 21, 22, 23, 24, 25, 26, 27, 28, 29, 30, 31, 32, 33, 34, 35, 36, 37, 38, 39, 40, 41, 42, 43, 44, 45, 46, 47, 48, 49, 50, 51, 52, 53, 54, 55, 56, 57, 58, 59, 60, 61, 62, 63, 64, 65, 66, 67, 68, 69, 70, 71, 72, 73, 74, 75, 76, 77, 78, 79, 80, 81, 82, 83, 84, 85, 86, 87, 88, 89, 90, 91, 92, 93, 94, 95, 96, 97, 98, 99, 100, 101, 102, 103, 104, 105, 106, 107, 108, 109, 110, 111, 112, 113, 114, 115, 116, 117, 118, 119, 120, 121, 122, 123, 124, 125, 126, 127, 128, 129, 130, 131, 132, 133, 134, 135, 136, 137, 138] (by decide +kernel) (by decide +kernel)) (goodIn_sub (fun _ h => List.mem_cons_of_mem _ (List.mem_append_right _ h)) (by decide +kernel))
set_option maxRecDepth 20000 in
theorem gX6_queueLength_X6_reasonNow : GoodIn wsX6_queueLength (wsV RX6 195 RX6 yX6_reasonNow wsX6_reasonNow) := goodIn_app (goodIn_of _ (by decide +kernel)) ggX6_queueLength_X6_reasonNow
theorem dX6_queueLength_0 : decode cX6_queueLength 0 = .ok (.aload_n 0, 1) := by decide +kernel
theorem dX6_queueLength_1 : decode cX6_queueLength 1 = .ok (.iload_n 1, 1) := by decide +kernel
theorem dX6_queueLength_2 : decode cX6_queueLength 2 = .ok (.invokevirtual 86, 3) := by decide +kernel
theorem dX6_queueLength_5 : decode cX6_queueLength 5 = .ok (.astore_n 2, 1) := by decide +kernel
theorem dX6_queueLength_6 : decode cX6_queueLength 6 = .ok (.iconst 0, 1) := by decide +kernel
theorem dX6_queueLength_7 : decode cX6_queueLength 7 = .ok (.istore_n 3, 1) := by decide +kernel
theorem dX6_queueLength_8 : decode cX6_queueLength 8 = .ok (.aload_n 0, 1) := by decide +kernel
theorem dX6_queueLength_9 : decode cX6_queueLength 9 = .ok (.getfield 23, 3) := by decide +kernel
theorem dX6_queueLength_12 : decode cX6_queueLength 12 = .ok (.astore 4, 2) := by decide +kernel
theorem dX6_queueLength_14 : decode cX6_queueLength 14 = .ok (.aload 4, 2) := by decide +kernel
theorem dX6_queueLength_16 : decode cX6_queueLength 16 = .ok (.arraylength, 1) := by decide +kernel
theorem dX6_queueLength_17 : decode cX6_queueLength 17 = .ok (.istore 5, 2) := by decide +kernel
theorem dX6_queueLength_19 : decode cX6_queueLength 19 = .ok (.iconst 0, 1) := by decide +kernel
theorem dX6_queueLength_20 : decode cX6_queueLength 20 = .ok (.istore 6, 2) := by decide +kernel
theorem dX6_queueLength_22 : decode cX6_queueLength 22 = .ok (.iload 6, 2) := by decide +kernel
theorem dX6_queueLength_24 : decode cX6_queueLength 24 = .ok (.iload 5, 2) := by decide +kernel
theorem dX6_queueLength_26 : decode cX6_queueLength 26 = .ok (.if_icmp .ge 36, 3) := by decide +kernel
theorem dX6_queueLength_29 : decode cX6_queueLength 29 = .ok (.aload 4, 2) := by decide +kernel
theorem dX6_queueLength_31 : decode cX6_queueLength 31 = .ok (.iload 6, 2) := by decide +kernel
theorem dX6_queueLength_33 : decode cX6_queueLength 33 = .ok (.aaload, 1) := by decide +kernel
theorem dX6_queueLength_34 : decode cX6_queueLength 34 = .ok (.astore 7, 2) := by decide +kernel
theorem dX6_queueLength_36 : decode cX6_queueLength 36 = .ok (.aload 7, 2) := by decide +kernel
theorem dX6_queueLength_38 : decode cX6_queueLength 38 = .ok (.ifnull 18, 3) := by decide +kernel
theorem dX6_queueLength_41 : decode cX6_queueLength 41 = .ok (.aload_n 0, 1) := by decide +kernel
theorem dX6_queueLength_42 : decode cX6_queueLength 42 = .ok (.aload 7, 2) := by decide +kernel
theorem dX6_queueLength_44 : decode cX6_queueLength 44 = .ok (.aload_n 2, 1) := by decide +kernel
theorem dX6_queueLength_45 : decode cX6_queueLength 45 = .ok (.invokevirtual 195, 3) := by decide +kernel
theorem dX6_queueLength_48 : decode cX6_queueLength 48 = .ok (.bipush 45, 2) := by decide +kernel
theorem dX6_queueLength_50 : decode cX6_queueLength 50 = .ok (.if_icmp .ne 6, 3) := by decide +kernel
theorem dX6_queueLength_53 : decode cX6_queueLength 53 = .ok (.iinc 3 1, 3) := by decide +kernel
theorem dX6_queueLength_56 : decode cX6_queueLength 56 = .ok (.iinc 6 1, 3) := by decide +kernel
theorem dX6_queueLength_59 : decode cX6_queueLength 59 = .ok (.goto (-37), 3) := by decide +kernel
theorem dX6_queueLength_62 : decode cX6_queueLength 62 = .ok (.iload_n 3, 1) := by decide +kernel
theorem dX6_queueLength_63 : decode cX6_queueLength 63 = .ok (.ireturn, 1) := by decide +kernel
set_option maxRecDepth 20000 in
theorem ggX6_queueAt_X6_printerAt : GoodIn wsX6_queueAt wsX6_printerAt := goodIn_ca (goodIn_r _ [9, 10, 11, 12, 109, 110, 111, 112, 113, 114, 115, 116, 117, 118, 119, 120] (by decide +kernel) (by decide +kernel)) (goodIn_sub (fun _ h => List.mem_cons_of_mem _ (List.mem_append_right _ h)) (by decide +kernel))
set_option maxRecDepth 20000 in
theorem gX6_queueAt_X6_printerAt : GoodIn wsX6_queueAt (wsV RX6 86 RX6 yX6_printerAt wsX6_printerAt) := goodIn_app (goodIn_of _ (by decide +kernel)) ggX6_queueAt_X6_printerAt
set_option maxRecDepth 20000 in
theorem ggX6_queueAt_X6_isQueued : GoodIn wsX6_queueAt wsX6_isQueued := goodIn_ca (goodIn_r _ [16, 17, 18, 19, 20, 21, 22, 8, 23, 24, 25, 26, 27, 28, 29, 30, 31, 32, 10, 11, 33, 34, 35, 36, 37, 38, 39, 40, 41, 42, 43, 44, 45, 46, 47, 48, 49, 50, 51, 52, 53, 54, 55, 56, 57, 58, 59, 60, 61, 62, 63, 64, 65, 66, 67, 68, 69, 70, 71, 72, 73, 74, 75, 76, 77, 78, 79, 80, 81, 82, 83, 84, 85, 86, 87, 88, 89, 90, 91, 92, 93, 94, 95, 96, 97, 98, 99, 100, 101, 102, 103, 104, 105, 106, 107, 108, 109, 110, 111, 112, 113, 114, 115, 116, 117, 118, 119, 120, 135, 136, 137, 138, 139, 140, 141, 142, 143, 144, 121, 122, 123, 124, 125, 126, 127, 128, 129, 130, 131, 132, 133, 134, 145, 146, 147, 148, 149, 150, 151, 152, 153, 154, 155, 156] (by decide +kernel) (by decide +kernel)) (goodIn_sub (fun _ h => List.mem_cons_of_mem _ (List.mem_append_right _ h)) (by decide +kernel))
set_option maxRecDepth 20000 in
theorem gX6_queueAt_X6_isQueued : GoodIn wsX6_queueAt (wsV RX6 230 RX6 yX6_isQueued wsX6_isQueued) := goodIn_app (goodIn_of _ (by decide +kernel)) ggX6_queueAt_X6_isQueued
theorem dX6_queueAt_0 : decode cX6_queueAt 0 = .ok (.aload_n 0, 1) := by decide +kernel
theorem dX6_queueAt_1 : decode cX6_queueAt 1 = .ok (.iload_n 1, 1) := by decide +kernel
theorem dX6_queueAt_2 : decode cX6_queueAt 2 = .ok (.invokevirtual 86, 3) := by decide +kernel
theorem dX6_queueAt_5 : decode cX6_queueAt 5 = .ok (.astore_n 3, 1) := by decide +kernel
theorem dX6_queueAt_6 : decode cX6_queueAt 6 = .ok (.iconst 0, 1) := by decide +kernel
theorem dX6_queueAt_7 : decode cX6_queueAt 7 = .ok (.istore 4, 2) := by decide +kernel
theorem dX6_queueAt_9 : decode cX6_queueAt 9 = .ok (.iconst 0, 1) := by decide +kernel
theorem dX6_queueAt_10 : decode cX6_queueAt 10 = .ok (.istore 5, 2) := by decide +kernel
theorem dX6_queueAt_12 : decode cX6_queueAt 12 = .ok (.iload 5, 2) := by decide +kernel
theorem dX6_queueAt_14 : decode cX6_queueAt 14 = .ok (.iconst 2, 1) := by decide +kernel
theorem dX6_queueAt_15 : decode cX6_queueAt 15 = .ok (.if_icmp .ge 83, 3) := by decide +kernel
theorem dX6_queueAt_18 : decode cX6_queueAt 18 = .ok (.aload_n 0, 1) := by decide +kernel
theorem dX6_queueAt_19 : decode cX6_queueAt 19 = .ok (.getfield 23, 3) := by decide +kernel
theorem dX6_queueAt_22 : decode cX6_queueAt 22 = .ok (.astore 6, 2) := by decide +kernel
theorem dX6_queueAt_24 : decode cX6_queueAt 24 = .ok (.aload 6, 2) := by decide +kernel
theorem dX6_queueAt_26 : decode cX6_queueAt 26 = .ok (.arraylength, 1) := by decide +kernel
theorem dX6_queueAt_27 : decode cX6_queueAt 27 = .ok (.istore 7, 2) := by decide +kernel
theorem dX6_queueAt_29 : decode cX6_queueAt 29 = .ok (.iconst 0, 1) := by decide +kernel
theorem dX6_queueAt_30 : decode cX6_queueAt 30 = .ok (.istore 8, 2) := by decide +kernel
theorem dX6_queueAt_32 : decode cX6_queueAt 32 = .ok (.iload 8, 2) := by decide +kernel
theorem dX6_queueAt_34 : decode cX6_queueAt 34 = .ok (.iload 7, 2) := by decide +kernel
theorem dX6_queueAt_36 : decode cX6_queueAt 36 = .ok (.if_icmp .ge 56, 3) := by decide +kernel
theorem dX6_queueAt_39 : decode cX6_queueAt 39 = .ok (.aload 6, 2) := by decide +kernel
theorem dX6_queueAt_41 : decode cX6_queueAt 41 = .ok (.iload 8, 2) := by decide +kernel
theorem dX6_queueAt_43 : decode cX6_queueAt 43 = .ok (.aaload, 1) := by decide +kernel
theorem dX6_queueAt_44 : decode cX6_queueAt 44 = .ok (.astore 9, 2) := by decide +kernel
theorem dX6_queueAt_46 : decode cX6_queueAt 46 = .ok (.aload 9, 2) := by decide +kernel
theorem dX6_queueAt_48 : decode cX6_queueAt 48 = .ok (.ifnull 38, 3) := by decide +kernel
theorem dX6_queueAt_51 : decode cX6_queueAt 51 = .ok (.aload_n 0, 1) := by decide +kernel
theorem dX6_queueAt_52 : decode cX6_queueAt 52 = .ok (.aload 9, 2) := by decide +kernel
theorem dX6_queueAt_54 : decode cX6_queueAt 54 = .ok (.aload_n 3, 1) := by decide +kernel
theorem dX6_queueAt_55 : decode cX6_queueAt 55 = .ok (.iload 5, 2) := by decide +kernel
theorem dX6_queueAt_57 : decode cX6_queueAt 57 = .ok (.ifCond .ne 7, 3) := by decide +kernel
theorem dX6_queueAt_60 : decode cX6_queueAt 60 = .ok (.iconst 1, 1) := by decide +kernel
theorem dX6_queueAt_61 : decode cX6_queueAt 61 = .ok (.goto 4, 3) := by decide +kernel
theorem dX6_queueAt_64 : decode cX6_queueAt 64 = .ok (.iconst 0, 1) := by decide +kernel
theorem dX6_queueAt_65 : decode cX6_queueAt 65 = .ok (.invokevirtual 230, 3) := by decide +kernel
theorem dX6_queueAt_68 : decode cX6_queueAt 68 = .ok (.ifCond .eq 18, 3) := by decide +kernel
theorem dX6_queueAt_71 : decode cX6_queueAt 71 = .ok (.iload 4, 2) := by decide +kernel
theorem dX6_queueAt_73 : decode cX6_queueAt 73 = .ok (.iload_n 2, 1) := by decide +kernel
theorem dX6_queueAt_74 : decode cX6_queueAt 74 = .ok (.if_icmp .ne 9, 3) := by decide +kernel
theorem dX6_queueAt_77 : decode cX6_queueAt 77 = .ok (.aload 9, 2) := by decide +kernel
theorem dX6_queueAt_79 : decode cX6_queueAt 79 = .ok (.getfield 234, 3) := by decide +kernel
theorem dX6_queueAt_82 : decode cX6_queueAt 82 = .ok (.ireturn, 1) := by decide +kernel
theorem dX6_queueAt_83 : decode cX6_queueAt 83 = .ok (.iinc 4 1, 3) := by decide +kernel
theorem dX6_queueAt_86 : decode cX6_queueAt 86 = .ok (.iinc 8 1, 3) := by decide +kernel
theorem dX6_queueAt_89 : decode cX6_queueAt 89 = .ok (.goto (-57), 3) := by decide +kernel
theorem dX6_queueAt_92 : decode cX6_queueAt 92 = .ok (.iinc 5 1, 3) := by decide +kernel
theorem dX6_queueAt_95 : decode cX6_queueAt 95 = .ok (.goto (-83), 3) := by decide +kernel
theorem dX6_queueAt_98 : decode cX6_queueAt 98 = .ok (.new 223, 3) := by decide +kernel
theorem dX6_queueAt_101 : decode cX6_queueAt 101 = .ok (.dup, 1) := by decide +kernel
theorem dX6_queueAt_102 : decode cX6_queueAt 102 = .ok (.ldc 237, 2) := by decide +kernel
theorem dX6_queueAt_104 : decode cX6_queueAt 104 = .ok (.invokespecial 227, 3) := by decide +kernel
theorem dX6_queueAt_107 : decode cX6_queueAt 107 = .ok (.athrow, 1) := by decide +kernel
set_option maxRecDepth 20000 in
theorem ggX6_logSize_Jx4a65c_size_8abf5 : GoodIn wsX6_logSize wsJx4a65c_size_8abf5 := goodIn_r _ [6, 7, 20, 21, 22] (by decide +kernel) (by decide +kernel)
set_option maxRecDepth 20000 in
theorem gX6_logSize_Jx4a65c_size_8abf5 : GoodIn wsX6_logSize (wsV RX6 239 RJx4a65c yJx4a65c_size_8abf5 wsJx4a65c_size_8abf5) := goodIn_app (goodIn_of _ (by decide +kernel)) ggX6_logSize_Jx4a65c_size_8abf5
theorem dX6_logSize_0 : decode cX6_logSize 0 = .ok (.aload_n 0, 1) := by decide +kernel
theorem dX6_logSize_1 : decode cX6_logSize 1 = .ok (.getfield 49, 3) := by decide +kernel
theorem dX6_logSize_4 : decode cX6_logSize 4 = .ok (.invokevirtual 239, 3) := by decide +kernel
theorem dX6_logSize_7 : decode cX6_logSize 7 = .ok (.ireturn, 1) := by decide +kernel
set_option maxRecDepth 20000 in
theorem ggX6_logJob_X6_entryAt : GoodIn wsX6_logJob wsX6_entryAt := goodIn_ca (goodIn_r _ [6, 7, 8, 9, 10, 11, 12, 13, 14, 15, 16, 17, 18, 19, 20, 21, 22, 23, 24, 25, 26, 27, 28, 29, 30, 31, 32, 33, 40, 41, 42, 43, 44, 45, 46, 47, 48, 49, 50, 51, 52, 53, 54] (by decide +kernel) (by decide +kernel)) (goodIn_sub (fun _ h => List.mem_cons_of_mem _ (List.mem_append_right _ h)) (by decide +kernel))
set_option maxRecDepth 20000 in
theorem gX6_logJob_X6_entryAt : GoodIn wsX6_logJob (wsV RX6 242 RX6 yX6_entryAt wsX6_entryAt) := goodIn_app (goodIn_of _ (by decide +kernel)) ggX6_logJob_X6_entryAt
theorem dX6_logJob_0 : decode cX6_logJob 0 = .ok (.aload_n 0, 1) := by decide +kernel
theorem dX6_logJob_1 : decode cX6_logJob 1 = .ok (.iload_n 1, 1) := by decide +kernel
theorem dX6_logJob_2 : decode cX6_logJob 2 = .ok (.invokevirtual 242, 3) := by decide +kernel
theorem dX6_logJob_5 : decode cX6_logJob 5 = .ok (.getfield 246, 3) := by decide +kernel
theorem dX6_logJob_8 : decode cX6_logJob 8 = .ok (.ireturn, 1) := by decide +kernel
set_option maxRecDepth 20000 in
theorem ggX6_logPrinter_X6_entryAt : GoodIn wsX6_logPrinter wsX6_entryAt := goodIn_ca (goodIn_r _ [6, 7, 8, 9, 10, 11, 12, 13, 14, 15, 16, 17, 18, 19, 20, 21, 22, 23, 24, 25, 26, 27, 28, 29, 30, 31, 32, 33, 40, 41, 42, 43, 44, 45, 46, 47, 48, 49, 50, 51, 52, 53, 54] (by decide +kernel) (by decide +kernel)) (goodIn_sub (fun _ h => List.mem_cons_of_mem _ (List.mem_append_right _ h)) (by decide +kernel))
set_option maxRecDepth 20000 in
theorem gX6_logPrinter_X6_entryAt : GoodIn wsX6_logPrinter (wsV RX6 242 RX6 yX6_entryAt wsX6_entryAt) := goodIn_app (goodIn_of _ (by decide +kernel)) ggX6_logPrinter_X6_entryAt
theorem dX6_logPrinter_0 : decode cX6_logPrinter 0 = .ok (.aload_n 0, 1) := by decide +kernel
theorem dX6_logPrinter_1 : decode cX6_logPrinter 1 = .ok (.iload_n 1, 1) := by decide +kernel
theorem dX6_logPrinter_2 : decode cX6_logPrinter 2 = .ok (.invokevirtual 242, 3) := by decide +kernel
theorem dX6_logPrinter_5 : decode cX6_logPrinter 5 = .ok (.getfield 251, 3) := by decide +kernel
theorem dX6_logPrinter_8 : decode cX6_logPrinter 8 = .ok (.ireturn, 1) := by decide +kernel
set_option maxRecDepth 20000 in
theorem ggX6_logPages_X6_entryAt : GoodIn wsX6_logPages wsX6_entryAt := goodIn_ca (goodIn_r _ [6, 7, 8, 9, 10, 11, 12, 13, 14, 15, 16, 17, 18, 19, 20, 21, 22, 23, 24, 25, 26, 27, 28, 29, 30, 31, 32, 33, 40, 41, 42, 43, 44, 45, 46, 47, 48, 49, 50, 51, 52, 53, 54] (by decide +kernel) (by decide +kernel)) (goodIn_sub (fun _ h => List.mem_cons_of_mem _ (List.mem_append_right _ h)) (by decide +kernel))
set_option maxRecDepth 20000 in
theorem gX6_logPages_X6_entryAt : GoodIn wsX6_logPages (wsV RX6 242 RX6 yX6_entryAt wsX6_entryAt) := goodIn_app (goodIn_of _ (by decide +kernel)) ggX6_logPages_X6_entryAt
theorem dX6_logPages_0 : decode cX6_logPages 0 = .ok (.aload_n 0, 1) := by decide +kernel
theorem dX6_logPages_1 : decode cX6_logPages 1 = .ok (.iload_n 1, 1) := by decide +kernel
theorem dX6_logPages_2 : decode cX6_logPages 2 = .ok (.invokevirtual 242, 3) := by decide +kernel
theorem dX6_logPages_5 : decode cX6_logPages 5 = .ok (.getfield 254, 3) := by decide +kernel
theorem dX6_logPages_8 : decode cX6_logPages 8 = .ok (.ireturn, 1) := by decide +kernel
set_option maxRecDepth 20000 in
theorem ggX6_logSheets_X6_entryAt : GoodIn wsX6_logSheets wsX6_entryAt := goodIn_ca (goodIn_r _ [6, 7, 8, 9, 10, 11, 12, 13, 14, 15, 16, 17, 18, 19, 20, 21, 22, 23, 24, 25, 26, 27, 28, 29, 30, 31, 32, 33, 40, 41, 42, 43, 44, 45, 46, 47, 48, 49, 50, 51, 52, 53, 54] (by decide +kernel) (by decide +kernel)) (goodIn_sub (fun _ h => List.mem_cons_of_mem _ (List.mem_append_right _ h)) (by decide +kernel))
set_option maxRecDepth 20000 in
theorem gX6_logSheets_X6_entryAt : GoodIn wsX6_logSheets (wsV RX6 242 RX6 yX6_entryAt wsX6_entryAt) := goodIn_app (goodIn_of _ (by decide +kernel)) ggX6_logSheets_X6_entryAt
theorem dX6_logSheets_0 : decode cX6_logSheets 0 = .ok (.aload_n 0, 1) := by decide +kernel
theorem dX6_logSheets_1 : decode cX6_logSheets 1 = .ok (.iload_n 1, 1) := by decide +kernel
theorem dX6_logSheets_2 : decode cX6_logSheets 2 = .ok (.invokevirtual 242, 3) := by decide +kernel
theorem dX6_logSheets_5 : decode cX6_logSheets 5 = .ok (.getfield 255, 3) := by decide +kernel
theorem dX6_logSheets_8 : decode cX6_logSheets 8 = .ok (.ireturn, 1) := by decide +kernel
set_option maxRecDepth 20000 in
theorem ggX6_pagesOf_X6_userAt : GoodIn wsX6_pagesOf wsX6_userAt := goodIn_ca (goodIn_r _ [6, 7, 8, 9, 14, 15, 16, 17, 18, 19, 20, 21, 22, 23, 24, 25] (by decide +kernel) (by decide +kernel)) (goodIn_sub (fun _ h => List.mem_cons_of_mem _ (List.mem_append_right _ h)) (by decide +kernel))
set_option maxRecDepth 20000 in
theorem gX6_pagesOf_X6_userAt : GoodIn wsX6_pagesOf (wsV RX6 140 RX6 yX6_userAt wsX6_userAt) := goodIn_app (goodIn_of _ (by decide +kernel)) ggX6_pagesOf_X6_userAt
theorem dX6_pagesOf_0 : decode cX6_pagesOf 0 = .ok (.aload_n 0, 1) := by decide +kernel
theorem dX6_pagesOf_1 : decode cX6_pagesOf 1 = .ok (.iload_n 1, 1) := by decide +kernel
theorem dX6_pagesOf_2 : decode cX6_pagesOf 2 = .ok (.invokevirtual 140, 3) := by decide +kernel
theorem dX6_pagesOf_5 : decode cX6_pagesOf 5 = .ok (.getfield 256, 3) := by decide +kernel
theorem dX6_pagesOf_8 : decode cX6_pagesOf 8 = .ok (.ireturn, 1) := by decide +kernel
set_option maxRecDepth 20000 in
theorem ggX6_pagesByLog_X6_userAt : GoodIn wsX6_pagesByLog wsX6_userAt := goodIn_ca (goodIn_r _ [9, 10, 11, 12, 36, 37, 38, 39, 40, 41, 42, 43, 44, 45, 46, 47] (by decide +kernel) (by decide +kernel)) (goodIn_sub (fun _ h => List.mem_cons_of_mem _ (List.mem_append_right _ h)) (by decide +kernel))
set_option maxRecDepth 20000 in
theorem gX6_pagesByLog_X6_userAt : GoodIn wsX6_pagesByLog (wsV RX6 140 RX6 yX6_userAt wsX6_userAt) := goodIn_app (goodIn_of _ (by decide +kernel)) ggX6_pagesByLog_X6_userAt
set_option maxRecDepth 20000 in
theorem ggX6_pagesByLog_Jx4a65c_size_8abf5 : GoodIn wsX6_pagesByLog wsJx4a65c_size_8abf5 := goodIn_r _ [17, 18, 54, 55, 56] (by decide +kernel) (by decide +kernel)
set_option maxRecDepth 20000 in
theorem gX6_pagesByLog_Jx4a65c_size_8abf5 : GoodIn wsX6_pagesByLog (wsV RX6 239 RJx4a65c yJx4a65c_size_8abf5 wsJx4a65c_size_8abf5) := goodIn_app (goodIn_of _ (by decide +kernel)) ggX6_pagesByLog_Jx4a65c_size_8abf5
set_option maxRecDepth 20000 in
theorem ggX6_pagesByLog_Jx4a65c_get_915e3 : GoodIn wsX6_pagesByLog wsJx4a65c_get_915e3 := goodIn_r _ [22, 18, 23, 24, 25, 26, 27, 28, 29, 30, 31, 32, 33, 16, 34, 35, 54, 55, 56] (by decide +kernel) (by decide +kernel)
set_option maxRecDepth 20000 in
theorem gX6_pagesByLog_Jx4a65c_get_915e3 : GoodIn wsX6_pagesByLog (wsV RX6 257 RJx4a65c yJx4a65c_get_915e3 wsJx4a65c_get_915e3) := goodIn_app (goodIn_of _ (by decide +kernel)) ggX6_pagesByLog_Jx4a65c_get_915e3
theorem dX6_pagesByLog_0 : decode cX6_pagesByLog 0 = .ok (.aload_n 0, 1) := by decide +kernel
theorem dX6_pagesByLog_1 : decode cX6_pagesByLog 1 = .ok (.iload_n 1, 1) := by decide +kernel
theorem dX6_pagesByLog_2 : decode cX6_pagesByLog 2 = .ok (.invokevirtual 140, 3) := by decide +kernel
theorem dX6_pagesByLog_5 : decode cX6_pagesByLog 5 = .ok (.pop, 1) := by decide +kernel
theorem dX6_pagesByLog_6 : decode cX6_pagesByLog 6 = .ok (.iconst 0, 1) := by decide +kernel
theorem dX6_pagesByLog_7 : decode cX6_pagesByLog 7 = .ok (.istore_n 2, 1) := by decide +kernel
theorem dX6_pagesByLog_8 : decode cX6_pagesByLog 8 = .ok (.iconst 0, 1) := by decide +kernel
theorem dX6_pagesByLog_9 : decode cX6_pagesByLog 9 = .ok (.istore_n 3, 1) := by decide +kernel
theorem dX6_pagesByLog_10 : decode cX6_pagesByLog 10 = .ok (.iload_n 3, 1) := by decide +kernel
theorem dX6_pagesByLog_11 : decode cX6_pagesByLog 11 = .ok (.aload_n 0, 1) := by decide +kernel
theorem dX6_pagesByLog_12 : decode cX6_pagesByLog 12 = .ok (.getfield 49, 3) := by decide +kernel
theorem dX6_pagesByLog_15 : decode cX6_pagesByLog 15 = .ok (.invokevirtual 239, 3) := by decide +kernel
theorem dX6_pagesByLog_18 : decode cX6_pagesByLog 18 = .ok (.if_icmp .ge 43, 3) := by decide +kernel
theorem dX6_pagesByLog_21 : decode cX6_pagesByLog 21 = .ok (.aload_n 0, 1) := by decide +kernel
theorem dX6_pagesByLog_22 : decode cX6_pagesByLog 22 = .ok (.getfield 49, 3) := by decide +kernel
theorem dX6_pagesByLog_25 : decode cX6_pagesByLog 25 = .ok (.iload_n 3, 1) := by decide +kernel
theorem dX6_pagesByLog_26 : decode cX6_pagesByLog 26 = .ok (.invokevirtual 257, 3) := by decide +kernel
theorem dX6_pagesByLog_29 : decode cX6_pagesByLog 29 = .ok (.checkcast 247, 3) := by decide +kernel
theorem dX6_pagesByLog_32 : decode cX6_pagesByLog 32 = .ok (.astore 4, 2) := by decide +kernel
theorem dX6_pagesByLog_34 : decode cX6_pagesByLog 34 = .ok (.iload_n 2, 1) := by decide +kernel
theorem dX6_pagesByLog_35 : decode cX6_pagesByLog 35 = .ok (.aload 4, 2) := by decide +kernel
theorem dX6_pagesByLog_37 : decode cX6_pagesByLog 37 = .ok (.getfield 261, 3) := by decide +kernel
theorem dX6_pagesByLog_40 : decode cX6_pagesByLog 40 = .ok (.iload_n 1, 1) := by decide +kernel
theorem dX6_pagesByLog_41 : decode cX6_pagesByLog 41 = .ok (.if_icmp .ne 11, 3) := by decide +kernel
theorem dX6_pagesByLog_44 : decode cX6_pagesByLog 44 = .ok (.aload 4, 2) := by decide +kernel
theorem dX6_pagesByLog_46 : decode cX6_pagesByLog 46 = .ok (.getfield 254, 3) := by decide +kernel
theorem dX6_pagesByLog_49 : decode cX6_pagesByLog 49 = .ok (.goto 4, 3) := by decide +kernel
theorem dX6_pagesByLog_52 : decode cX6_pagesByLog 52 = .ok (.iconst 0, 1) := by decide +kernel
theorem dX6_pagesByLog_53 : decode cX6_pagesByLog 53 = .ok (.iadd, 1) := by decide +kernel
theorem dX6_pagesByLog_54 : decode cX6_pagesByLog 54 = .ok (.istore_n 2, 1) := by decide +kernel
theorem dX6_pagesByLog_55 : decode cX6_pagesByLog 55 = .ok (.iinc 3 1, 3) := by decide +kernel
theorem dX6_pagesByLog_58 : decode cX6_pagesByLog 58 = .ok (.goto (-48), 3) := by decide +kernel
theorem dX6_pagesByLog_61 : decode cX6_pagesByLog 61 = .ok (.iload_n 2, 1) := by decide +kernel
theorem dX6_pagesByLog_62 : decode cX6_pagesByLog 62 = .ok (.ireturn, 1) := by decide +kernel
set_option maxRecDepth 20000 in
theorem ggX6_billOf_X6_userAt : GoodIn wsX6_billOf wsX6_userAt := goodIn_ca (goodIn_r _ [6, 7, 8, 9, 14, 15, 16, 17, 18, 19, 20, 21, 22, 23, 24, 25] (by decide +kernel) (by decide +kernel)) (goodIn_sub (fun _ h => List.mem_cons_of_mem _ (List.mem_append_right _ h)) (by decide +kernel))
set_option maxRecDepth 20000 in
theorem gX6_billOf_X6_userAt : GoodIn wsX6_billOf (wsV RX6 140 RX6 yX6_userAt wsX6_userAt) := goodIn_app (goodIn_of _ (by decide +kernel)) ggX6_billOf_X6_userAt
theorem dX6_billOf_0 : decode cX6_billOf 0 = .ok (.aload_n 0, 1) := by decide +kernel
theorem dX6_billOf_1 : decode cX6_billOf 1 = .ok (.iload_n 1, 1) := by decide +kernel
theorem dX6_billOf_2 : decode cX6_billOf 2 = .ok (.invokevirtual 140, 3) := by decide +kernel
theorem dX6_billOf_5 : decode cX6_billOf 5 = .ok (.getfield 262, 3) := by decide +kernel
theorem dX6_billOf_8 : decode cX6_billOf 8 = .ok (.lreturn, 1) := by decide +kernel
set_option maxRecDepth 20000 in
theorem ggX6_billByLog_X6_userAt : GoodIn wsX6_billByLog wsX6_userAt := goodIn_ca (goodIn_r _ [9, 10, 11, 12, 36, 37, 38, 39, 40, 41, 42, 43, 44, 45, 46, 47] (by decide +kernel) (by decide +kernel)) (goodIn_sub (fun _ h => List.mem_cons_of_mem _ (List.mem_append_right _ h)) (by decide +kernel))
set_option maxRecDepth 20000 in
theorem gX6_billByLog_X6_userAt : GoodIn wsX6_billByLog (wsV RX6 140 RX6 yX6_userAt wsX6_userAt) := goodIn_app (goodIn_of _ (by decide +kernel)) ggX6_billByLog_X6_userAt
set_option maxRecDepth 20000 in
theorem ggX6_billByLog_Jx4a65c_size_8abf5 : GoodIn wsX6_billByLog wsJx4a65c_size_8abf5 := goodIn_r _ [17, 18, 54, 55, 56] (by decide +kernel) (by decide +kernel)
set_option maxRecDepth 20000 in
theorem gX6_billByLog_Jx4a65c_size_8abf5 : GoodIn wsX6_billByLog (wsV RX6 239 RJx4a65c yJx4a65c_size_8abf5 wsJx4a65c_size_8abf5) := goodIn_app (goodIn_of _ (by decide +kernel)) ggX6_billByLog_Jx4a65c_size_8abf5
set_option maxRecDepth 20000 in
theorem ggX6_billByLog_Jx4a65c_get_915e3 : GoodIn wsX6_billByLog wsJx4a65c_get_915e3 := goodIn_r _ [22, 18, 23, 24, 25, 26, 27, 28, 29, 30, 31, 32, 33, 16, 34, 35, 54, 55, 56] (by decide +kernel) (by decide +kernel)
set_option maxRecDepth 20000 in
theorem gX6_billByLog_Jx4a65c_get_915e3 : GoodIn wsX6_billByLog (wsV RX6 257 RJx4a65c yJx4a65c_get_915e3 wsJx4a65c_get_915e3) := goodIn_app (goodIn_of _ (by decide +kernel)) ggX6_billByLog_Jx4a65c_get_915e3
theorem dX6_billByLog_0 : decode cX6_billByLog 0 = .ok (.aload_n 0, 1) := by decide +kernel
theorem dX6_billByLog_1 : decode cX6_billByLog 1 = .ok (.iload_n 1, 1) := by decide +kernel
theorem dX6_billByLog_2 : decode cX6_billByLog 2 = .ok (.invokevirtual 140, 3) := by decide +kernel
theorem dX6_billByLog_5 : decode cX6_billByLog 5 = .ok (.pop, 1) := by decide +kernel
theorem dX6_billByLog_6 : decode cX6_billByLog 6 = .ok (.lconst 0, 1) := by decide +kernel
theorem dX6_billByLog_7 : decode cX6_billByLog 7 = .ok (.lstore_n 2, 1) := by decide +kernel
theorem dX6_billByLog_8 : decode cX6_billByLog 8 = .ok (.iconst 0, 1) := by decide +kernel
theorem dX6_billByLog_9 : decode cX6_billByLog 9 = .ok (.istore 4, 2) := by decide +kernel
theorem dX6_billByLog_11 : decode cX6_billByLog 11 = .ok (.iload 4, 2) := by decide +kernel
theorem dX6_billByLog_13 : decode cX6_billByLog 13 = .ok (.aload_n 0, 1) := by decide +kernel
theorem dX6_billByLog_14 : decode cX6_billByLog 14 = .ok (.getfield 49, 3) := by decide +kernel
theorem dX6_billByLog_17 : decode cX6_billByLog 17 = .ok (.invokevirtual 239, 3) := by decide +kernel
theorem dX6_billByLog_20 : decode cX6_billByLog 20 = .ok (.if_icmp .ge 44, 3) := by decide +kernel
theorem dX6_billByLog_23 : decode cX6_billByLog 23 = .ok (.aload_n 0, 1) := by decide +kernel
theorem dX6_billByLog_24 : decode cX6_billByLog 24 = .ok (.getfield 49, 3) := by decide +kernel
theorem dX6_billByLog_27 : decode cX6_billByLog 27 = .ok (.iload 4, 2) := by decide +kernel
theorem dX6_billByLog_29 : decode cX6_billByLog 29 = .ok (.invokevirtual 257, 3) := by decide +kernel
theorem dX6_billByLog_32 : decode cX6_billByLog 32 = .ok (.checkcast 247, 3) := by decide +kernel
theorem dX6_billByLog_35 : decode cX6_billByLog 35 = .ok (.astore 5, 2) := by decide +kernel
theorem dX6_billByLog_37 : decode cX6_billByLog 37 = .ok (.lload_n 2, 1) := by decide +kernel
theorem dX6_billByLog_38 : decode cX6_billByLog 38 = .ok (.aload 5, 2) := by decide +kernel
theorem dX6_billByLog_40 : decode cX6_billByLog 40 = .ok (.getfield 261, 3) := by decide +kernel
theorem dX6_billByLog_43 : decode cX6_billByLog 43 = .ok (.iload_n 1, 1) := by decide +kernel
theorem dX6_billByLog_44 : decode cX6_billByLog 44 = .ok (.if_icmp .ne 11, 3) := by decide +kernel
theorem dX6_billByLog_47 : decode cX6_billByLog 47 = .ok (.aload 5, 2) := by decide +kernel
theorem dX6_billByLog_49 : decode cX6_billByLog 49 = .ok (.getfield 266, 3) := by decide +kernel
theorem dX6_billByLog_52 : decode cX6_billByLog 52 = .ok (.goto 4, 3) := by decide +kernel
theorem dX6_billByLog_55 : decode cX6_billByLog 55 = .ok (.lconst 0, 1) := by decide +kernel
theorem dX6_billByLog_56 : decode cX6_billByLog 56 = .ok (.ladd, 1) := by decide +kernel
theorem dX6_billByLog_57 : decode cX6_billByLog 57 = .ok (.lstore_n 2, 1) := by decide +kernel
theorem dX6_billByLog_58 : decode cX6_billByLog 58 = .ok (.iinc 4 1, 3) := by decide +kernel
theorem dX6_billByLog_61 : decode cX6_billByLog 61 = .ok (.goto (-50), 3) := by decide +kernel
theorem dX6_billByLog_64 : decode cX6_billByLog 64 = .ok (.lload_n 2, 1) := by decide +kernel
theorem dX6_billByLog_65 : decode cX6_billByLog 65 = .ok (.lreturn, 1) := by decide +kernel
set_option maxRecDepth 20000 in
theorem ggX6_meanPages_Jx4a65c_size_8abf5 : GoodIn wsX6_meanPages wsJx4a65c_size_8abf5 := goodIn_r _ [10, 11, 47, 48, 49] (by decide +kernel) (by decide +kernel)
set_option maxRecDepth 20000 in
theorem gX6_meanPages_Jx4a65c_size_8abf5 : GoodIn wsX6_meanPages (wsV RX6 239 RJx4a65c yJx4a65c_size_8abf5 wsJx4a65c_size_8abf5) := goodIn_app (goodIn_of _ (by decide +kernel)) ggX6_meanPages_Jx4a65c_size_8abf5
set_option maxRecDepth 20000 in
theorem ggX6_meanPages_Jx4a65c_get_915e3 : GoodIn wsX6_meanPages wsJx4a65c_get_915e3 := goodIn_r _ [15, 11, 16, 17, 18, 19, 20, 21, 22, 23, 24, 25, 26, 9, 27, 28, 47, 48, 49] (by decide +kernel) (by decide +kernel)
set_option maxRecDepth 20000 in
theorem gX6_meanPages_Jx4a65c_get_915e3 : GoodIn wsX6_meanPages (wsV RX6 257 RJx4a65c yJx4a65c_get_915e3 wsJx4a65c_get_915e3) := goodIn_app (goodIn_of _ (by decide +kernel)) ggX6_meanPages_Jx4a65c_get_915e3
theorem dX6_meanPages_0 : decode cX6_meanPages 0 = .ok (.aload_n 0, 1) := by decide +kernel
theorem dX6_meanPages_1 : decode cX6_meanPages 1 = .ok (.getfield 49, 3) := by decide +kernel
theorem dX6_meanPages_4 : decode cX6_meanPages 4 = .ok (.invokevirtual 239, 3) := by decide +kernel
theorem dX6_meanPages_7 : decode cX6_meanPages 7 = .ok (.istore_n 1, 1) := by decide +kernel
theorem dX6_meanPages_8 : decode cX6_meanPages 8 = .ok (.iload_n 1, 1) := by decide +kernel
theorem dX6_meanPages_9 : decode cX6_meanPages 9 = .ok (.ifCond .ne 14, 3) := by decide +kernel
theorem dX6_meanPages_12 : decode cX6_meanPages 12 = .ok (.new 269, 3) := by decide +kernel
theorem dX6_meanPages_15 : decode cX6_meanPages 15 = .ok (.dup, 1) := by decide +kernel
theorem dX6_meanPages_16 : decode cX6_meanPages 16 = .ok (.ldc_w 271, 3) := by decide +kernel
theorem dX6_meanPages_19 : decode cX6_meanPages 19 = .ok (.invokespecial 273, 3) := by decide +kernel
theorem dX6_meanPages_22 : decode cX6_meanPages 22 = .ok (.athrow, 1) := by decide +kernel
theorem dX6_meanPages_23 : decode cX6_meanPages 23 = .ok (.iconst 0, 1) := by decide +kernel
theorem dX6_meanPages_24 : decode cX6_meanPages 24 = .ok (.istore_n 2, 1) := by decide +kernel
theorem dX6_meanPages_25 : decode cX6_meanPages 25 = .ok (.iconst 0, 1) := by decide +kernel
theorem dX6_meanPages_26 : decode cX6_meanPages 26 = .ok (.istore_n 3, 1) := by decide +kernel
theorem dX6_meanPages_27 : decode cX6_meanPages 27 = .ok (.iload_n 3, 1) := by decide +kernel
theorem dX6_meanPages_28 : decode cX6_meanPages 28 = .ok (.aload_n 0, 1) := by decide +kernel
theorem dX6_meanPages_29 : decode cX6_meanPages 29 = .ok (.getfield 49, 3) := by decide +kernel
theorem dX6_meanPages_32 : decode cX6_meanPages 32 = .ok (.invokevirtual 239, 3) := by decide +kernel
theorem dX6_meanPages_35 : decode cX6_meanPages 35 = .ok (.if_icmp .ge 26, 3) := by decide +kernel
theorem dX6_meanPages_38 : decode cX6_meanPages 38 = .ok (.iload_n 2, 1) := by decide +kernel
theorem dX6_meanPages_39 : decode cX6_meanPages 39 = .ok (.aload_n 0, 1) := by decide +kernel
theorem dX6_meanPages_40 : decode cX6_meanPages 40 = .ok (.getfield 49, 3) := by decide +kernel
theorem dX6_meanPages_43 : decode cX6_meanPages 43 = .ok (.iload_n 3, 1) := by decide +kernel
theorem dX6_meanPages_44 : decode cX6_meanPages 44 = .ok (.invokevirtual 257, 3) := by decide +kernel
theorem dX6_meanPages_47 : decode cX6_meanPages 47 = .ok (.checkcast 247, 3) := by decide +kernel
theorem dX6_meanPages_50 : decode cX6_meanPages 50 = .ok (.getfield 254, 3) := by decide +kernel
theorem dX6_meanPages_53 : decode cX6_meanPages 53 = .ok (.iadd, 1) := by decide +kernel
theorem dX6_meanPages_54 : decode cX6_meanPages 54 = .ok (.istore_n 2, 1) := by decide +kernel
theorem dX6_meanPages_55 : decode cX6_meanPages 55 = .ok (.iinc 3 1, 3) := by decide +kernel
theorem dX6_meanPages_58 : decode cX6_meanPages 58 = .ok (.goto (-31), 3) := by decide +kernel
theorem dX6_meanPages_61 : decode cX6_meanPages 61 = .ok (.iload_n 2, 1) := by decide +kernel
theorem dX6_meanPages_62 : decode cX6_meanPages 62 = .ok (.i2d, 1) := by decide +kernel
theorem dX6_meanPages_63 : decode cX6_meanPages 63 = .ok (.iload_n 1, 1) := by decide +kernel
theorem dX6_meanPages_64 : decode cX6_meanPages 64 = .ok (.i2d, 1) := by decide +kernel
theorem dX6_meanPages_65 : decode cX6_meanPages 65 = .ok (.ddiv, 1) := by decide +kernel
theorem dX6_meanPages_66 : decode cX6_meanPages 66 = .ok (.dreturn, 1) := by decide +kernel
theorem dX6_colourShare_0 : decode cX6_colourShare 0 = .ok (.iconst 0, 1) := by decide +kernel
theorem dX6_colourShare_1 : decode cX6_colourShare 1 = .ok (.istore_n 1, 1) := by decide +kernel
theorem dX6_colourShare_2 : decode cX6_colourShare 2 = .ok (.iconst 0, 1) := by decide +kernel
theorem dX6_colourShare_3 : decode cX6_colourShare 3 = .ok (.istore_n 2, 1) := by decide +kernel
theorem dX6_colourShare_4 : decode cX6_colourShare 4 = .ok (.aload_n 0, 1) := by decide +kernel
theorem dX6_colourShare_5 : decode cX6_colourShare 5 = .ok (.getfield 23, 3) := by decide +kernel
theorem dX6_colourShare_8 : decode cX6_colourShare 8 = .ok (.astore_n 3, 1) := by decide +kernel
theorem dX6_colourShare_9 : decode cX6_colourShare 9 = .ok (.aload_n 3, 1) := by decide +kernel
theorem dX6_colourShare_10 : decode cX6_colourShare 10 = .ok (.arraylength, 1) := by decide +kernel
theorem dX6_colourShare_11 : decode cX6_colourShare 11 = .ok (.istore 4, 2) := by decide +kernel
theorem dX6_colourShare_13 : decode cX6_colourShare 13 = .ok (.iconst 0, 1) := by decide +kernel
theorem dX6_colourShare_14 : decode cX6_colourShare 14 = .ok (.istore 5, 2) := by decide +kernel
theorem dX6_colourShare_16 : decode cX6_colourShare 16 = .ok (.iload 5, 2) := by decide +kernel
theorem dX6_colourShare_18 : decode cX6_colourShare 18 = .ok (.iload 4, 2) := by decide +kernel
theorem dX6_colourShare_20 : decode cX6_colourShare 20 = .ok (.if_icmp .ge 48, 3) := by decide +kernel
theorem dX6_colourShare_23 : decode cX6_colourShare 23 = .ok (.aload_n 3, 1) := by decide +kernel
theorem dX6_colourShare_24 : decode cX6_colourShare 24 = .ok (.iload 5, 2) := by decide +kernel
theorem dX6_colourShare_26 : decode cX6_colourShare 26 = .ok (.aaload, 1) := by decide +kernel
theorem dX6_colourShare_27 : decode cX6_colourShare 27 = .ok (.astore 6, 2) := by decide +kernel
theorem dX6_colourShare_29 : decode cX6_colourShare 29 = .ok (.aload 6, 2) := by decide +kernel
theorem dX6_colourShare_31 : decode cX6_colourShare 31 = .ok (.ifnull 31, 3) := by decide +kernel
theorem dX6_colourShare_34 : decode cX6_colourShare 34 = .ok (.iload_n 1, 1) := by decide +kernel
theorem dX6_colourShare_35 : decode cX6_colourShare 35 = .ok (.aload 6, 2) := by decide +kernel
theorem dX6_colourShare_37 : decode cX6_colourShare 37 = .ok (.getfield 159, 3) := by decide +kernel
theorem dX6_colourShare_40 : decode cX6_colourShare 40 = .ok (.ifCond .eq 11, 3) := by decide +kernel
theorem dX6_colourShare_43 : decode cX6_colourShare 43 = .ok (.aload 6, 2) := by decide +kernel
theorem dX6_colourShare_45 : decode cX6_colourShare 45 = .ok (.getfield 186, 3) := by decide +kernel
theorem dX6_colourShare_48 : decode cX6_colourShare 48 = .ok (.goto 4, 3) := by decide +kernel
theorem dX6_colourShare_51 : decode cX6_colourShare 51 = .ok (.iconst 0, 1) := by decide +kernel
theorem dX6_colourShare_52 : decode cX6_colourShare 52 = .ok (.iadd, 1) := by decide +kernel
theorem dX6_colourShare_53 : decode cX6_colourShare 53 = .ok (.istore_n 1, 1) := by decide +kernel
theorem dX6_colourShare_54 : decode cX6_colourShare 54 = .ok (.iload_n 2, 1) := by decide +kernel
theorem dX6_colourShare_55 : decode cX6_colourShare 55 = .ok (.aload 6, 2) := by decide +kernel
theorem dX6_colourShare_57 : decode cX6_colourShare 57 = .ok (.getfield 186, 3) := by decide +kernel
theorem dX6_colourShare_60 : decode cX6_colourShare 60 = .ok (.iadd, 1) := by decide +kernel
theorem dX6_colourShare_61 : decode cX6_colourShare 61 = .ok (.istore_n 2, 1) := by decide +kernel
theorem dX6_colourShare_62 : decode cX6_colourShare 62 = .ok (.iinc 5 1, 3) := by decide +kernel
theorem dX6_colourShare_65 : decode cX6_colourShare 65 = .ok (.goto (-49), 3) := by decide +kernel
theorem dX6_colourShare_68 : decode cX6_colourShare 68 = .ok (.iload_n 2, 1) := by decide +kernel
theorem dX6_colourShare_69 : decode cX6_colourShare 69 = .ok (.ifCond .ne 14, 3) := by decide +kernel
theorem dX6_colourShare_72 : decode cX6_colourShare 72 = .ok (.new 269, 3) := by decide +kernel
theorem dX6_colourShare_75 : decode cX6_colourShare 75 = .ok (.dup, 1) := by decide +kernel
theorem dX6_colourShare_76 : decode cX6_colourShare 76 = .ok (.ldc_w 274, 3) := by decide +kernel
theorem dX6_colourShare_79 : decode cX6_colourShare 79 = .ok (.invokespecial 273, 3) := by decide +kernel
theorem dX6_colourShare_82 : decode cX6_colourShare 82 = .ok (.athrow, 1) := by decide +kernel
theorem dX6_colourShare_83 : decode cX6_colourShare 83 = .ok (.iload_n 1, 1) := by decide +kernel
theorem dX6_colourShare_84 : decode cX6_colourShare 84 = .ok (.i2f, 1) := by decide +kernel
theorem dX6_colourShare_85 : decode cX6_colourShare 85 = .ok (.iload_n 2, 1) := by decide +kernel
theorem dX6_colourShare_86 : decode cX6_colourShare 86 = .ok (.i2f, 1) := by decide +kernel
theorem dX6_colourShare_87 : decode cX6_colourShare 87 = .ok (.fdiv, 1) := by decide +kernel
theorem dX6_colourShare_88 : decode cX6_colourShare 88 = .ok (.freturn, 1) := by decide +kernel
set_option maxRecDepth 20000 in
theorem ggX6_isConsistent_X6_pagesOf : GoodIn wsX6_isConsistent wsX6_pagesOf := goodIn_ca (goodIn_r _ [9, 10, 11, 12, 13, 8, 14, 15, 16, 17, 97, 98, 99, 100, 71, 72, 73, 74, 75, 76, 77, 78, 79, 80, 81, 82] (by decide +kernel) (by decide +kernel)) (goodIn_sub (fun _ h => List.mem_cons_of_mem _ (List.mem_append_right _ h)) (by decide +kernel))
set_option maxRecDepth 20000 in
theorem gX6_isConsistent_X6_pagesOf : GoodIn wsX6_isConsistent (wsV RX6 276 RX6 yX6_pagesOf wsX6_pagesOf) := goodIn_app (goodIn_of _ (by decide +kernel)) ggX6_isConsistent_X6_pagesOf
set_option maxRecDepth 20000 in
theorem ggX6_isConsistent_X6_pagesByLog : GoodIn wsX6_isConsistent wsX6_pagesByLog := goodIn_ca (goodIn_r _ [21, 22, 23, 24, 25, 11, 12, 13, 8, 14, 15, 16, 17, 26, 27, 28, 29, 30, 31, 32, 33, 34, 35, 36, 37, 38, 39, 40, 41, 42, 43, 44, 45, 46, 47, 48, 71, 72, 73, 74, 75, 76, 77, 78, 79, 80, 81, 82, 101, 102, 103, 104, 105, 106, 107, 108, 109] (by decide +kernel) (by decide +kernel)) (goodIn_sub (fun _ h => List.mem_cons_of_mem _ (List.mem_append_right _ h)) (by decide +kernel))
set_option maxRecDepth 20000 in
theorem gX6_isConsistent_X6_pagesByLog : GoodIn wsX6_isConsistent (wsV RX6 280 RX6 yX6_pagesByLog wsX6_pagesByLog) := goodIn_app (goodIn_of _ (by decide +kernel)) ggX6_isConsistent_X6_pagesByLog
set_option maxRecDepth 20000 in
theorem ggX6_isConsistent_X6_billOf : GoodIn wsX6_isConsistent wsX6_billOf := goodIn_ca (goodIn_r _ [52, 53, 11, 12, 13, 8, 14, 15, 16, 17, 97, 98, 99, 100, 71, 72, 73, 74, 75, 76, 77, 78, 79, 80, 81, 82] (by decide +kernel) (by decide +kernel)) (goodIn_sub (fun _ h => List.mem_cons_of_mem _ (List.mem_append_right _ h)) (by decide +kernel))
set_option maxRecDepth 20000 in
theorem gX6_isConsistent_X6_billOf : GoodIn wsX6_isConsistent (wsV RX6 283 RX6 yX6_billOf wsX6_billOf) := goodIn_app (goodIn_of _ (by decide +kernel)) ggX6_isConsistent_X6_billOf
set_option maxRecDepth 20000 in
theorem ggX6_isConsistent_X6_billByLog : GoodIn wsX6_isConsistent wsX6_billByLog := goodIn_ca (goodIn_r _ [57, 22, 23, 24, 58, 11, 12, 13, 8, 14, 15, 16, 17, 26, 27, 28, 29, 30, 31, 32, 33, 34, 35, 36, 37, 38, 39, 40, 41, 42, 43, 44, 45, 46, 47, 48, 71, 72, 73, 74, 75, 76, 77, 78, 79, 80, 81, 82, 101, 102, 103, 104, 105, 106, 107, 108, 109] (by decide +kernel) (by decide +kernel)) (goodIn_sub (fun _ h => List.mem_cons_of_mem _ (List.mem_append_right _ h)) (by decide +kernel))
set_option maxRecDepth 20000 in
theorem gX6_isConsistent_X6_billByLog : GoodIn wsX6_isConsistent (wsV RX6 287 RX6 yX6_billByLog wsX6_billByLog) := goodIn_app (goodIn_of _ (by decide +kernel)) ggX6_isConsistent_X6_billByLog
set_option maxRecDepth 20000 in
theorem ggX6_isConsistent_X6_loggedPages : GoodIn wsX6_isConsistent wsX6_loggedPages := goodIn_r _ [62, 22, 23, 63, 25, 26, 27, 28, 29, 30, 31, 32, 33, 34, 35, 36, 37, 38, 39, 40, 41, 42, 43, 44, 45, 46, 47, 48, 71, 72, 73, 74, 75, 76, 77, 78, 79, 80, 81, 82, 101, 102, 103, 104, 105, 106, 107, 108, 109] (by decide +kernel) (by decide +kernel)
set_option maxRecDepth 20000 in
theorem gX6_isConsistent_X6_loggedPages : GoodIn wsX6_isConsistent (wsV RX6 290 RX6 yX6_loggedPages wsX6_loggedPages) := goodIn_app (goodIn_of _ (by decide +kernel)) ggX6_isConsistent_X6_loggedPages
set_option maxRecDepth 20000 in
theorem ggX6_isConsistent_X1_pagesToCome : GoodIn wsX6_isConsistent wsX1_pagesToCome := goodIn_r _ [68, 69, 70, 83, 84, 85, 86, 87, 88, 89, 90, 91, 92, 93, 94, 95, 96] (by decide +kernel) (by decide +kernel)
set_option maxRecDepth 20000 in
theorem gX6_isConsistent_X1_pagesToCome : GoodIn wsX6_isConsistent (wsV RX6 182 RX1 yX1_pagesToCome wsX1_pagesToCome) := goodIn_app (goodIn_of _ (by decide +kernel)) ggX6_isConsistent_X1_pagesToCome
theorem dX6_isConsistent_0 : decode cX6_isConsistent 0 = .ok (.iconst 0, 1) := by decide +kernel
theorem dX6_isConsistent_1 : decode cX6_isConsistent 1 = .ok (.istore_n 1, 1) := by decide +kernel
theorem dX6_isConsistent_2 : decode cX6_isConsistent 2 = .ok (.iload_n 1, 1) := by decide +kernel
theorem dX6_isConsistent_3 : decode cX6_isConsistent 3 = .ok (.aload_n 0, 1) := by decide +kernel
theorem dX6_isConsistent_4 : decode cX6_isConsistent 4 = .ok (.getfield 27, 3) := by decide +kernel
theorem dX6_isConsistent_7 : decode cX6_isConsistent 7 = .ok (.if_icmp .ge 38, 3) := by decide +kernel
theorem dX6_isConsistent_10 : decode cX6_isConsistent 10 = .ok (.aload_n 0, 1) := by decide +kernel
theorem dX6_isConsistent_11 : decode cX6_isConsistent 11 = .ok (.iload_n 1, 1) := by decide +kernel
theorem dX6_isConsistent_12 : decode cX6_isConsistent 12 = .ok (.invokevirtual 276, 3) := by decide +kernel
theorem dX6_isConsistent_15 : decode cX6_isConsistent 15 = .ok (.aload_n 0, 1) := by decide +kernel
theorem dX6_isConsistent_16 : decode cX6_isConsistent 16 = .ok (.iload_n 1, 1) := by decide +kernel
theorem dX6_isConsistent_17 : decode cX6_isConsistent 17 = .ok (.invokevirtual 280, 3) := by decide +kernel
theorem dX6_isConsistent_20 : decode cX6_isConsistent 20 = .ok (.if_icmp .ne 17, 3) := by decide +kernel
theorem dX6_isConsistent_23 : decode cX6_isConsistent 23 = .ok (.aload_n 0, 1) := by decide +kernel
theorem dX6_isConsistent_24 : decode cX6_isConsistent 24 = .ok (.iload_n 1, 1) := by decide +kernel
theorem dX6_isConsistent_25 : decode cX6_isConsistent 25 = .ok (.invokevirtual 283, 3) := by decide +kernel
theorem dX6_isConsistent_28 : decode cX6_isConsistent 28 = .ok (.aload_n 0, 1) := by decide +kernel
theorem dX6_isConsistent_29 : decode cX6_isConsistent 29 = .ok (.iload_n 1, 1) := by decide +kernel
theorem dX6_isConsistent_30 : decode cX6_isConsistent 30 = .ok (.invokevirtual 287, 3) := by decide +kernel
theorem dX6_isConsistent_33 : decode cX6_isConsistent 33 = .ok (.lcmp, 1) := by decide +kernel
theorem dX6_isConsistent_34 : decode cX6_isConsistent 34 = .ok (.ifCond .eq 5, 3) := by decide +kernel
theorem dX6_isConsistent_37 : decode cX6_isConsistent 37 = .ok (.iconst 0, 1) := by decide +kernel
theorem dX6_isConsistent_38 : decode cX6_isConsistent 38 = .ok (.ireturn, 1) := by decide +kernel
theorem dX6_isConsistent_39 : decode cX6_isConsistent 39 = .ok (.iinc 1 1, 3) := by decide +kernel
theorem dX6_isConsistent_42 : decode cX6_isConsistent 42 = .ok (.goto (-40), 3) := by decide +kernel
theorem dX6_isConsistent_45 : decode cX6_isConsistent 45 = .ok (.aload_n 0, 1) := by decide +kernel
theorem dX6_isConsistent_46 : decode cX6_isConsistent 46 = .ok (.getfield 23, 3) := by decide +kernel
theorem dX6_isConsistent_49 : decode cX6_isConsistent 49 = .ok (.astore_n 1, 1) := by decide +kernel
theorem dX6_isConsistent_50 : decode cX6_isConsistent 50 = .ok (.aload_n 1, 1) := by decide +kernel
theorem dX6_isConsistent_51 : decode cX6_isConsistent 51 = .ok (.arraylength, 1) := by decide +kernel
theorem dX6_isConsistent_52 : decode cX6_isConsistent 52 = .ok (.istore_n 2, 1) := by decide +kernel
theorem dX6_isConsistent_53 : decode cX6_isConsistent 53 = .ok (.iconst 0, 1) := by decide +kernel
theorem dX6_isConsistent_54 : decode cX6_isConsistent 54 = .ok (.istore_n 3, 1) := by decide +kernel
theorem dX6_isConsistent_55 : decode cX6_isConsistent 55 = .ok (.iload_n 3, 1) := by decide +kernel
theorem dX6_isConsistent_56 : decode cX6_isConsistent 56 = .ok (.iload_n 2, 1) := by decide +kernel
theorem dX6_isConsistent_57 : decode cX6_isConsistent 57 = .ok (.if_icmp .ge 44, 3) := by decide +kernel
theorem dX6_isConsistent_60 : decode cX6_isConsistent 60 = .ok (.aload_n 1, 1) := by decide +kernel
theorem dX6_isConsistent_61 : decode cX6_isConsistent 61 = .ok (.iload_n 3, 1) := by decide +kernel
theorem dX6_isConsistent_62 : decode cX6_isConsistent 62 = .ok (.aaload, 1) := by decide +kernel
theorem dX6_isConsistent_63 : decode cX6_isConsistent 63 = .ok (.astore 4, 2) := by decide +kernel
theorem dX6_isConsistent_65 : decode cX6_isConsistent 65 = .ok (.aload 4, 2) := by decide +kernel
theorem dX6_isConsistent_67 : decode cX6_isConsistent 67 = .ok (.ifnull 28, 3) := by decide +kernel
theorem dX6_isConsistent_70 : decode cX6_isConsistent 70 = .ok (.aload_n 0, 1) := by decide +kernel
theorem dX6_isConsistent_71 : decode cX6_isConsistent 71 = .ok (.aload 4, 2) := by decide +kernel
theorem dX6_isConsistent_73 : decode cX6_isConsistent 73 = .ok (.getfield 234, 3) := by decide +kernel
theorem dX6_isConsistent_76 : decode cX6_isConsistent 76 = .ok (.invokevirtual 290, 3) := by decide +kernel
theorem dX6_isConsistent_79 : decode cX6_isConsistent 79 = .ok (.aload 4, 2) := by decide +kernel
theorem dX6_isConsistent_81 : decode cX6_isConsistent 81 = .ok (.invokevirtual 182, 3) := by decide +kernel
theorem dX6_isConsistent_84 : decode cX6_isConsistent 84 = .ok (.iadd, 1) := by decide +kernel
theorem dX6_isConsistent_85 : decode cX6_isConsistent 85 = .ok (.aload 4, 2) := by decide +kernel
theorem dX6_isConsistent_87 : decode cX6_isConsistent 87 = .ok (.getfield 293, 3) := by decide +kernel
theorem dX6_isConsistent_90 : decode cX6_isConsistent 90 = .ok (.if_icmp .eq 5, 3) := by decide +kernel
theorem dX6_isConsistent_93 : decode cX6_isConsistent 93 = .ok (.iconst 0, 1) := by decide +kernel
theorem dX6_isConsistent_94 : decode cX6_isConsistent 94 = .ok (.ireturn, 1) := by decide +kernel
theorem dX6_isConsistent_95 : decode cX6_isConsistent 95 = .ok (.iinc 3 1, 3) := by decide +kernel
theorem dX6_isConsistent_98 : decode cX6_isConsistent 98 = .ok (.goto (-43), 3) := by decide +kernel
theorem dX6_isConsistent_101 : decode cX6_isConsistent 101 = .ok (.iconst 1, 1) := by decide +kernel
theorem dX6_isConsistent_102 : decode cX6_isConsistent 102 = .ok (.ireturn, 1) := by decide +kernel
set_option maxRecDepth 20000 in
theorem ggX6_writeJob_X6_jobAt : GoodIn wsX6_writeJob wsX6_jobAt := goodIn_ca (goodIn_r _ [13, 14, 15, 16, 253, 254, 255, 256, 257, 258, 259, 260, 261, 262, 263, 264] (by decide +kernel) (by decide +kernel)) (goodIn_sub (fun _ h => List.mem_cons_of_mem _ (List.mem_append_right _ h)) (by decide +kernel))
set_option maxRecDepth 20000 in
theorem gX6_writeJob_X6_jobAt : GoodIn wsX6_writeJob (wsV RX6 166 RX6 yX6_jobAt wsX6_jobAt) := goodIn_app (goodIn_of _ (by decide +kernel)) ggX6_writeJob_X6_jobAt
set_option maxRecDepth 20000 in
theorem ggX6_writeJob_J4_setLength_d00df : GoodIn wsX6_writeJob wsJ4_setLength_d00df := goodIn_r _ [21, 22, 23, 24, 25, 26, 27, 28, 29, 30, 31, 32, 33, 34, 35, 36, 37, 38, 39, 40, 41, 42, 43, 44, 45, 46, 47, 48, 49, 50, 51, 52, 53, 54, 55, 56, 57, 58, 59, 60, 61, 62, 63, 64, 65, 66, 67, 68, 69, 70, 71, 72, 73, 74, 75, 76, 77, 78, 79, 80, 81, 82, 83, 84, 85, 86, 87, 88, 89, 90, 91, 92, 93, 20, 94, 95, 96, 97, 98, 99, 100, 101, 279, 280, 281, 282, 283, 284, 285, 286, 287, 288, 289, 290, 291, 292, 293, 294] (by decide +kernel) (by decide +kernel)
set_option maxRecDepth 20000 in
theorem gX6_writeJob_J4_setLength_d00df : GoodIn wsX6_writeJob (wsV RX6 296 RJ4 yJ4_setLength_d00df wsJ4_setLength_d00df) := goodIn_app (goodIn_of _ (by decide +kernel)) ggX6_writeJob_J4_setLength_d00df
set_option maxRecDepth 20000 in
theorem ggX6_writeJob_J4_append_bf812 : GoodIn wsX6_writeJob wsJ4_append_bf812 := goodIn_r _ [105, 106, 107, 24, 108, 26, 109, 31, 32, 110, 111, 112, 113, 34, 35, 36, 37, 38, 39, 40, 41, 42, 43, 44, 45, 46, 47, 48, 49, 50, 51, 52, 53, 54, 55, 56, 57, 58, 59, 60, 61, 62, 63, 64, 65, 66, 67, 68, 69, 70, 71, 72, 73, 74, 75, 76, 77, 78, 79, 80, 81, 114, 115, 116, 117, 118, 119, 120, 99, 121, 122, 123, 124, 125, 126, 127, 128, 129, 130, 131, 132, 133, 134, 135, 136, 137, 138, 139, 140, 141, 142, 143, 144, 145, 146, 147, 285, 286, 287, 288] (by decide +kernel) (by decide +kernel)
set_option maxRecDepth 20000 in
theorem gX6_writeJob_J4_append_bf812 : GoodIn wsX6_writeJob (wsV RX6 300 RJ4 yJ4_append_bf812 wsJ4_append_bf812) := goodIn_app (goodIn_of _ (by decide +kernel)) ggX6_writeJob_J4_append_bf812
set_option maxRecDepth 20000 in
theorem ggX6_writeJob_J4_append_15ec4 : GoodIn wsX6_writeJob wsJ4_append_15ec4 := goodIn_r _ [151, 152, 153, 24, 154, 26, 155, 31, 156, 157, 158, 159, 160, 32, 34, 35, 36, 37, 38, 39, 40, 41, 42, 43, 44, 45, 46, 47, 48, 49, 50, 51, 52, 53, 54, 55, 56, 57, 58, 59, 60, 61, 62, 63, 64, 65, 66, 67, 68, 69, 70, 71, 72, 73, 74, 75, 76, 77, 78, 79, 80, 81, 161, 162, 99, 163, 122, 123, 124, 125, 126, 127, 128, 129, 130, 131, 132, 133, 134, 135, 136, 137, 143, 144, 145, 146, 147, 164, 165, 166, 167, 168, 169, 170, 171, 172, 173, 174, 175, 176, 177, 178, 179, 180, 181, 182, 183, 184, 185, 186, 187, 188, 189, 190, 191, 192, 193, 194, 195, 196, 197, 198, 199, 84, 200, 201, 202, 203, 204, 205, 206, 207, 208, 209, 210, 211, 212, 213, 214, 215, 216, 217, 218, 285, 286, 287, 288, 295, 296, 297, 298] (by decide +kernel) (by decide +kernel)
set_option maxRecDepth 20000 in
theorem gX6_writeJob_J4_append_15ec4 : GoodIn wsX6_writeJob (wsV RX6 306 RJ4 yJ4_append_15ec4 wsJ4_append_15ec4) := goodIn_app (goodIn_of _ (by decide +kernel)) ggX6_writeJob_J4_append_15ec4
set_option maxRecDepth 20000 in
theorem ggX6_writeJob_J4_append_cf468 : GoodIn wsX6_writeJob wsJ4_append_cf468 := goodIn_r _ [222, 223, 224, 24, 225, 26, 226, 31, 32, 34, 35, 36, 37, 38, 39, 40, 41, 42, 43, 44, 45, 46, 47, 48, 49, 50, 51, 52, 53, 54, 55, 56, 57, 58, 59, 60, 61, 62, 63, 64, 65, 66, 67, 68, 69, 70, 71, 72, 73, 74, 75, 76, 77, 78, 79, 80, 81, 227, 228, 84, 229, 186, 187, 188, 189, 190, 191, 192, 99, 193, 194, 195, 196, 197, 198, 199, 200, 201, 202, 203, 204, 205, 206, 126, 127, 128, 207, 208, 131, 209, 133, 210, 211, 136, 212, 143, 144, 145, 122, 146, 147, 230, 231, 232, 233, 234, 235, 236, 237, 238, 239, 240, 241, 285, 286, 287, 288] (by decide +kernel) (by decide +kernel)
set_option maxRecDepth 20000 in
theorem gX6_writeJob_J4_append_cf468 : GoodIn wsX6_writeJob (wsV RX6 309 RJ4 yJ4_append_cf468 wsJ4_append_cf468) := goodIn_app (goodIn_of _ (by decide +kernel)) ggX6_writeJob_J4_append_cf468
set_option maxRecDepth 20000 in
theorem ggX6_writeJob_X6_paperName : GoodIn wsX6_writeJob wsX6_paperName := goodIn_r _ [244] (by decide +kernel) (by decide +kernel)
set_option maxRecDepth 20000 in
theorem gX6_writeJob_X6_paperName : GoodIn wsX6_writeJob (va_wsS RX6 312 yX6_paperName wsX6_paperName) := goodIn_app (goodIn_of _ (by decide +kernel)) ggX6_writeJob_X6_paperName
set_option maxRecDepth 20000 in
theorem ggX6_writeJob_J4_length_8abf5 : GoodIn wsX6_writeJob wsJ4_length_8abf5 := goodIn_r _ [248, 249, 250, 24, 251, 26, 252, 31, 285, 286, 287, 288] (by decide +kernel) (by decide +kernel)
set_option maxRecDepth 20000 in
theorem gX6_writeJob_J4_length_8abf5 : GoodIn wsX6_writeJob (wsV RX6 324 RJ4 yJ4_length_8abf5 wsJ4_length_8abf5) := goodIn_app (goodIn_of _ (by decide +kernel)) ggX6_writeJob_J4_length_8abf5
theorem dX6_writeJob_0 : decode cX6_writeJob 0 = .ok (.aload_n 0, 1) := by decide +kernel
theorem dX6_writeJob_1 : decode cX6_writeJob 1 = .ok (.iload_n 1, 1) := by decide +kernel
theorem dX6_writeJob_2 : decode cX6_writeJob 2 = .ok (.invokevirtual 166, 3) := by decide +kernel
theorem dX6_writeJob_5 : decode cX6_writeJob 5 = .ok (.astore_n 2, 1) := by decide +kernel
theorem dX6_writeJob_6 : decode cX6_writeJob 6 = .ok (.aload_n 0, 1) := by decide +kernel
theorem dX6_writeJob_7 : decode cX6_writeJob 7 = .ok (.getfield 56, 3) := by decide +kernel
theorem dX6_writeJob_10 : decode cX6_writeJob 10 = .ok (.iconst 0, 1) := by decide +kernel
theorem dX6_writeJob_11 : decode cX6_writeJob 11 = .ok (.invokevirtual 296, 3) := by decide +kernel
theorem dX6_writeJob_14 : decode cX6_writeJob 14 = .ok (.aload_n 0, 1) := by decide +kernel
theorem dX6_writeJob_15 : decode cX6_writeJob 15 = .ok (.getfield 56, 3) := by decide +kernel
theorem dX6_writeJob_18 : decode cX6_writeJob 18 = .ok (.aload_n 2, 1) := by decide +kernel
theorem dX6_writeJob_19 : decode cX6_writeJob 19 = .ok (.getfield 234, 3) := by decide +kernel
theorem dX6_writeJob_22 : decode cX6_writeJob 22 = .ok (.invokevirtual 300, 3) := by decide +kernel
theorem dX6_writeJob_25 : decode cX6_writeJob 25 = .ok (.ldc_w 304, 3) := by decide +kernel
theorem dX6_writeJob_28 : decode cX6_writeJob 28 = .ok (.invokevirtual 306, 3) := by decide +kernel
theorem dX6_writeJob_31 : decode cX6_writeJob 31 = .ok (.pop, 1) := by decide +kernel
theorem dX6_writeJob_32 : decode cX6_writeJob 32 = .ok (.aload_n 0, 1) := by decide +kernel
theorem dX6_writeJob_33 : decode cX6_writeJob 33 = .ok (.getfield 56, 3) := by decide +kernel
theorem dX6_writeJob_36 : decode cX6_writeJob 36 = .ok (.aload_n 2, 1) := by decide +kernel
theorem dX6_writeJob_37 : decode cX6_writeJob 37 = .ok (.getfield 186, 3) := by decide +kernel
theorem dX6_writeJob_40 : decode cX6_writeJob 40 = .ok (.invokevirtual 300, 3) := by decide +kernel
theorem dX6_writeJob_43 : decode cX6_writeJob 43 = .ok (.bipush 47, 2) := by decide +kernel
theorem dX6_writeJob_45 : decode cX6_writeJob 45 = .ok (.invokevirtual 309, 3) := by decide +kernel
theorem dX6_writeJob_48 : decode cX6_writeJob 48 = .ok (.aload_n 2, 1) := by decide +kernel
theorem dX6_writeJob_49 : decode cX6_writeJob 49 = .ok (.getfield 293, 3) := by decide +kernel
theorem dX6_writeJob_52 : decode cX6_writeJob 52 = .ok (.invokevirtual 300, 3) := by decide +kernel
theorem dX6_writeJob_55 : decode cX6_writeJob 55 = .ok (.pop, 1) := by decide +kernel
theorem dX6_writeJob_56 : decode cX6_writeJob 56 = .ok (.aload_n 0, 1) := by decide +kernel
theorem dX6_writeJob_57 : decode cX6_writeJob 57 = .ok (.getfield 56, 3) := by decide +kernel
theorem dX6_writeJob_60 : decode cX6_writeJob 60 = .ok (.bipush 32, 2) := by decide +kernel
theorem dX6_writeJob_62 : decode cX6_writeJob 62 = .ok (.invokevirtual 309, 3) := by decide +kernel
theorem dX6_writeJob_65 : decode cX6_writeJob 65 = .ok (.aload_n 2, 1) := by decide +kernel
theorem dX6_writeJob_66 : decode cX6_writeJob 66 = .ok (.getfield 158, 3) := by decide +kernel
theorem dX6_writeJob_69 : decode cX6_writeJob 69 = .ok (.invokestatic 312, 3) := by decide +kernel
theorem dX6_writeJob_72 : decode cX6_writeJob 72 = .ok (.invokevirtual 306, 3) := by decide +kernel
theorem dX6_writeJob_75 : decode cX6_writeJob 75 = .ok (.pop, 1) := by decide +kernel
theorem dX6_writeJob_76 : decode cX6_writeJob 76 = .ok (.aload_n 0, 1) := by decide +kernel
theorem dX6_writeJob_77 : decode cX6_writeJob 77 = .ok (.getfield 56, 3) := by decide +kernel
theorem dX6_writeJob_80 : decode cX6_writeJob 80 = .ok (.aload_n 2, 1) := by decide +kernel
theorem dX6_writeJob_81 : decode cX6_writeJob 81 = .ok (.getfield 159, 3) := by decide +kernel
theorem dX6_writeJob_84 : decode cX6_writeJob 84 = .ok (.ifCond .eq 9, 3) := by decide +kernel
theorem dX6_writeJob_87 : decode cX6_writeJob 87 = .ok (.ldc_w 316, 3) := by decide +kernel
theorem dX6_writeJob_90 : decode cX6_writeJob 90 = .ok (.goto 6, 3) := by decide +kernel
theorem dX6_writeJob_93 : decode cX6_writeJob 93 = .ok (.ldc_w 318, 3) := by decide +kernel
theorem dX6_writeJob_96 : decode cX6_writeJob 96 = .ok (.invokevirtual 306, 3) := by decide +kernel
theorem dX6_writeJob_99 : decode cX6_writeJob 99 = .ok (.pop, 1) := by decide +kernel
theorem dX6_writeJob_100 : decode cX6_writeJob 100 = .ok (.aload_n 0, 1) := by decide +kernel
theorem dX6_writeJob_101 : decode cX6_writeJob 101 = .ok (.getfield 56, 3) := by decide +kernel
theorem dX6_writeJob_104 : decode cX6_writeJob 104 = .ok (.aload_n 2, 1) := by decide +kernel
theorem dX6_writeJob_105 : decode cX6_writeJob 105 = .ok (.getfield 163, 3) := by decide +kernel
theorem dX6_writeJob_108 : decode cX6_writeJob 108 = .ok (.ifCond .eq 9, 3) := by decide +kernel
theorem dX6_writeJob_111 : decode cX6_writeJob 111 = .ok (.ldc_w 320, 3) := by decide +kernel
theorem dX6_writeJob_114 : decode cX6_writeJob 114 = .ok (.goto 6, 3) := by decide +kernel
theorem dX6_writeJob_117 : decode cX6_writeJob 117 = .ok (.ldc_w 318, 3) := by decide +kernel
theorem dX6_writeJob_120 : decode cX6_writeJob 120 = .ok (.invokevirtual 306, 3) := by decide +kernel
theorem dX6_writeJob_123 : decode cX6_writeJob 123 = .ok (.pop, 1) := by decide +kernel
theorem dX6_writeJob_124 : decode cX6_writeJob 124 = .ok (.aload_n 0, 1) := by decide +kernel
theorem dX6_writeJob_125 : decode cX6_writeJob 125 = .ok (.getfield 56, 3) := by decide +kernel
theorem dX6_writeJob_128 : decode cX6_writeJob 128 = .ok (.aload_n 2, 1) := by decide +kernel
theorem dX6_writeJob_129 : decode cX6_writeJob 129 = .ok (.getfield 170, 3) := by decide +kernel
theorem dX6_writeJob_132 : decode cX6_writeJob 132 = .ok (.ifCond .eq 9, 3) := by decide +kernel
theorem dX6_writeJob_135 : decode cX6_writeJob 135 = .ok (.ldc_w 322, 3) := by decide +kernel
theorem dX6_writeJob_138 : decode cX6_writeJob 138 = .ok (.goto 6, 3) := by decide +kernel
theorem dX6_writeJob_141 : decode cX6_writeJob 141 = .ok (.ldc_w 318, 3) := by decide +kernel
theorem dX6_writeJob_144 : decode cX6_writeJob 144 = .ok (.invokevirtual 306, 3) := by decide +kernel
theorem dX6_writeJob_147 : decode cX6_writeJob 147 = .ok (.pop, 1) := by decide +kernel
theorem dX6_writeJob_148 : decode cX6_writeJob 148 = .ok (.aload_n 0, 1) := by decide +kernel
theorem dX6_writeJob_149 : decode cX6_writeJob 149 = .ok (.getfield 56, 3) := by decide +kernel
theorem dX6_writeJob_152 : decode cX6_writeJob 152 = .ok (.invokevirtual 324, 3) := by decide +kernel
theorem dX6_writeJob_155 : decode cX6_writeJob 155 = .ok (.ireturn, 1) := by decide +kernel
set_option maxRecDepth 20000 in
theorem ggX6_lineAt_J4_length_8abf5 : GoodIn wsX6_lineAt wsJ4_length_8abf5 := goodIn_r _ [8, 9, 10, 11, 12, 13, 14, 15, 61, 62, 63, 64] (by decide +kernel) (by decide +kernel)
set_option maxRecDepth 20000 in
theorem gX6_lineAt_J4_length_8abf5 : GoodIn wsX6_lineAt (wsV RX6 324 RJ4 yJ4_length_8abf5 wsJ4_length_8abf5) := goodIn_app (goodIn_of _ (by decide +kernel)) ggX6_lineAt_J4_length_8abf5
set_option maxRecDepth 20000 in
theorem ggX6_lineAt_J4_charAt_5068e : GoodIn wsX6_lineAt wsJ4_charAt_5068e := goodIn_r _ [19, 20, 21, 11, 22, 13, 23, 24, 25, 15, 26, 27, 28, 29, 30, 31, 32, 33, 34, 35, 36, 37, 38, 39, 40, 41, 42, 43, 44, 45, 46, 47, 48, 61, 62, 63, 64] (by decide +kernel) (by decide +kernel)
set_option maxRecDepth 20000 in
theorem gX6_lineAt_J4_charAt_5068e : GoodIn wsX6_lineAt (wsV RX6 332 RJ4 yJ4_charAt_5068e wsJ4_charAt_5068e) := goodIn_app (goodIn_of _ (by decide +kernel)) ggX6_lineAt_J4_charAt_5068e
theorem dX6_lineAt_0 : decode cX6_lineAt 0 = .ok (.iload_n 1, 1) := by decide +kernel
theorem dX6_lineAt_1 : decode cX6_lineAt 1 = .ok (.ifCond .lt 14, 3) := by decide +kernel
theorem dX6_lineAt_4 : decode cX6_lineAt 4 = .ok (.iload_n 1, 1) := by decide +kernel
theorem dX6_lineAt_5 : decode cX6_lineAt 5 = .ok (.aload_n 0, 1) := by decide +kernel
theorem dX6_lineAt_6 : decode cX6_lineAt 6 = .ok (.getfield 56, 3) := by decide +kernel
theorem dX6_lineAt_9 : decode cX6_lineAt 9 = .ok (.invokevirtual 324, 3) := by decide +kernel
theorem dX6_lineAt_12 : decode cX6_lineAt 12 = .ok (.if_icmp .lt 14, 3) := by decide +kernel
theorem dX6_lineAt_15 : decode cX6_lineAt 15 = .ok (.new 327, 3) := by decide +kernel
theorem dX6_lineAt_18 : decode cX6_lineAt 18 = .ok (.dup, 1) := by decide +kernel
theorem dX6_lineAt_19 : decode cX6_lineAt 19 = .ok (.ldc_w 329, 3) := by decide +kernel
theorem dX6_lineAt_22 : decode cX6_lineAt 22 = .ok (.invokespecial 331, 3) := by decide +kernel
theorem dX6_lineAt_25 : decode cX6_lineAt 25 = .ok (.athrow, 1) := by decide +kernel
theorem dX6_lineAt_26 : decode cX6_lineAt 26 = .ok (.aload_n 0, 1) := by decide +kernel
theorem dX6_lineAt_27 : decode cX6_lineAt 27 = .ok (.getfield 56, 3) := by decide +kernel
theorem dX6_lineAt_30 : decode cX6_lineAt 30 = .ok (.iload_n 1, 1) := by decide +kernel
theorem dX6_lineAt_31 : decode cX6_lineAt 31 = .ok (.invokevirtual 332, 3) := by decide +kernel
theorem dX6_lineAt_34 : decode cX6_lineAt 34 = .ok (.ireturn, 1) := by decide +kernel
theorem dX6_checkRange_0 : decode cX6_checkRange 0 = .ok (.iload_n 0, 1) := by decide +kernel
theorem dX6_checkRange_1 : decode cX6_checkRange 1 = .ok (.iload_n 1, 1) := by decide +kernel
theorem dX6_checkRange_2 : decode cX6_checkRange 2 = .ok (.if_icmp .lt 8, 3) := by decide +kernel
theorem dX6_checkRange_5 : decode cX6_checkRange 5 = .ok (.iload_n 0, 1) := by decide +kernel
theorem dX6_checkRange_6 : decode cX6_checkRange 6 = .ok (.iload_n 2, 1) := by decide +kernel
theorem dX6_checkRange_7 : decode cX6_checkRange 7 = .ok (.if_icmp .le 14, 3) := by decide +kernel
theorem dX6_checkRange_10 : decode cX6_checkRange 10 = .ok (.new 336, 3) := by decide +kernel
theorem dX6_checkRange_13 : decode cX6_checkRange 13 = .ok (.dup, 1) := by decide +kernel
theorem dX6_checkRange_14 : decode cX6_checkRange 14 = .ok (.ldc_w 338, 3) := by decide +kernel
theorem dX6_checkRange_17 : decode cX6_checkRange 17 = .ok (.invokespecial 340, 3) := by decide +kernel
theorem dX6_checkRange_20 : decode cX6_checkRange 20 = .ok (.athrow, 1) := by decide +kernel
theorem dX6_checkRange_21 : decode cX6_checkRange 21 = .ok (.return_, 1) := by decide +kernel
theorem dX6_checkPaper_0 : decode cX6_checkPaper 0 = .ok (.iload_n 0, 1) := by decide +kernel
theorem dX6_checkPaper_1 : decode cX6_checkPaper 1 = .ok (.bipush 97, 2) := by decide +kernel
theorem dX6_checkPaper_3 : decode cX6_checkPaper 3 = .ok (.if_icmp .eq 26, 3) := by decide +kernel
theorem dX6_checkPaper_6 : decode cX6_checkPaper 6 = .ok (.iload_n 0, 1) := by decide +kernel
theorem dX6_checkPaper_7 : decode cX6_checkPaper 7 = .ok (.bipush 98, 2) := by decide +kernel
theorem dX6_checkPaper_9 : decode cX6_checkPaper 9 = .ok (.if_icmp .eq 20, 3) := by decide +kernel
theorem dX6_checkPaper_12 : decode cX6_checkPaper 12 = .ok (.iload_n 0, 1) := by decide +kernel
theorem dX6_checkPaper_13 : decode cX6_checkPaper 13 = .ok (.bipush 108, 2) := by decide +kernel
theorem dX6_checkPaper_15 : decode cX6_checkPaper 15 = .ok (.if_icmp .eq 14, 3) := by decide +kernel
theorem dX6_checkPaper_18 : decode cX6_checkPaper 18 = .ok (.new 336, 3) := by decide +kernel
theorem dX6_checkPaper_21 : decode cX6_checkPaper 21 = .ok (.dup, 1) := by decide +kernel
theorem dX6_checkPaper_22 : decode cX6_checkPaper 22 = .ok (.ldc_w 341, 3) := by decide +kernel
theorem dX6_checkPaper_25 : decode cX6_checkPaper 25 = .ok (.invokespecial 340, 3) := by decide +kernel
theorem dX6_checkPaper_28 : decode cX6_checkPaper 28 = .ok (.athrow, 1) := by decide +kernel
theorem dX6_checkPaper_29 : decode cX6_checkPaper 29 = .ok (.return_, 1) := by decide +kernel
theorem dX6_paperName_0 : decode cX6_paperName 0 = .ok (.iload_n 0, 1) := by decide +kernel
theorem dX6_paperName_1 : decode cX6_paperName 1 = .ok (.bipush 97, 2) := by decide +kernel
theorem dX6_paperName_3 : decode cX6_paperName 3 = .ok (.if_icmp .ne 7, 3) := by decide +kernel
theorem dX6_paperName_6 : decode cX6_paperName 6 = .ok (.ldc_w 343, 3) := by decide +kernel
theorem dX6_paperName_9 : decode cX6_paperName 9 = .ok (.areturn, 1) := by decide +kernel
theorem dX6_paperName_10 : decode cX6_paperName 10 = .ok (.iload_n 0, 1) := by decide +kernel
theorem dX6_paperName_11 : decode cX6_paperName 11 = .ok (.bipush 98, 2) := by decide +kernel
theorem dX6_paperName_13 : decode cX6_paperName 13 = .ok (.if_icmp .ne 9, 3) := by decide +kernel
theorem dX6_paperName_16 : decode cX6_paperName 16 = .ok (.ldc_w 345, 3) := by decide +kernel
theorem dX6_paperName_19 : decode cX6_paperName 19 = .ok (.goto 6, 3) := by decide +kernel
theorem dX6_paperName_22 : decode cX6_paperName 22 = .ok (.ldc_w 347, 3) := by decide +kernel
theorem dX6_paperName_25 : decode cX6_paperName 25 = .ok (.areturn, 1) := by decide +kernel
theorem dX6_checkHasToner_0 : decode cX6_checkHasToner 0 = .ok (.iload_n 1, 1) := by decide +kernel
theorem dX6_checkHasToner_1 : decode cX6_checkHasToner 1 = .ok (.ifCond .eq 21, 3) := by decide +kernel
theorem dX6_checkHasToner_4 : decode cX6_checkHasToner 4 = .ok (.aload_n 0, 1) := by decide +kernel
theorem dX6_checkHasToner_5 : decode cX6_checkHasToner 5 = .ok (.getfield 349, 3) := by decide +kernel
theorem dX6_checkHasToner_8 : decode cX6_checkHasToner 8 = .ok (.ifCond .ne 14, 3) := by decide +kernel
theorem dX6_checkHasToner_11 : decode cX6_checkHasToner 11 = .ok (.new 207, 3) := by decide +kernel
theorem dX6_checkHasToner_14 : decode cX6_checkHasToner 14 = .ok (.dup, 1) := by decide +kernel
theorem dX6_checkHasToner_15 : decode cX6_checkHasToner 15 = .ok (.ldc_w 350, 3) := by decide +kernel
theorem dX6_checkHasToner_18 : decode cX6_checkHasToner 18 = .ok (.invokespecial 211, 3) := by decide +kernel
theorem dX6_checkHasToner_21 : decode cX6_checkHasToner 21 = .ok (.athrow, 1) := by decide +kernel
theorem dX6_checkHasToner_22 : decode cX6_checkHasToner 22 = .ok (.return_, 1) := by decide +kernel
theorem dX6_userAt_0 : decode cX6_userAt 0 = .ok (.iload_n 1, 1) := by decide +kernel
theorem dX6_userAt_1 : decode cX6_userAt 1 = .ok (.ifCond .lt 21, 3) := by decide +kernel
theorem dX6_userAt_4 : decode cX6_userAt 4 = .ok (.iload_n 1, 1) := by decide +kernel
theorem dX6_userAt_5 : decode cX6_userAt 5 = .ok (.aload_n 0, 1) := by decide +kernel
theorem dX6_userAt_6 : decode cX6_userAt 6 = .ok (.getfield 11, 3) := by decide +kernel
theorem dX6_userAt_9 : decode cX6_userAt 9 = .ok (.arraylength, 1) := by decide +kernel
theorem dX6_userAt_10 : decode cX6_userAt 10 = .ok (.if_icmp .ge 12, 3) := by decide +kernel
theorem dX6_userAt_13 : decode cX6_userAt 13 = .ok (.aload_n 0, 1) := by decide +kernel
theorem dX6_userAt_14 : decode cX6_userAt 14 = .ok (.getfield 11, 3) := by decide +kernel
theorem dX6_userAt_17 : decode cX6_userAt 17 = .ok (.iload_n 1, 1) := by decide +kernel
theorem dX6_userAt_18 : decode cX6_userAt 18 = .ok (.aaload, 1) := by decide +kernel
theorem dX6_userAt_19 : decode cX6_userAt 19 = .ok (.goto 4, 3) := by decide +kernel
theorem dX6_userAt_22 : decode cX6_userAt 22 = .ok (.aconst_null, 1) := by decide +kernel
theorem dX6_userAt_23 : decode cX6_userAt 23 = .ok (.astore_n 2, 1) := by decide +kernel
theorem dX6_userAt_24 : decode cX6_userAt 24 = .ok (.aload_n 2, 1) := by decide +kernel
theorem dX6_userAt_25 : decode cX6_userAt 25 = .ok (.ifnonnull 14, 3) := by decide +kernel
theorem dX6_userAt_28 : decode cX6_userAt 28 = .ok (.new 327, 3) := by decide +kernel
theorem dX6_userAt_31 : decode cX6_userAt 31 = .ok (.dup, 1) := by decide +kernel
theorem dX6_userAt_32 : decode cX6_userAt 32 = .ok (.ldc_w 352, 3) := by decide +kernel
theorem dX6_userAt_35 : decode cX6_userAt 35 = .ok (.invokespecial 331, 3) := by decide +kernel
theorem dX6_userAt_38 : decode cX6_userAt 38 = .ok (.athrow, 1) := by decide +kernel
theorem dX6_userAt_39 : decode cX6_userAt 39 = .ok (.aload_n 2, 1) := by decide +kernel
theorem dX6_userAt_40 : decode cX6_userAt 40 = .ok (.areturn, 1) := by decide +kernel
theorem dX6_printerAt_0 : decode cX6_printerAt 0 = .ok (.iload_n 1, 1) := by decide +kernel
theorem dX6_printerAt_1 : decode cX6_printerAt 1 = .ok (.ifCond .lt 21, 3) := by decide +kernel
theorem dX6_printerAt_4 : decode cX6_printerAt 4 = .ok (.iload_n 1, 1) := by decide +kernel
theorem dX6_printerAt_5 : decode cX6_printerAt 5 = .ok (.aload_n 0, 1) := by decide +kernel
theorem dX6_printerAt_6 : decode cX6_printerAt 6 = .ok (.getfield 17, 3) := by decide +kernel
theorem dX6_printerAt_9 : decode cX6_printerAt 9 = .ok (.arraylength, 1) := by decide +kernel
theorem dX6_printerAt_10 : decode cX6_printerAt 10 = .ok (.if_icmp .ge 12, 3) := by decide +kernel
theorem dX6_printerAt_13 : decode cX6_printerAt 13 = .ok (.aload_n 0, 1) := by decide +kernel
theorem dX6_printerAt_14 : decode cX6_printerAt 14 = .ok (.getfield 17, 3) := by decide +kernel
theorem dX6_printerAt_17 : decode cX6_printerAt 17 = .ok (.iload_n 1, 1) := by decide +kernel
theorem dX6_printerAt_18 : decode cX6_printerAt 18 = .ok (.aaload, 1) := by decide +kernel
theorem dX6_printerAt_19 : decode cX6_printerAt 19 = .ok (.goto 4, 3) := by decide +kernel
theorem dX6_printerAt_22 : decode cX6_printerAt 22 = .ok (.aconst_null, 1) := by decide +kernel
theorem dX6_printerAt_23 : decode cX6_printerAt 23 = .ok (.astore_n 2, 1) := by decide +kernel
theorem dX6_printerAt_24 : decode cX6_printerAt 24 = .ok (.aload_n 2, 1) := by decide +kernel
theorem dX6_printerAt_25 : decode cX6_printerAt 25 = .ok (.ifnonnull 14, 3) := by decide +kernel
theorem dX6_printerAt_28 : decode cX6_printerAt 28 = .ok (.new 327, 3) := by decide +kernel
theorem dX6_printerAt_31 : decode cX6_printerAt 31 = .ok (.dup, 1) := by decide +kernel
theorem dX6_printerAt_32 : decode cX6_printerAt 32 = .ok (.ldc_w 354, 3) := by decide +kernel
theorem dX6_printerAt_35 : decode cX6_printerAt 35 = .ok (.invokespecial 331, 3) := by decide +kernel
theorem dX6_printerAt_38 : decode cX6_printerAt 38 = .ok (.athrow, 1) := by decide +kernel
theorem dX6_printerAt_39 : decode cX6_printerAt 39 = .ok (.aload_n 2, 1) := by decide +kernel
theorem dX6_printerAt_40 : decode cX6_printerAt 40 = .ok (.areturn, 1) := by decide +kernel
set_option maxRecDepth 20000 in
theorem ggX6_trayAt_X6_printerAt : GoodIn wsX6_trayAt wsX6_printerAt := goodIn_ca (goodIn_r _ [8, 1, 2, 9, 16, 17, 18, 19, 20, 21, 22, 23, 24, 25, 26, 27] (by decide +kernel) (by decide +kernel)) (goodIn_sub (fun _ h => List.mem_cons_of_mem _ (List.mem_append_right _ h)) (by decide +kernel))
set_option maxRecDepth 20000 in
theorem gX6_trayAt_X6_printerAt : GoodIn wsX6_trayAt (wsV RX6 86 RX6 yX6_printerAt wsX6_printerAt) := goodIn_app (goodIn_of _ (by decide +kernel)) ggX6_trayAt_X6_printerAt
theorem dX6_trayAt_0 : decode cX6_trayAt 0 = .ok (.aload_n 0, 1) := by decide +kernel
theorem dX6_trayAt_1 : decode cX6_trayAt 1 = .ok (.iload_n 1, 1) := by decide +kernel
theorem dX6_trayAt_2 : decode cX6_trayAt 2 = .ok (.invokevirtual 86, 3) := by decide +kernel
theorem dX6_trayAt_5 : decode cX6_trayAt 5 = .ok (.getfield 97, 3) := by decide +kernel
theorem dX6_trayAt_8 : decode cX6_trayAt 8 = .ok (.astore_n 3, 1) := by decide +kernel
theorem dX6_trayAt_9 : decode cX6_trayAt 9 = .ok (.iload_n 2, 1) := by decide +kernel
theorem dX6_trayAt_10 : decode cX6_trayAt 10 = .ok (.ifCond .lt 15, 3) := by decide +kernel
theorem dX6_trayAt_13 : decode cX6_trayAt 13 = .ok (.iload_n 2, 1) := by decide +kernel
theorem dX6_trayAt_14 : decode cX6_trayAt 14 = .ok (.aload_n 3, 1) := by decide +kernel
theorem dX6_trayAt_15 : decode cX6_trayAt 15 = .ok (.arraylength, 1) := by decide +kernel
theorem dX6_trayAt_16 : decode cX6_trayAt 16 = .ok (.if_icmp .ge 9, 3) := by decide +kernel
theorem dX6_trayAt_19 : decode cX6_trayAt 19 = .ok (.aload_n 3, 1) := by decide +kernel
theorem dX6_trayAt_20 : decode cX6_trayAt 20 = .ok (.iload_n 2, 1) := by decide +kernel
theorem dX6_trayAt_21 : decode cX6_trayAt 21 = .ok (.aaload, 1) := by decide +kernel
theorem dX6_trayAt_22 : decode cX6_trayAt 22 = .ok (.goto 4, 3) := by decide +kernel
theorem dX6_trayAt_25 : decode cX6_trayAt 25 = .ok (.aconst_null, 1) := by decide +kernel
theorem dX6_trayAt_26 : decode cX6_trayAt 26 = .ok (.astore 4, 2) := by decide +kernel
theorem dX6_trayAt_28 : decode cX6_trayAt 28 = .ok (.aload 4, 2) := by decide +kernel
theorem dX6_trayAt_30 : decode cX6_trayAt 30 = .ok (.ifnonnull 14, 3) := by decide +kernel
theorem dX6_trayAt_33 : decode cX6_trayAt 33 = .ok (.new 327, 3) := by decide +kernel
theorem dX6_trayAt_36 : decode cX6_trayAt 36 = .ok (.dup, 1) := by decide +kernel
theorem dX6_trayAt_37 : decode cX6_trayAt 37 = .ok (.ldc_w 356, 3) := by decide +kernel
theorem dX6_trayAt_40 : decode cX6_trayAt 40 = .ok (.invokespecial 331, 3) := by decide +kernel
theorem dX6_trayAt_43 : decode cX6_trayAt 43 = .ok (.athrow, 1) := by decide +kernel
theorem dX6_trayAt_44 : decode cX6_trayAt 44 = .ok (.aload 4, 2) := by decide +kernel
theorem dX6_trayAt_46 : decode cX6_trayAt 46 = .ok (.areturn, 1) := by decide +kernel
theorem dX6_jobAt_0 : decode cX6_jobAt 0 = .ok (.iload_n 1, 1) := by decide +kernel
theorem dX6_jobAt_1 : decode cX6_jobAt 1 = .ok (.ifCond .lt 21, 3) := by decide +kernel
theorem dX6_jobAt_4 : decode cX6_jobAt 4 = .ok (.iload_n 1, 1) := by decide +kernel
theorem dX6_jobAt_5 : decode cX6_jobAt 5 = .ok (.aload_n 0, 1) := by decide +kernel
theorem dX6_jobAt_6 : decode cX6_jobAt 6 = .ok (.getfield 23, 3) := by decide +kernel
theorem dX6_jobAt_9 : decode cX6_jobAt 9 = .ok (.arraylength, 1) := by decide +kernel
theorem dX6_jobAt_10 : decode cX6_jobAt 10 = .ok (.if_icmp .ge 12, 3) := by decide +kernel
theorem dX6_jobAt_13 : decode cX6_jobAt 13 = .ok (.aload_n 0, 1) := by decide +kernel
theorem dX6_jobAt_14 : decode cX6_jobAt 14 = .ok (.getfield 23, 3) := by decide +kernel
theorem dX6_jobAt_17 : decode cX6_jobAt 17 = .ok (.iload_n 1, 1) := by decide +kernel
theorem dX6_jobAt_18 : decode cX6_jobAt 18 = .ok (.aaload, 1) := by decide +kernel
theorem dX6_jobAt_19 : decode cX6_jobAt 19 = .ok (.goto 4, 3) := by decide +kernel
theorem dX6_jobAt_22 : decode cX6_jobAt 22 = .ok (.aconst_null, 1) := by decide +kernel
theorem dX6_jobAt_23 : decode cX6_jobAt 23 = .ok (.astore_n 2, 1) := by decide +kernel
theorem dX6_jobAt_24 : decode cX6_jobAt 24 = .ok (.aload_n 2, 1) := by decide +kernel
theorem dX6_jobAt_25 : decode cX6_jobAt 25 = .ok (.ifnonnull 14, 3) := by decide +kernel
theorem dX6_jobAt_28 : decode cX6_jobAt 28 = .ok (.new 327, 3) := by decide +kernel
theorem dX6_jobAt_31 : decode cX6_jobAt 31 = .ok (.dup, 1) := by decide +kernel
theorem dX6_jobAt_32 : decode cX6_jobAt 32 = .ok (.ldc_w 358, 3) := by decide +kernel
theorem dX6_jobAt_35 : decode cX6_jobAt 35 = .ok (.invokespecial 331, 3) := by decide +kernel
theorem dX6_jobAt_38 : decode cX6_jobAt 38 = .ok (.athrow, 1) := by decide +kernel
theorem dX6_jobAt_39 : decode cX6_jobAt 39 = .ok (.aload_n 2, 1) := by decide +kernel
theorem dX6_jobAt_40 : decode cX6_jobAt 40 = .ok (.areturn, 1) := by decide +kernel
set_option maxRecDepth 20000 in
theorem ggX6_entryAt_Jx4a65c_size_8abf5 : GoodIn wsX6_entryAt wsJx4a65c_size_8abf5 := goodIn_r _ [9, 10, 40, 41, 42] (by decide +kernel) (by decide +kernel)
set_option maxRecDepth 20000 in
theorem gX6_entryAt_Jx4a65c_size_8abf5 : GoodIn wsX6_entryAt (wsV RX6 239 RJx4a65c yJx4a65c_size_8abf5 wsJx4a65c_size_8abf5) := goodIn_app (goodIn_of _ (by decide +kernel)) ggX6_entryAt_Jx4a65c_size_8abf5
set_option maxRecDepth 20000 in
theorem ggX6_entryAt_Jx4a65c_get_915e3 : GoodIn wsX6_entryAt wsJx4a65c_get_915e3 := goodIn_r _ [14, 10, 15, 16, 17, 18, 19, 20, 21, 22, 23, 24, 25, 8, 26, 27, 40, 41, 42] (by decide +kernel) (by decide +kernel)
set_option maxRecDepth 20000 in
theorem gX6_entryAt_Jx4a65c_get_915e3 : GoodIn wsX6_entryAt (wsV RX6 257 RJx4a65c yJx4a65c_get_915e3 wsJx4a65c_get_915e3) := goodIn_app (goodIn_of _ (by decide +kernel)) ggX6_entryAt_Jx4a65c_get_915e3
theorem dX6_entryAt_0 : decode cX6_entryAt 0 = .ok (.iload_n 1, 1) := by decide +kernel
theorem dX6_entryAt_1 : decode cX6_entryAt 1 = .ok (.ifCond .lt 14, 3) := by decide +kernel
theorem dX6_entryAt_4 : decode cX6_entryAt 4 = .ok (.iload_n 1, 1) := by decide +kernel
theorem dX6_entryAt_5 : decode cX6_entryAt 5 = .ok (.aload_n 0, 1) := by decide +kernel
theorem dX6_entryAt_6 : decode cX6_entryAt 6 = .ok (.getfield 49, 3) := by decide +kernel
theorem dX6_entryAt_9 : decode cX6_entryAt 9 = .ok (.invokevirtual 239, 3) := by decide +kernel
theorem dX6_entryAt_12 : decode cX6_entryAt 12 = .ok (.if_icmp .lt 14, 3) := by decide +kernel
theorem dX6_entryAt_15 : decode cX6_entryAt 15 = .ok (.new 327, 3) := by decide +kernel
theorem dX6_entryAt_18 : decode cX6_entryAt 18 = .ok (.dup, 1) := by decide +kernel
theorem dX6_entryAt_19 : decode cX6_entryAt 19 = .ok (.ldc_w 360, 3) := by decide +kernel
theorem dX6_entryAt_22 : decode cX6_entryAt 22 = .ok (.invokespecial 331, 3) := by decide +kernel
theorem dX6_entryAt_25 : decode cX6_entryAt 25 = .ok (.athrow, 1) := by decide +kernel
theorem dX6_entryAt_26 : decode cX6_entryAt 26 = .ok (.aload_n 0, 1) := by decide +kernel
theorem dX6_entryAt_27 : decode cX6_entryAt 27 = .ok (.getfield 49, 3) := by decide +kernel
theorem dX6_entryAt_30 : decode cX6_entryAt 30 = .ok (.iload_n 1, 1) := by decide +kernel
theorem dX6_entryAt_31 : decode cX6_entryAt 31 = .ok (.invokevirtual 257, 3) := by decide +kernel
theorem dX6_entryAt_34 : decode cX6_entryAt 34 = .ok (.checkcast 247, 3) := by decide +kernel
theorem dX6_entryAt_37 : decode cX6_entryAt 37 = .ok (.areturn, 1) := by decide +kernel
set_option maxRecDepth 20000 in
theorem ggX6_reasonNow_X6_userAt : GoodIn wsX6_reasonNow wsX6_userAt := goodIn_ca (goodIn_r _ [7, 8, 9, 10, 81, 82, 83, 84, 85, 86, 87, 88, 89, 90, 91, 92] (by decide +kernel) (by decide +kernel)) (goodIn_sub (fun _ h => List.mem_cons_of_mem _ (List.mem_append_right _ h)) (by decide +kernel))
set_option maxRecDepth 20000 in
theorem gX6_reasonNow_X6_userAt : GoodIn wsX6_reasonNow (wsV RX6 140 RX6 yX6_userAt wsX6_userAt) := goodIn_app (goodIn_of _ (by decide +kernel)) ggX6_reasonNow_X6_userAt
set_option maxRecDepth 20000 in
theorem ggX6_reasonNow_X2_begin : GoodIn wsX6_reasonNow wsX2_begin := goodIn_r _ [15, 16, 17, 18, 19, 20, 21, 22, 23, 24, 25, 26, 27, 28, 29, 30, 31, 32, 33, 34, 35, 36, 37, 38, 39, 40, 41, 42, 43, 44, 45, 46, 93, 94, 95, 96, 97, 98, 99, 100, 101, 102, 103, 104, 105, 106, 107, 108, 109, 110, 111, 112, 113, 114, 115, 116, 117, 118, 119, 120, 121, 122, 123, 124, 125, 126, 127, 128] (by decide +kernel) (by decide +kernel)
set_option maxRecDepth 20000 in
theorem gX6_reasonNow_X2_begin : GoodIn wsX6_reasonNow (wsV RX6 362 RX2 yX2_begin wsX2_begin) := goodIn_app (goodIn_of _ (by decide +kernel)) ggX6_reasonNow_X2_begin
set_option maxRecDepth 20000 in
theorem ggX6_reasonNow_X2_nextReason : GoodIn wsX6_reasonNow wsX2_nextReason := goodIn_r _ [50, 21, 51, 19, 52, 17, 22, 18, 24, 53, 54, 20, 55, 56, 57, 58, 59, 60, 61, 62, 63, 64, 65, 66, 67, 68, 69, 70, 71, 72, 73, 74, 75, 76, 77, 78, 79, 80, 107, 108, 109, 110, 111, 112, 113, 114, 115, 116, 93, 94, 95, 96, 97, 98, 99, 100, 101, 102, 103, 104, 105, 106, 117, 118, 119, 120, 121, 122] (by decide +kernel) (by decide +kernel)
set_option maxRecDepth 20000 in
theorem gX6_reasonNow_X2_nextReason : GoodIn wsX6_reasonNow (wsV RX6 366 RX2 yX2_nextReason wsX2_nextReason) := goodIn_app (goodIn_of _ (by decide +kernel)) ggX6_reasonNow_X2_nextReason
theorem dX6_reasonNow_0 : decode cX6_reasonNow 0 = .ok (.aload_n 0, 1) := by decide +kernel
theorem dX6_reasonNow_1 : decode cX6_reasonNow 1 = .ok (.getfield 63, 3) := by decide +kernel
theorem dX6_reasonNow_4 : decode cX6_reasonNow 4 = .ok (.aload_n 1, 1) := by decide +kernel
theorem dX6_reasonNow_5 : decode cX6_reasonNow 5 = .ok (.aload_n 2, 1) := by decide +kernel
theorem dX6_reasonNow_6 : decode cX6_reasonNow 6 = .ok (.aload_n 0, 1) := by decide +kernel
theorem dX6_reasonNow_7 : decode cX6_reasonNow 7 = .ok (.aload_n 1, 1) := by decide +kernel
theorem dX6_reasonNow_8 : decode cX6_reasonNow 8 = .ok (.getfield 216, 3) := by decide +kernel
theorem dX6_reasonNow_11 : decode cX6_reasonNow 11 = .ok (.invokevirtual 140, 3) := by decide +kernel
theorem dX6_reasonNow_14 : decode cX6_reasonNow 14 = .ok (.invokevirtual 362, 3) := by decide +kernel
theorem dX6_reasonNow_17 : decode cX6_reasonNow 17 = .ok (.aload_n 0, 1) := by decide +kernel
theorem dX6_reasonNow_18 : decode cX6_reasonNow 18 = .ok (.getfield 63, 3) := by decide +kernel
theorem dX6_reasonNow_21 : decode cX6_reasonNow 21 = .ok (.aload_n 1, 1) := by decide +kernel
theorem dX6_reasonNow_22 : decode cX6_reasonNow 22 = .ok (.aload_n 2, 1) := by decide +kernel
theorem dX6_reasonNow_23 : decode cX6_reasonNow 23 = .ok (.invokevirtual 366, 3) := by decide +kernel
theorem dX6_reasonNow_26 : decode cX6_reasonNow 26 = .ok (.ireturn, 1) := by decide +kernel
set_option maxRecDepth 20000 in
theorem ggX6_makePlan_X6_reasonNow : GoodIn wsX6_makePlan wsX6_reasonNow := goodIn_ca (goodIn_r _ [7, 1, 8, 9, 10, 11, 6, 12, 13, 14, 15, 16, 17, 18, 19, 20, 21, 22, 23, 24, 25, 26, 27, 28, 29, 30, 31, 32, 33, 34, 35, 36, 37, 38, 39, 40, 41, 42, 43, 44, 45, 46, 47, 48, 49, 50, 51, 52, 53, 54, 55, 56, 57, 58, 59, 60, 61, 62, 63, 64, 65, 66, 67, 68, 69, 70, 71, 72, 73, 74, 75, 76, 77, 78, 79, 80, 81, 82, 83, 84, 85, 91, 92, 93, 94, 95, 96, 97, 98, 99, 100, 101, 102, 113, 114, 115, 116, 117, 118, 119, 120, 121, 122, 123, 124, 125, 126, 103, 104, 105, 106, 107, 108, 109, 110, 111, 112, 127, 128, 129, 130, 131, 132, 133, 134, 135, 136, 137, 138] (by decide +kernel) (by decide +kernel)) (goodIn_sub (fun _ h => List.mem_cons_of_mem _ (List.mem_append_right _ h)) (by decide +kernel))
set_option maxRecDepth 20000 in
theorem gX6_makePlan_X6_reasonNow : GoodIn wsX6_makePlan (wsV RX6 195 RX6 yX6_reasonNow wsX6_reasonNow) := goodIn_app (goodIn_of _ (by decide +kernel)) ggX6_makePlan_X6_reasonNow
set_option maxRecDepth 20000 in
theorem ggX6_makePlan_X2_addSheet : GoodIn wsX6_makePlan wsX2_addSheet := goodIn_r _ [89, 29, 26, 27, 30, 90, 31, 32, 67, 68, 69, 63, 70, 71, 72, 73, 74, 75, 76, 103, 104, 105, 106, 107, 108, 109, 110, 111, 112, 113, 114, 115, 116, 117, 118, 119, 120, 121, 122, 123, 124, 125, 126] (by decide +kernel) (by decide +kernel)
set_option maxRecDepth 20000 in
theorem gX6_makePlan_X2_addSheet : GoodIn wsX6_makePlan (wsV RX6 369 RX2 yX2_addSheet wsX2_addSheet) := goodIn_app (goodIn_of _ (by decide +kernel)) ggX6_makePlan_X2_addSheet
set_option maxRecDepth 20000 in
theorem ggX6_makePlan_X2_nextReason : GoodIn wsX6_makePlan wsX2_nextReason := goodIn_r _ [55, 26, 56, 24, 57, 22, 27, 23, 29, 58, 59, 25, 60, 61, 62, 63, 64, 65, 66, 67, 68, 69, 70, 71, 72, 73, 74, 75, 76, 77, 78, 79, 80, 81, 82, 83, 84, 85, 103, 104, 105, 106, 107, 108, 109, 110, 111, 112, 113, 114, 115, 116, 117, 118, 119, 120, 121, 122, 123, 124, 125, 126, 127, 128, 129, 130, 131, 132] (by decide +kernel) (by decide +kernel)
set_option maxRecDepth 20000 in
theorem gX6_makePlan_X2_nextReason : GoodIn wsX6_makePlan (wsV RX6 366 RX2 yX2_nextReason wsX2_nextReason) := goodIn_app (goodIn_of _ (by decide +kernel)) ggX6_makePlan_X2_nextReason
theorem dX6_makePlan_0 : decode cX6_makePlan 0 = .ok (.aload_n 0, 1) := by decide +kernel
theorem dX6_makePlan_1 : decode cX6_makePlan 1 = .ok (.getfield 63, 3) := by decide +kernel
theorem dX6_makePlan_4 : decode cX6_makePlan 4 = .ok (.aload_n 0, 1) := by decide +kernel
theorem dX6_makePlan_5 : decode cX6_makePlan 5 = .ok (.aload_n 1, 1) := by decide +kernel
theorem dX6_makePlan_6 : decode cX6_makePlan 6 = .ok (.aload_n 2, 1) := by decide +kernel
theorem dX6_makePlan_7 : decode cX6_makePlan 7 = .ok (.invokevirtual 195, 3) := by decide +kernel
theorem dX6_makePlan_10 : decode cX6_makePlan 10 = .ok (.putfield 219, 3) := by decide +kernel
theorem dX6_makePlan_13 : decode cX6_makePlan 13 = .ok (.iconst 0, 1) := by decide +kernel
theorem dX6_makePlan_14 : decode cX6_makePlan 14 = .ok (.istore_n 3, 1) := by decide +kernel
theorem dX6_makePlan_15 : decode cX6_makePlan 15 = .ok (.iload_n 3, 1) := by decide +kernel
theorem dX6_makePlan_16 : decode cX6_makePlan 16 = .ok (.sipush 900, 3) := by decide +kernel
theorem dX6_makePlan_19 : decode cX6_makePlan 19 = .ok (.if_icmp .ge 45, 3) := by decide +kernel
theorem dX6_makePlan_22 : decode cX6_makePlan 22 = .ok (.aload_n 0, 1) := by decide +kernel
theorem dX6_makePlan_23 : decode cX6_makePlan 23 = .ok (.getfield 63, 3) := by decide +kernel
theorem dX6_makePlan_26 : decode cX6_makePlan 26 = .ok (.getfield 219, 3) := by decide +kernel
theorem dX6_makePlan_29 : decode cX6_makePlan 29 = .ok (.bipush 45, 2) := by decide +kernel
theorem dX6_makePlan_31 : decode cX6_makePlan 31 = .ok (.if_icmp .ne 33, 3) := by decide +kernel
theorem dX6_makePlan_34 : decode cX6_makePlan 34 = .ok (.aload_n 0, 1) := by decide +kernel
theorem dX6_makePlan_35 : decode cX6_makePlan 35 = .ok (.getfield 63, 3) := by decide +kernel
theorem dX6_makePlan_38 : decode cX6_makePlan 38 = .ok (.aload_n 1, 1) := by decide +kernel
theorem dX6_makePlan_39 : decode cX6_makePlan 39 = .ok (.invokevirtual 369, 3) := by decide +kernel
theorem dX6_makePlan_42 : decode cX6_makePlan 42 = .ok (.aload_n 0, 1) := by decide +kernel
theorem dX6_makePlan_43 : decode cX6_makePlan 43 = .ok (.getfield 63, 3) := by decide +kernel
theorem dX6_makePlan_46 : decode cX6_makePlan 46 = .ok (.aload_n 0, 1) := by decide +kernel
theorem dX6_makePlan_47 : decode cX6_makePlan 47 = .ok (.getfield 63, 3) := by decide +kernel
theorem dX6_makePlan_50 : decode cX6_makePlan 50 = .ok (.aload_n 1, 1) := by decide +kernel
theorem dX6_makePlan_51 : decode cX6_makePlan 51 = .ok (.aload_n 2, 1) := by decide +kernel
theorem dX6_makePlan_52 : decode cX6_makePlan 52 = .ok (.invokevirtual 366, 3) := by decide +kernel
theorem dX6_makePlan_55 : decode cX6_makePlan 55 = .ok (.putfield 219, 3) := by decide +kernel
theorem dX6_makePlan_58 : decode cX6_makePlan 58 = .ok (.iinc 3 1, 3) := by decide +kernel
theorem dX6_makePlan_61 : decode cX6_makePlan 61 = .ok (.goto (-46), 3) := by decide +kernel
theorem dX6_makePlan_64 : decode cX6_makePlan 64 = .ok (.return_, 1) := by decide +kernel
set_option maxRecDepth 20000 in
theorem ggX6_carryOutPlan_X6_printerAt : GoodIn wsX6_carryOutPlan wsX6_printerAt := goodIn_ca (goodIn_r _ [40, 41, 42, 43, 154, 155, 156, 157, 158, 159, 160, 161, 162, 163, 164, 165] (by decide +kernel) (by decide +kernel)) (goodIn_sub (fun _ h => List.mem_cons_of_mem _ (List.mem_append_right _ h)) (by decide +kernel))
set_option maxRecDepth 20000 in
theorem gX6_carryOutPlan_X6_printerAt : GoodIn wsX6_carryOutPlan (wsV RX6 86 RX6 yX6_printerAt wsX6_printerAt) := goodIn_app (goodIn_of _ (by decide +kernel)) ggX6_carryOutPlan_X6_printerAt
set_option maxRecDepth 20000 in
theorem ggX6_carryOutPlan_X6_userAt : GoodIn wsX6_carryOutPlan wsX6_userAt := goodIn_ca (goodIn_r _ [47, 41, 42, 48, 154, 155, 156, 157, 158, 159, 160, 161, 162, 163, 164, 165] (by decide +kernel) (by decide +kernel)) (goodIn_sub (fun _ h => List.mem_cons_of_mem _ (List.mem_append_right _ h)) (by decide +kernel))
set_option maxRecDepth 20000 in
theorem gX6_carryOutPlan_X6_userAt : GoodIn wsX6_carryOutPlan (wsV RX6 140 RX6 yX6_userAt wsX6_userAt) := goodIn_app (goodIn_of _ (by decide +kernel)) ggX6_carryOutPlan_X6_userAt
set_option maxRecDepth 20000 in
theorem ggX6_carryOutPlan_X3_takeSheets : GoodIn wsX6_carryOutPlan wsX3_takeSheets := goodIn_r _ [53, 54, 55, 56, 57, 7, 8, 9, 176, 177, 178, 179, 180, 181, 192, 193] (by decide +kernel) (by decide +kernel)
set_option maxRecDepth 20000 in
theorem gX6_carryOutPlan_X3_takeSheets : GoodIn wsX6_carryOutPlan (wsV RX6 382 RX3 yX3_takeSheets wsX3_takeSheets) := goodIn_app (goodIn_of _ (by decide +kernel)) ggX6_carryOutPlan_X3_takeSheets
set_option maxRecDepth 20000 in
theorem ggX6_carryOutPlan_X1_blackTonerFor : GoodIn wsX6_carryOutPlan wsX1_blackTonerFor := goodIn_r _ [62, 63, 140, 141, 142, 143, 144, 145, 146, 147, 148, 149, 150, 151, 152, 153] (by decide +kernel) (by decide +kernel)
set_option maxRecDepth 20000 in
theorem gX6_carryOutPlan_X1_blackTonerFor : GoodIn wsX6_carryOutPlan (wsV RX6 385 RX1 yX1_blackTonerFor wsX1_blackTonerFor) := goodIn_app (goodIn_of _ (by decide +kernel)) ggX6_carryOutPlan_X1_blackTonerFor
set_option maxRecDepth 20000 in
theorem ggX6_carryOutPlan_X1_colourTonerFor : GoodIn wsX6_carryOutPlan wsX1_colourTonerFor := goodIn_r _ [67, 63, 140, 141, 142, 143, 144, 145, 146, 147, 148, 149, 150, 151, 152, 153] (by decide +kernel) (by decide +kernel)
set_option maxRecDepth 20000 in
theorem gX6_carryOutPlan_X1_colourTonerFor : GoodIn wsX6_carryOutPlan (wsV RX6 388 RX1 yX1_colourTonerFor wsX1_colourTonerFor) := goodIn_app (goodIn_of _ (by decide +kernel)) ggX6_carryOutPlan_X1_colourTonerFor
set_option maxRecDepth 20000 in
theorem ggX6_carryOutPlan_X5_addQuota : GoodIn wsX6_carryOutPlan wsX5_addQuota := goodIn_r _ [72, 73, 74, 182, 183, 184, 185] (by decide +kernel) (by decide +kernel)
set_option maxRecDepth 20000 in
theorem gX6_carryOutPlan_X5_addQuota : GoodIn wsX6_carryOutPlan (wsV RX6 149 RX5 yX5_addQuota wsX5_addQuota) := goodIn_app (goodIn_of _ (by decide +kernel)) ggX6_carryOutPlan_X5_addQuota
set_option maxRecDepth 20000 in
theorem ggX6_carryOutPlan_X0_init : GoodIn wsX6_carryOutPlan wsX0_init := goodIn_r _ [77, 78, 79, 80, 81, 82, 83, 84, 85, 86, 186, 187, 188, 189, 190, 191] (by decide +kernel) (by decide +kernel)
set_option maxRecDepth 20000 in
theorem gX6_carryOutPlan_X0_init : GoodIn wsX6_carryOutPlan (wsX0_init) := ggX6_carryOutPlan_X0_init
set_option maxRecDepth 20000 in
theorem ggX6_carryOutPlan_Jx4a65c_add_9ea2d : GoodIn wsX6_carryOutPlan wsJx4a65c_add_9ea2d := goodIn_r _ [91, 92, 93, 94, 95, 96, 97, 98, 90, 99, 100, 101, 102, 103, 104, 105, 106, 107, 108, 109, 110, 8, 111, 112, 113, 114, 115, 116, 117, 118, 119, 120, 121, 122, 123, 124, 125, 126, 127, 128, 129, 130, 131, 132, 133, 134, 135, 7, 9, 136, 137, 138, 139, 194, 195, 196] (by decide +kernel) (by decide +kernel)
set_option maxRecDepth 20000 in
theorem gX6_carryOutPlan_Jx4a65c_add_9ea2d : GoodIn wsX6_carryOutPlan (wsV RX6 397 RJx4a65c yJx4a65c_add_9ea2d wsJx4a65c_add_9ea2d) := goodIn_app (goodIn_of _ (by decide +kernel)) ggX6_carryOutPlan_Jx4a65c_add_9ea2d
theorem dX6_carryOutPlan_0 : decode cX6_carryOutPlan 0 = .ok (.aload_n 0, 1) := by decide +kernel
theorem dX6_carryOutPlan_1 : decode cX6_carryOutPlan 1 = .ok (.iload_n 2, 1) := by decide +kernel
theorem dX6_carryOutPlan_2 : decode cX6_carryOutPlan 2 = .ok (.invokevirtual 86, 3) := by decide +kernel
theorem dX6_carryOutPlan_5 : decode cX6_carryOutPlan 5 = .ok (.astore_n 3, 1) := by decide +kernel
theorem dX6_carryOutPlan_6 : decode cX6_carryOutPlan 6 = .ok (.aload_n 0, 1) := by decide +kernel
theorem dX6_carryOutPlan_7 : decode cX6_carryOutPlan 7 = .ok (.aload_n 1, 1) := by decide +kernel
theorem dX6_carryOutPlan_8 : decode cX6_carryOutPlan 8 = .ok (.getfield 216, 3) := by decide +kernel
theorem dX6_carryOutPlan_11 : decode cX6_carryOutPlan 11 = .ok (.invokevirtual 140, 3) := by decide +kernel
theorem dX6_carryOutPlan_14 : decode cX6_carryOutPlan 14 = .ok (.astore 4, 2) := by decide +kernel
theorem dX6_carryOutPlan_16 : decode cX6_carryOutPlan 16 = .ok (.aload_n 1, 1) := by decide +kernel
theorem dX6_carryOutPlan_17 : decode cX6_carryOutPlan 17 = .ok (.getfield 170, 3) := by decide +kernel
theorem dX6_carryOutPlan_20 : decode cX6_carryOutPlan 20 = .ok (.ifCond .eq 20, 3) := by decide +kernel
theorem dX6_carryOutPlan_23 : decode cX6_carryOutPlan 23 = .ok (.aload_n 0, 1) := by decide +kernel
theorem dX6_carryOutPlan_24 : decode cX6_carryOutPlan 24 = .ok (.getfield 63, 3) := by decide +kernel
theorem dX6_carryOutPlan_27 : decode cX6_carryOutPlan 27 = .ok (.getfield 373, 3) := by decide +kernel
theorem dX6_carryOutPlan_30 : decode cX6_carryOutPlan 30 = .ok (.aload_n 3, 1) := by decide +kernel
theorem dX6_carryOutPlan_31 : decode cX6_carryOutPlan 31 = .ok (.getfield 137, 3) := by decide +kernel
theorem dX6_carryOutPlan_34 : decode cX6_carryOutPlan 34 = .ok (.invokestatic 376, 3) := by decide +kernel
theorem dX6_carryOutPlan_37 : decode cX6_carryOutPlan 37 = .ok (.goto 4, 3) := by decide +kernel
theorem dX6_carryOutPlan_40 : decode cX6_carryOutPlan 40 = .ok (.iconst 0, 1) := by decide +kernel
theorem dX6_carryOutPlan_41 : decode cX6_carryOutPlan 41 = .ok (.istore 5, 2) := by decide +kernel
theorem dX6_carryOutPlan_43 : decode cX6_carryOutPlan 43 = .ok (.aload_n 1, 1) := by decide +kernel
theorem dX6_carryOutPlan_44 : decode cX6_carryOutPlan 44 = .ok (.getfield 159, 3) := by decide +kernel
theorem dX6_carryOutPlan_47 : decode cX6_carryOutPlan 47 = .ok (.ifCond .eq 10, 3) := by decide +kernel
theorem dX6_carryOutPlan_50 : decode cX6_carryOutPlan 50 = .ok (.aload_n 0, 1) := by decide +kernel
theorem dX6_carryOutPlan_51 : decode cX6_carryOutPlan 51 = .ok (.getfield 40, 3) := by decide +kernel
theorem dX6_carryOutPlan_54 : decode cX6_carryOutPlan 54 = .ok (.goto 7, 3) := by decide +kernel
theorem dX6_carryOutPlan_57 : decode cX6_carryOutPlan 57 = .ok (.aload_n 0, 1) := by decide +kernel
theorem dX6_carryOutPlan_58 : decode cX6_carryOutPlan 58 = .ok (.getfield 37, 3) := by decide +kernel
theorem dX6_carryOutPlan_61 : decode cX6_carryOutPlan 61 = .ok (.aload_n 0, 1) := by decide +kernel
theorem dX6_carryOutPlan_62 : decode cX6_carryOutPlan 62 = .ok (.getfield 63, 3) := by decide +kernel
theorem dX6_carryOutPlan_65 : decode cX6_carryOutPlan 65 = .ok (.getfield 203, 3) := by decide +kernel
theorem dX6_carryOutPlan_68 : decode cX6_carryOutPlan 68 = .ok (.imul, 1) := by decide +kernel
theorem dX6_carryOutPlan_69 : decode cX6_carryOutPlan 69 = .ok (.aload_n 0, 1) := by decide +kernel
theorem dX6_carryOutPlan_70 : decode cX6_carryOutPlan 70 = .ok (.getfield 43, 3) := by decide +kernel
theorem dX6_carryOutPlan_73 : decode cX6_carryOutPlan 73 = .ok (.aload_n 0, 1) := by decide +kernel
theorem dX6_carryOutPlan_74 : decode cX6_carryOutPlan 74 = .ok (.getfield 63, 3) := by decide +kernel
theorem dX6_carryOutPlan_77 : decode cX6_carryOutPlan 77 = .ok (.getfield 206, 3) := by decide +kernel
theorem dX6_carryOutPlan_80 : decode cX6_carryOutPlan 80 = .ok (.imul, 1) := by decide +kernel
theorem dX6_carryOutPlan_81 : decode cX6_carryOutPlan 81 = .ok (.iadd, 1) := by decide +kernel
theorem dX6_carryOutPlan_82 : decode cX6_carryOutPlan 82 = .ok (.i2l, 1) := by decide +kernel
theorem dX6_carryOutPlan_83 : decode cX6_carryOutPlan 83 = .ok (.lstore 6, 2) := by decide +kernel
theorem dX6_carryOutPlan_85 : decode cX6_carryOutPlan 85 = .ok (.aload_n 3, 1) := by decide +kernel
theorem dX6_carryOutPlan_86 : decode cX6_carryOutPlan 86 = .ok (.aload_n 1, 1) := by decide +kernel
theorem dX6_carryOutPlan_87 : decode cX6_carryOutPlan 87 = .ok (.getfield 158, 3) := by decide +kernel
theorem dX6_carryOutPlan_90 : decode cX6_carryOutPlan 90 = .ok (.aload_n 0, 1) := by decide +kernel
theorem dX6_carryOutPlan_91 : decode cX6_carryOutPlan 91 = .ok (.getfield 63, 3) := by decide +kernel
theorem dX6_carryOutPlan_94 : decode cX6_carryOutPlan 94 = .ok (.getfield 206, 3) := by decide +kernel
theorem dX6_carryOutPlan_97 : decode cX6_carryOutPlan 97 = .ok (.invokevirtual 382, 3) := by decide +kernel
theorem dX6_carryOutPlan_100 : decode cX6_carryOutPlan 100 = .ok (.aload_n 3, 1) := by decide +kernel
theorem dX6_carryOutPlan_101 : decode cX6_carryOutPlan 101 = .ok (.dup, 1) := by decide +kernel
theorem dX6_carryOutPlan_102 : decode cX6_carryOutPlan 102 = .ok (.getfield 134, 3) := by decide +kernel
theorem dX6_carryOutPlan_105 : decode cX6_carryOutPlan 105 = .ok (.aload_n 1, 1) := by decide +kernel
theorem dX6_carryOutPlan_106 : decode cX6_carryOutPlan 106 = .ok (.aload_n 0, 1) := by decide +kernel
theorem dX6_carryOutPlan_107 : decode cX6_carryOutPlan 107 = .ok (.getfield 63, 3) := by decide +kernel
theorem dX6_carryOutPlan_110 : decode cX6_carryOutPlan 110 = .ok (.getfield 203, 3) := by decide +kernel
theorem dX6_carryOutPlan_113 : decode cX6_carryOutPlan 113 = .ok (.invokevirtual 385, 3) := by decide +kernel
theorem dX6_carryOutPlan_116 : decode cX6_carryOutPlan 116 = .ok (.isub, 1) := by decide +kernel
theorem dX6_carryOutPlan_117 : decode cX6_carryOutPlan 117 = .ok (.putfield 134, 3) := by decide +kernel
theorem dX6_carryOutPlan_120 : decode cX6_carryOutPlan 120 = .ok (.aload_n 3, 1) := by decide +kernel
theorem dX6_carryOutPlan_121 : decode cX6_carryOutPlan 121 = .ok (.dup, 1) := by decide +kernel
theorem dX6_carryOutPlan_122 : decode cX6_carryOutPlan 122 = .ok (.getfield 131, 3) := by decide +kernel
theorem dX6_carryOutPlan_125 : decode cX6_carryOutPlan 125 = .ok (.aload_n 1, 1) := by decide +kernel
theorem dX6_carryOutPlan_126 : decode cX6_carryOutPlan 126 = .ok (.aload_n 0, 1) := by decide +kernel
theorem dX6_carryOutPlan_127 : decode cX6_carryOutPlan 127 = .ok (.getfield 63, 3) := by decide +kernel
theorem dX6_carryOutPlan_130 : decode cX6_carryOutPlan 130 = .ok (.getfield 203, 3) := by decide +kernel
theorem dX6_carryOutPlan_133 : decode cX6_carryOutPlan 133 = .ok (.invokevirtual 388, 3) := by decide +kernel
theorem dX6_carryOutPlan_136 : decode cX6_carryOutPlan 136 = .ok (.isub, 1) := by decide +kernel
theorem dX6_carryOutPlan_137 : decode cX6_carryOutPlan 137 = .ok (.putfield 131, 3) := by decide +kernel
theorem dX6_carryOutPlan_140 : decode cX6_carryOutPlan 140 = .ok (.aload_n 3, 1) := by decide +kernel
theorem dX6_carryOutPlan_141 : decode cX6_carryOutPlan 141 = .ok (.dup, 1) := by decide +kernel
theorem dX6_carryOutPlan_142 : decode cX6_carryOutPlan 142 = .ok (.getfield 137, 3) := by decide +kernel
theorem dX6_carryOutPlan_145 : decode cX6_carryOutPlan 145 = .ok (.iload 5, 2) := by decide +kernel
theorem dX6_carryOutPlan_147 : decode cX6_carryOutPlan 147 = .ok (.isub, 1) := by decide +kernel
theorem dX6_carryOutPlan_148 : decode cX6_carryOutPlan 148 = .ok (.putfield 137, 3) := by decide +kernel
theorem dX6_carryOutPlan_151 : decode cX6_carryOutPlan 151 = .ok (.aload 4, 2) := by decide +kernel
theorem dX6_carryOutPlan_153 : decode cX6_carryOutPlan 153 = .ok (.aload_n 1, 1) := by decide +kernel
theorem dX6_carryOutPlan_154 : decode cX6_carryOutPlan 154 = .ok (.getfield 159, 3) := by decide +kernel
theorem dX6_carryOutPlan_157 : decode cX6_carryOutPlan 157 = .ok (.aload_n 0, 1) := by decide +kernel
theorem dX6_carryOutPlan_158 : decode cX6_carryOutPlan 158 = .ok (.getfield 63, 3) := by decide +kernel
theorem dX6_carryOutPlan_161 : decode cX6_carryOutPlan 161 = .ok (.getfield 203, 3) := by decide +kernel
theorem dX6_carryOutPlan_164 : decode cX6_carryOutPlan 164 = .ok (.ineg, 1) := by decide +kernel
theorem dX6_carryOutPlan_165 : decode cX6_carryOutPlan 165 = .ok (.invokevirtual 149, 3) := by decide +kernel
theorem dX6_carryOutPlan_168 : decode cX6_carryOutPlan 168 = .ok (.aload 4, 2) := by decide +kernel
theorem dX6_carryOutPlan_170 : decode cX6_carryOutPlan 170 = .ok (.dup, 1) := by decide +kernel
theorem dX6_carryOutPlan_171 : decode cX6_carryOutPlan 171 = .ok (.getfield 256, 3) := by decide +kernel
theorem dX6_carryOutPlan_174 : decode cX6_carryOutPlan 174 = .ok (.aload_n 0, 1) := by decide +kernel
theorem dX6_carryOutPlan_175 : decode cX6_carryOutPlan 175 = .ok (.getfield 63, 3) := by decide +kernel
theorem dX6_carryOutPlan_178 : decode cX6_carryOutPlan 178 = .ok (.getfield 203, 3) := by decide +kernel
theorem dX6_carryOutPlan_181 : decode cX6_carryOutPlan 181 = .ok (.iadd, 1) := by decide +kernel
theorem dX6_carryOutPlan_182 : decode cX6_carryOutPlan 182 = .ok (.putfield 256, 3) := by decide +kernel
theorem dX6_carryOutPlan_185 : decode cX6_carryOutPlan 185 = .ok (.aload 4, 2) := by decide +kernel
theorem dX6_carryOutPlan_187 : decode cX6_carryOutPlan 187 = .ok (.dup, 1) := by decide +kernel
theorem dX6_carryOutPlan_188 : decode cX6_carryOutPlan 188 = .ok (.getfield 262, 3) := by decide +kernel
theorem dX6_carryOutPlan_191 : decode cX6_carryOutPlan 191 = .ok (.lload 6, 2) := by decide +kernel
theorem dX6_carryOutPlan_193 : decode cX6_carryOutPlan 193 = .ok (.ladd, 1) := by decide +kernel
theorem dX6_carryOutPlan_194 : decode cX6_carryOutPlan 194 = .ok (.putfield 262, 3) := by decide +kernel
theorem dX6_carryOutPlan_197 : decode cX6_carryOutPlan 197 = .ok (.aload_n 1, 1) := by decide +kernel
theorem dX6_carryOutPlan_198 : decode cX6_carryOutPlan 198 = .ok (.dup, 1) := by decide +kernel
theorem dX6_carryOutPlan_199 : decode cX6_carryOutPlan 199 = .ok (.getfield 186, 3) := by decide +kernel
theorem dX6_carryOutPlan_202 : decode cX6_carryOutPlan 202 = .ok (.aload_n 0, 1) := by decide +kernel
theorem dX6_carryOutPlan_203 : decode cX6_carryOutPlan 203 = .ok (.getfield 63, 3) := by decide +kernel
theorem dX6_carryOutPlan_206 : decode cX6_carryOutPlan 206 = .ok (.getfield 203, 3) := by decide +kernel
theorem dX6_carryOutPlan_209 : decode cX6_carryOutPlan 209 = .ok (.iadd, 1) := by decide +kernel
theorem dX6_carryOutPlan_210 : decode cX6_carryOutPlan 210 = .ok (.putfield 186, 3) := by decide +kernel
theorem dX6_carryOutPlan_213 : decode cX6_carryOutPlan 213 = .ok (.aload_n 1, 1) := by decide +kernel
theorem dX6_carryOutPlan_214 : decode cX6_carryOutPlan 214 = .ok (.aload_n 0, 1) := by decide +kernel
theorem dX6_carryOutPlan_215 : decode cX6_carryOutPlan 215 = .ok (.getfield 63, 3) := by decide +kernel
theorem dX6_carryOutPlan_218 : decode cX6_carryOutPlan 218 = .ok (.getfield 391, 3) := by decide +kernel
theorem dX6_carryOutPlan_221 : decode cX6_carryOutPlan 221 = .ok (.putfield 394, 3) := by decide +kernel
theorem dX6_carryOutPlan_224 : decode cX6_carryOutPlan 224 = .ok (.aload_n 1, 1) := by decide +kernel
theorem dX6_carryOutPlan_225 : decode cX6_carryOutPlan 225 = .ok (.dup, 1) := by decide +kernel
theorem dX6_carryOutPlan_226 : decode cX6_carryOutPlan 226 = .ok (.getfield 189, 3) := by decide +kernel
theorem dX6_carryOutPlan_229 : decode cX6_carryOutPlan 229 = .ok (.aload_n 0, 1) := by decide +kernel
theorem dX6_carryOutPlan_230 : decode cX6_carryOutPlan 230 = .ok (.getfield 63, 3) := by decide +kernel
theorem dX6_carryOutPlan_233 : decode cX6_carryOutPlan 233 = .ok (.getfield 206, 3) := by decide +kernel
theorem dX6_carryOutPlan_236 : decode cX6_carryOutPlan 236 = .ok (.iadd, 1) := by decide +kernel
theorem dX6_carryOutPlan_237 : decode cX6_carryOutPlan 237 = .ok (.putfield 189, 3) := by decide +kernel
theorem dX6_carryOutPlan_240 : decode cX6_carryOutPlan 240 = .ok (.aload_n 1, 1) := by decide +kernel
theorem dX6_carryOutPlan_241 : decode cX6_carryOutPlan 241 = .ok (.dup, 1) := by decide +kernel
theorem dX6_carryOutPlan_242 : decode cX6_carryOutPlan 242 = .ok (.getfield 192, 3) := by decide +kernel
theorem dX6_carryOutPlan_245 : decode cX6_carryOutPlan 245 = .ok (.iload 5, 2) := by decide +kernel
theorem dX6_carryOutPlan_247 : decode cX6_carryOutPlan 247 = .ok (.iadd, 1) := by decide +kernel
theorem dX6_carryOutPlan_248 : decode cX6_carryOutPlan 248 = .ok (.putfield 192, 3) := by decide +kernel
theorem dX6_carryOutPlan_251 : decode cX6_carryOutPlan 251 = .ok (.aload_n 1, 1) := by decide +kernel
theorem dX6_carryOutPlan_252 : decode cX6_carryOutPlan 252 = .ok (.aload_n 0, 1) := by decide +kernel
theorem dX6_carryOutPlan_253 : decode cX6_carryOutPlan 253 = .ok (.getfield 63, 3) := by decide +kernel
theorem dX6_carryOutPlan_256 : decode cX6_carryOutPlan 256 = .ok (.getfield 219, 3) := by decide +kernel
theorem dX6_carryOutPlan_259 : decode cX6_carryOutPlan 259 = .ok (.putfield 222, 3) := by decide +kernel
theorem dX6_carryOutPlan_262 : decode cX6_carryOutPlan 262 = .ok (.new 247, 3) := by decide +kernel
theorem dX6_carryOutPlan_265 : decode cX6_carryOutPlan 265 = .ok (.dup, 1) := by decide +kernel
theorem dX6_carryOutPlan_266 : decode cX6_carryOutPlan 266 = .ok (.aload_n 1, 1) := by decide +kernel
theorem dX6_carryOutPlan_267 : decode cX6_carryOutPlan 267 = .ok (.getfield 234, 3) := by decide +kernel
theorem dX6_carryOutPlan_270 : decode cX6_carryOutPlan 270 = .ok (.aload_n 1, 1) := by decide +kernel
theorem dX6_carryOutPlan_271 : decode cX6_carryOutPlan 271 = .ok (.getfield 216, 3) := by decide +kernel
theorem dX6_carryOutPlan_274 : decode cX6_carryOutPlan 274 = .ok (.iload_n 2, 1) := by decide +kernel
theorem dX6_carryOutPlan_275 : decode cX6_carryOutPlan 275 = .ok (.invokespecial 395, 3) := by decide +kernel
theorem dX6_carryOutPlan_278 : decode cX6_carryOutPlan 278 = .ok (.astore 8, 2) := by decide +kernel
theorem dX6_carryOutPlan_280 : decode cX6_carryOutPlan 280 = .ok (.aload 8, 2) := by decide +kernel
theorem dX6_carryOutPlan_282 : decode cX6_carryOutPlan 282 = .ok (.aload_n 0, 1) := by decide +kernel
theorem dX6_carryOutPlan_283 : decode cX6_carryOutPlan 283 = .ok (.getfield 63, 3) := by decide +kernel
theorem dX6_carryOutPlan_286 : decode cX6_carryOutPlan 286 = .ok (.getfield 203, 3) := by decide +kernel
theorem dX6_carryOutPlan_289 : decode cX6_carryOutPlan 289 = .ok (.putfield 254, 3) := by decide +kernel
theorem dX6_carryOutPlan_292 : decode cX6_carryOutPlan 292 = .ok (.aload 8, 2) := by decide +kernel
theorem dX6_carryOutPlan_294 : decode cX6_carryOutPlan 294 = .ok (.aload_n 0, 1) := by decide +kernel
theorem dX6_carryOutPlan_295 : decode cX6_carryOutPlan 295 = .ok (.getfield 63, 3) := by decide +kernel
theorem dX6_carryOutPlan_298 : decode cX6_carryOutPlan 298 = .ok (.getfield 206, 3) := by decide +kernel
theorem dX6_carryOutPlan_301 : decode cX6_carryOutPlan 301 = .ok (.putfield 255, 3) := by decide +kernel
theorem dX6_carryOutPlan_304 : decode cX6_carryOutPlan 304 = .ok (.aload 8, 2) := by decide +kernel
theorem dX6_carryOutPlan_306 : decode cX6_carryOutPlan 306 = .ok (.lload 6, 2) := by decide +kernel
theorem dX6_carryOutPlan_308 : decode cX6_carryOutPlan 308 = .ok (.putfield 266, 3) := by decide +kernel
theorem dX6_carryOutPlan_311 : decode cX6_carryOutPlan 311 = .ok (.aload_n 0, 1) := by decide +kernel
theorem dX6_carryOutPlan_312 : decode cX6_carryOutPlan 312 = .ok (.getfield 49, 3) := by decide +kernel
theorem dX6_carryOutPlan_315 : decode cX6_carryOutPlan 315 = .ok (.aload 8, 2) := by decide +kernel
theorem dX6_carryOutPlan_317 : decode cX6_carryOutPlan 317 = .ok (.invokevirtual 397, 3) := by decide +kernel
theorem dX6_carryOutPlan_320 : decode cX6_carryOutPlan 320 = .ok (.pop, 1) := by decide +kernel
theorem dX6_carryOutPlan_321 : decode cX6_carryOutPlan 321 = .ok (.return_, 1) := by decide +kernel
set_option maxRecDepth 20000 in
theorem ggX6_isQueued_X6_makePlan : GoodIn wsX6_isQueued wsX6_makePlan := goodIn_ca (goodIn_r _ [8, 1, 3, 9, 10, 11, 7, 12, 13, 14, 15, 16, 17, 18, 19, 20, 21, 22, 23, 24, 25, 26, 27, 28, 29, 30, 31, 32, 33, 34, 35, 36, 37, 38, 39, 40, 41, 42, 43, 44, 45, 46, 47, 48, 49, 50, 51, 52, 53, 54, 55, 56, 57, 58, 59, 60, 61, 62, 63, 64, 65, 66, 67, 68, 69, 70, 71, 72, 73, 74, 75, 76, 77, 78, 79, 80, 81, 82, 83, 84, 85, 86, 87, 88, 89, 90, 91, 92, 93, 94, 95, 96, 97, 98, 99, 100, 101, 102, 103, 104, 105, 106, 107, 108, 109, 110, 111, 112, 113, 114, 115, 116, 117, 118, 119, 120, 121, 122, 123, 124, 125, 126, 127, 128, 129, 130, 131, 132, 133, 134, 135, 136, 137, 138, 139, 140, 141, 142, 143] (by decide +kernel) (by decide +kernel)) (goodIn_sub (fun _ h => List.mem_cons_of_mem _ (List.mem_append_right _ h)) (by decide +kernel))
set_option maxRecDepth 20000 in
theorem gX6_isQueued_X6_makePlan : GoodIn wsX6_isQueued (wsV RX6 199 RX6 yX6_makePlan wsX6_makePlan) := goodIn_app (goodIn_of _ (by decide +kernel)) ggX6_isQueued_X6_makePlan
theorem dX6_isQueued_0 : decode cX6_isQueued 0 = .ok (.aload_n 0, 1) := by decide +kernel
theorem dX6_isQueued_1 : decode cX6_isQueued 1 = .ok (.aload_n 1, 1) := by decide +kernel
theorem dX6_isQueued_2 : decode cX6_isQueued 2 = .ok (.aload_n 2, 1) := by decide +kernel
theorem dX6_isQueued_3 : decode cX6_isQueued 3 = .ok (.invokevirtual 199, 3) := by decide +kernel
theorem dX6_isQueued_6 : decode cX6_isQueued 6 = .ok (.aload_n 0, 1) := by decide +kernel
theorem dX6_isQueued_7 : decode cX6_isQueued 7 = .ok (.getfield 63, 3) := by decide +kernel
theorem dX6_isQueued_10 : decode cX6_isQueued 10 = .ok (.getfield 206, 3) := by decide +kernel
theorem dX6_isQueued_13 : decode cX6_isQueued 13 = .ok (.ifCond .le 28, 3) := by decide +kernel
theorem dX6_isQueued_16 : decode cX6_isQueued 16 = .ok (.aload_n 0, 1) := by decide +kernel
theorem dX6_isQueued_17 : decode cX6_isQueued 17 = .ok (.getfield 63, 3) := by decide +kernel
theorem dX6_isQueued_20 : decode cX6_isQueued 20 = .ok (.getfield 219, 3) := by decide +kernel
theorem dX6_isQueued_23 : decode cX6_isQueued 23 = .ok (.bipush 100, 2) := by decide +kernel
theorem dX6_isQueued_25 : decode cX6_isQueued 25 = .ok (.if_icmp .ne 7, 3) := by decide +kernel
theorem dX6_isQueued_28 : decode cX6_isQueued 28 = .ok (.iconst 1, 1) := by decide +kernel
theorem dX6_isQueued_29 : decode cX6_isQueued 29 = .ok (.goto 4, 3) := by decide +kernel
theorem dX6_isQueued_32 : decode cX6_isQueued 32 = .ok (.iconst 0, 1) := by decide +kernel
theorem dX6_isQueued_33 : decode cX6_isQueued 33 = .ok (.iload_n 3, 1) := by decide +kernel
theorem dX6_isQueued_34 : decode cX6_isQueued 34 = .ok (.if_icmp .ne 7, 3) := by decide +kernel
theorem dX6_isQueued_37 : decode cX6_isQueued 37 = .ok (.iconst 1, 1) := by decide +kernel
theorem dX6_isQueued_38 : decode cX6_isQueued 38 = .ok (.goto 4, 3) := by decide +kernel
theorem dX6_isQueued_41 : decode cX6_isQueued 41 = .ok (.iconst 0, 1) := by decide +kernel
theorem dX6_isQueued_42 : decode cX6_isQueued 42 = .ok (.ireturn, 1) := by decide +kernel
set_option maxRecDepth 20000 in
theorem ggX6_loggedPages_Jx4a65c_size_8abf5 : GoodIn wsX6_loggedPages wsJx4a65c_size_8abf5 := goodIn_r _ [9, 10, 46, 47, 48] (by decide +kernel) (by decide +kernel)
set_option maxRecDepth 20000 in
theorem gX6_loggedPages_Jx4a65c_size_8abf5 : GoodIn wsX6_loggedPages (wsV RX6 239 RJx4a65c yJx4a65c_size_8abf5 wsJx4a65c_size_8abf5) := goodIn_app (goodIn_of _ (by decide +kernel)) ggX6_loggedPages_Jx4a65c_size_8abf5
set_option maxRecDepth 20000 in
theorem ggX6_loggedPages_Jx4a65c_get_915e3 : GoodIn wsX6_loggedPages wsJx4a65c_get_915e3 := goodIn_r _ [14, 10, 15, 16, 17, 18, 19, 20, 21, 22, 23, 24, 25, 8, 26, 27, 46, 47, 48] (by decide +kernel) (by decide +kernel)
set_option maxRecDepth 20000 in
theorem gX6_loggedPages_Jx4a65c_get_915e3 : GoodIn wsX6_loggedPages (wsV RX6 257 RJx4a65c yJx4a65c_get_915e3 wsJx4a65c_get_915e3) := goodIn_app (goodIn_of _ (by decide +kernel)) ggX6_loggedPages_Jx4a65c_get_915e3
theorem dX6_loggedPages_0 : decode cX6_loggedPages 0 = .ok (.iconst 0, 1) := by decide +kernel
theorem dX6_loggedPages_1 : decode cX6_loggedPages 1 = .ok (.istore_n 2, 1) := by decide +kernel
theorem dX6_loggedPages_2 : decode cX6_loggedPages 2 = .ok (.iconst 0, 1) := by decide +kernel
theorem dX6_loggedPages_3 : decode cX6_loggedPages 3 = .ok (.istore_n 3, 1) := by decide +kernel
theorem dX6_loggedPages_4 : decode cX6_loggedPages 4 = .ok (.iload_n 3, 1) := by decide +kernel
theorem dX6_loggedPages_5 : decode cX6_loggedPages 5 = .ok (.aload_n 0, 1) := by decide +kernel
theorem dX6_loggedPages_6 : decode cX6_loggedPages 6 = .ok (.getfield 49, 3) := by decide +kernel
theorem dX6_loggedPages_9 : decode cX6_loggedPages 9 = .ok (.invokevirtual 239, 3) := by decide +kernel
theorem dX6_loggedPages_12 : decode cX6_loggedPages 12 = .ok (.if_icmp .ge 43, 3) := by decide +kernel
theorem dX6_loggedPages_15 : decode cX6_loggedPages 15 = .ok (.aload_n 0, 1) := by decide +kernel
theorem dX6_loggedPages_16 : decode cX6_loggedPages 16 = .ok (.getfield 49, 3) := by decide +kernel
theorem dX6_loggedPages_19 : decode cX6_loggedPages 19 = .ok (.iload_n 3, 1) := by decide +kernel
theorem dX6_loggedPages_20 : decode cX6_loggedPages 20 = .ok (.invokevirtual 257, 3) := by decide +kernel
theorem dX6_loggedPages_23 : decode cX6_loggedPages 23 = .ok (.checkcast 247, 3) := by decide +kernel
theorem dX6_loggedPages_26 : decode cX6_loggedPages 26 = .ok (.astore 4, 2) := by decide +kernel
theorem dX6_loggedPages_28 : decode cX6_loggedPages 28 = .ok (.iload_n 2, 1) := by decide +kernel
theorem dX6_loggedPages_29 : decode cX6_loggedPages 29 = .ok (.aload 4, 2) := by decide +kernel
theorem dX6_loggedPages_31 : decode cX6_loggedPages 31 = .ok (.getfield 246, 3) := by decide +kernel
theorem dX6_loggedPages_34 : decode cX6_loggedPages 34 = .ok (.iload_n 1, 1) := by decide +kernel
theorem dX6_loggedPages_35 : decode cX6_loggedPages 35 = .ok (.if_icmp .ne 11, 3) := by decide +kernel
theorem dX6_loggedPages_38 : decode cX6_loggedPages 38 = .ok (.aload 4, 2) := by decide +kernel
theorem dX6_loggedPages_40 : decode cX6_loggedPages 40 = .ok (.getfield 254, 3) := by decide +kernel
theorem dX6_loggedPages_43 : decode cX6_loggedPages 43 = .ok (.goto 4, 3) := by decide +kernel
theorem dX6_loggedPages_46 : decode cX6_loggedPages 46 = .ok (.iconst 0, 1) := by decide +kernel
theorem dX6_loggedPages_47 : decode cX6_loggedPages 47 = .ok (.iadd, 1) := by decide +kernel
theorem dX6_loggedPages_48 : decode cX6_loggedPages 48 = .ok (.istore_n 2, 1) := by decide +kernel
theorem dX6_loggedPages_49 : decode cX6_loggedPages 49 = .ok (.iinc 3 1, 3) := by decide +kernel
theorem dX6_loggedPages_52 : decode cX6_loggedPages 52 = .ok (.goto (-48), 3) := by decide +kernel
theorem dX6_loggedPages_55 : decode cX6_loggedPages 55 = .ok (.iload_n 2, 1) := by decide +kernel
theorem dX6_loggedPages_56 : decode cX6_loggedPages 56 = .ok (.ireturn, 1) := by decide +kernel
set_option maxRecDepth 20000 in
theorem ggX7_init_J4_init_da8c8 : GoodIn wsX7_init wsJ4_init_da8c8 := goodIn_r _ [51, 52, 53, 54, 55, 56, 2, 3, 57, 58, 59, 60, 61, 62, 63, 64, 65, 66, 67, 68, 201, 202, 203, 204] (by decide +kernel) (by decide +kernel)
set_option maxRecDepth 20000 in
theorem gX7_init_J4_init_da8c8 : GoodIn wsX7_init (wsJ4_init_da8c8) := ggX7_init_J4_init_da8c8
set_option maxRecDepth 20000 in
theorem ggX7_init_J4_toString_0e30d : GoodIn wsX7_init wsJ4_toString_0e30d := goodIn_r _ [72, 73, 74, 75, 76, 77, 78, 79, 80, 81, 82, 2, 3, 83, 84, 85, 86, 87, 88, 89, 90, 54, 91, 59, 92, 93, 94, 95, 96, 47, 97, 98, 99, 100, 101, 102, 103, 104, 105, 106, 107, 57, 60, 108, 109, 110, 111, 112, 113, 114, 115, 116, 117, 118, 119, 120, 58, 121, 122, 123, 124, 125, 126, 127, 128, 129, 130, 131, 132, 46, 133, 134, 63, 135, 136, 137, 138, 139, 140, 141, 142, 143, 144, 145, 146, 147, 148, 149, 150, 151, 152, 153, 154, 155, 156, 157, 158, 65, 66, 67, 68, 159, 160, 161, 162, 205, 206, 207, 208, 201, 202, 203, 204] (by decide +kernel) (by decide +kernel)
set_option maxRecDepth 20000 in
theorem gX7_init_J4_toString_0e30d : GoodIn wsX7_init (wsV RX7 128 RJ4 yJ4_toString_0e30d wsJ4_toString_0e30d) := goodIn_app (goodIn_of _ (by decide +kernel)) ggX7_init_J4_toString_0e30d
theorem dX7_init_0 : decode cX7_init 0 = .ok (.aload_n 0, 1) := by decide +kernel
theorem dX7_init_1 : decode cX7_init 1 = .ok (.invokespecial 1, 3) := by decide +kernel
theorem dX7_init_4 : decode cX7_init 4 = .ok (.aload_n 0, 1) := by decide +kernel
theorem dX7_init_5 : decode cX7_init 5 = .ok (.bipush 12, 2) := by decide +kernel
theorem dX7_init_7 : decode cX7_init 7 = .ok (.newarray .int, 2) := by decide +kernel
theorem dX7_init_9 : decode cX7_init 9 = .ok (.putfield 7, 3) := by decide +kernel
theorem dX7_init_12 : decode cX7_init 12 = .ok (.aload_n 0, 1) := by decide +kernel
theorem dX7_init_13 : decode cX7_init 13 = .ok (.bipush 6, 2) := by decide +kernel
theorem dX7_init_15 : decode cX7_init 15 = .ok (.newarray .int, 2) := by decide +kernel
theorem dX7_init_17 : decode cX7_init 17 = .ok (.putfield 13, 3) := by decide +kernel
theorem dX7_init_20 : decode cX7_init 20 = .ok (.aload_n 0, 1) := by decide +kernel
theorem dX7_init_21 : decode cX7_init 21 = .ok (.iconst 4, 1) := by decide +kernel
theorem dX7_init_22 : decode cX7_init 22 = .ok (.newarray .int, 2) := by decide +kernel
theorem dX7_init_24 : decode cX7_init 24 = .ok (.putfield 16, 3) := by decide +kernel
theorem dX7_init_27 : decode cX7_init 27 = .ok (.aload_n 0, 1) := by decide +kernel
theorem dX7_init_28 : decode cX7_init 28 = .ok (.bipush 12, 2) := by decide +kernel
theorem dX7_init_30 : decode cX7_init 30 = .ok (.newarray .int, 2) := by decide +kernel
theorem dX7_init_32 : decode cX7_init 32 = .ok (.putfield 19, 3) := by decide +kernel
theorem dX7_init_35 : decode cX7_init 35 = .ok (.aload_n 0, 1) := by decide +kernel
theorem dX7_init_36 : decode cX7_init 36 = .ok (.iconst 4, 1) := by decide +kernel
theorem dX7_init_37 : decode cX7_init 37 = .ok (.newarray .int, 2) := by decide +kernel
theorem dX7_init_39 : decode cX7_init 39 = .ok (.putfield 22, 3) := by decide +kernel
theorem dX7_init_42 : decode cX7_init 42 = .ok (.aload_n 0, 1) := by decide +kernel
theorem dX7_init_43 : decode cX7_init 43 = .ok (.iconst 4, 1) := by decide +kernel
theorem dX7_init_44 : decode cX7_init 44 = .ok (.newarray .int, 2) := by decide +kernel
theorem dX7_init_46 : decode cX7_init 46 = .ok (.putfield 25, 3) := by decide +kernel
theorem dX7_init_49 : decode cX7_init 49 = .ok (.aload_n 0, 1) := by decide +kernel
theorem dX7_init_50 : decode cX7_init 50 = .ok (.iconst 4, 1) := by decide +kernel
theorem dX7_init_51 : decode cX7_init 51 = .ok (.newarray .int, 2) := by decide +kernel
theorem dX7_init_53 : decode cX7_init 53 = .ok (.putfield 28, 3) := by decide +kernel
theorem dX7_init_56 : decode cX7_init 56 = .ok (.aload_n 0, 1) := by decide +kernel
theorem dX7_init_57 : decode cX7_init 57 = .ok (.bipush 6, 2) := by decide +kernel
theorem dX7_init_59 : decode cX7_init 59 = .ok (.newarray .long, 2) := by decide +kernel
theorem dX7_init_61 : decode cX7_init 61 = .ok (.putfield 31, 3) := by decide +kernel
theorem dX7_init_64 : decode cX7_init 64 = .ok (.aload_n 0, 1) := by decide +kernel
theorem dX7_init_65 : decode cX7_init 65 = .ok (.bipush 12, 2) := by decide +kernel
theorem dX7_init_67 : decode cX7_init 67 = .ok (.newarray .char, 2) := by decide +kernel
theorem dX7_init_69 : decode cX7_init 69 = .ok (.putfield 35, 3) := by decide +kernel
theorem dX7_init_72 : decode cX7_init 72 = .ok (.aload_n 0, 1) := by decide +kernel
theorem dX7_init_73 : decode cX7_init 73 = .ok (.bipush 40, 2) := by decide +kernel
theorem dX7_init_75 : decode cX7_init 75 = .ok (.newarray .char, 2) := by decide +kernel
theorem dX7_init_77 : decode cX7_init 77 = .ok (.putfield 39, 3) := by decide +kernel
theorem dX7_init_80 : decode cX7_init 80 = .ok (.aload_n 0, 1) := by decide +kernel
theorem dX7_init_81 : decode cX7_init 81 = .ok (.bipush 40, 2) := by decide +kernel
theorem dX7_init_83 : decode cX7_init 83 = .ok (.newarray .char, 2) := by decide +kernel
theorem dX7_init_85 : decode cX7_init 85 = .ok (.putfield 42, 3) := by decide +kernel
theorem dX7_init_88 : decode cX7_init 88 = .ok (.aload_n 0, 1) := by decide +kernel
theorem dX7_init_89 : decode cX7_init 89 = .ok (.iconst 4, 1) := by decide +kernel
theorem dX7_init_90 : decode cX7_init 90 = .ok (.newarray .boolean, 2) := by decide +kernel
theorem dX7_init_92 : decode cX7_init 92 = .ok (.putfield 45, 3) := by decide +kernel
theorem dX7_init_95 : decode cX7_init 95 = .ok (.aload_n 0, 1) := by decide +kernel
theorem dX7_init_96 : decode cX7_init 96 = .ok (.bipush 40, 2) := by decide +kernel
theorem dX7_init_98 : decode cX7_init 98 = .ok (.newarray .boolean, 2) := by decide +kernel
theorem dX7_init_100 : decode cX7_init 100 = .ok (.putfield 49, 3) := by decide +kernel
theorem dX7_init_103 : decode cX7_init 103 = .ok (.aload_n 0, 1) := by decide +kernel
theorem dX7_init_104 : decode cX7_init 104 = .ok (.bipush 40, 2) := by decide +kernel
theorem dX7_init_106 : decode cX7_init 106 = .ok (.newarray .boolean, 2) := by decide +kernel
theorem dX7_init_108 : decode cX7_init 108 = .ok (.putfield 52, 3) := by decide +kernel
theorem dX7_init_111 : decode cX7_init 111 = .ok (.aload_n 0, 1) := by decide +kernel
theorem dX7_init_112 : decode cX7_init 112 = .ok (.bipush 40, 2) := by decide +kernel
theorem dX7_init_114 : decode cX7_init 114 = .ok (.newarray .boolean, 2) := by decide +kernel
theorem dX7_init_116 : decode cX7_init 116 = .ok (.putfield 55, 3) := by decide +kernel
theorem dX7_init_119 : decode cX7_init 119 = .ok (.aload_n 0, 1) := by decide +kernel
theorem dX7_init_120 : decode cX7_init 120 = .ok (.bipush 40, 2) := by decide +kernel
theorem dX7_init_122 : decode cX7_init 122 = .ok (.newarray .boolean, 2) := by decide +kernel
theorem dX7_init_124 : decode cX7_init 124 = .ok (.putfield 58, 3) := by decide +kernel
theorem dX7_init_127 : decode cX7_init 127 = .ok (.aload_n 0, 1) := by decide +kernel
theorem dX7_init_128 : decode cX7_init 128 = .ok (.bipush 40, 2) := by decide +kernel
theorem dX7_init_130 : decode cX7_init 130 = .ok (.newarray .int, 2) := by decide +kernel
theorem dX7_init_132 : decode cX7_init 132 = .ok (.putfield 61, 3) := by decide +kernel
theorem dX7_init_135 : decode cX7_init 135 = .ok (.aload_n 0, 1) := by decide +kernel
theorem dX7_init_136 : decode cX7_init 136 = .ok (.bipush 40, 2) := by decide +kernel
theorem dX7_init_138 : decode cX7_init 138 = .ok (.newarray .int, 2) := by decide +kernel
theorem dX7_init_140 : decode cX7_init 140 = .ok (.putfield 64, 3) := by decide +kernel
theorem dX7_init_143 : decode cX7_init 143 = .ok (.aload_n 0, 1) := by decide +kernel
theorem dX7_init_144 : decode cX7_init 144 = .ok (.bipush 40, 2) := by decide +kernel
theorem dX7_init_146 : decode cX7_init 146 = .ok (.newarray .int, 2) := by decide +kernel
