set_option maxRecDepth 20000 in
theorem ggX6_advance_X6_find : GoodIn wsX6_advance wsX6_find := goodIn_r _ [5, 6, 7, 8, 4, 9, 128] (by decide +kernel) (by decide +kernel)
set_option maxRecDepth 20000 in
theorem gX6_advance_X6_find : GoodIn wsX6_advance (wsV RX6 30 RX6 yX6_find wsX6_find) := goodIn_app (goodIn_of _ (by decide +kernel)) ggX6_advance_X6_find
set_option maxRecDepth 20000 in
theorem ggX6_advance_X3_goOn : GoodIn wsX6_advance wsX3_goOn := goodIn_r _ [14, 15, 16, 17, 18, 19, 20, 21, 22, 23, 13, 24, 25, 26, 27, 28, 29, 30, 31, 32, 33, 34, 35, 36, 37, 38, 39, 40, 41, 42, 43, 44, 45, 46, 47, 48, 49, 50, 51, 52, 53, 54, 55, 56, 57, 58, 59, 60, 61, 62, 63, 64, 65, 66, 67, 68, 69, 70, 71, 72, 73, 74, 75, 76, 77, 78, 79, 80, 81, 82, 83, 84, 85, 86, 87, 88, 89, 90, 91, 92, 93, 94, 95, 96, 97, 98, 99, 100, 101, 102, 103, 104, 105, 106, 107, 108, 109, 110, 111, 112, 113, 114, 115, 116, 117, 118, 119, 120, 121, 122, 123, 124, 125, 126, 127, 129, 130, 131, 132, 133, 134, 135, 136, 137, 138, 139, 140, 141, 142, 143, 144, 145, 146, 147, 148, 149, 150, 151, 152, 153, 154, 155, 156, 157, 158, 159, 160] (by decide +kernel) (by decide +kernel)
set_option maxRecDepth 20000 in
theorem gX6_advance_X3_goOn : GoodIn wsX6_advance (wsV RX6 34 RX3 yX3_goOn wsX3_goOn) := goodIn_app (goodIn_of _ (by decide +kernel)) ggX6_advance_X3_goOn
theorem dX6_advance_0 : decode cX6_advance 0 = .ok (.aload_n 0, 1) := by decide +kernel
theorem dX6_advance_1 : decode cX6_advance 1 = .ok (.iload_n 1, 1) := by decide +kernel
theorem dX6_advance_2 : decode cX6_advance 2 = .ok (.invokevirtual 30, 3) := by decide +kernel
theorem dX6_advance_5 : decode cX6_advance 5 = .ok (.astore_n 3, 1) := by decide +kernel
theorem dX6_advance_6 : decode cX6_advance 6 = .ok (.aload_n 3, 1) := by decide +kernel
theorem dX6_advance_7 : decode cX6_advance 7 = .ok (.ifnull 13, 3) := by decide +kernel
theorem dX6_advance_10 : decode cX6_advance 10 = .ok (.iload_n 2, 1) := by decide +kernel
theorem dX6_advance_11 : decode cX6_advance 11 = .ok (.ifCond .lt 9, 3) := by decide +kernel
theorem dX6_advance_14 : decode cX6_advance 14 = .ok (.iload_n 2, 1) := by decide +kernel
theorem dX6_advance_15 : decode cX6_advance 15 = .ok (.bipush 7, 2) := by decide +kernel
theorem dX6_advance_17 : decode cX6_advance 17 = .ok (.if_icmp .le 6, 3) := by decide +kernel
theorem dX6_advance_20 : decode cX6_advance 20 = .ok (.bipush (-2), 2) := by decide +kernel
theorem dX6_advance_22 : decode cX6_advance 22 = .ok (.ireturn, 1) := by decide +kernel
theorem dX6_advance_23 : decode cX6_advance 23 = .ok (.aload_n 3, 1) := by decide +kernel
theorem dX6_advance_24 : decode cX6_advance 24 = .ok (.iload_n 2, 1) := by decide +kernel
theorem dX6_advance_25 : decode cX6_advance 25 = .ok (.invokevirtual 34, 3) := by decide +kernel
theorem dX6_advance_28 : decode cX6_advance 28 = .ok (.ireturn, 1) := by decide +kernel
set_option maxRecDepth 20000 in
theorem ggX6_deliver_X6_find : GoodIn wsX6_deliver wsX6_find := goodIn_r _ [6, 7, 8, 9, 5, 10, 153] (by decide +kernel) (by decide +kernel)
set_option maxRecDepth 20000 in
theorem gX6_deliver_X6_find : GoodIn wsX6_deliver (wsV RX6 30 RX6 yX6_find wsX6_find) := goodIn_app (goodIn_of _ (by decide +kernel)) ggX6_deliver_X6_find
set_option maxRecDepth 20000 in
theorem ggX6_deliver_X4_takeFirst : GoodIn wsX6_deliver wsX4_takeFirst := goodIn_r _ [15, 16, 17, 18, 19, 14, 20, 21, 22, 23, 24, 25, 154, 155] (by decide +kernel) (by decide +kernel)
set_option maxRecDepth 20000 in
theorem gX6_deliver_X4_takeFirst : GoodIn wsX6_deliver (wsV RX6 42 RX4 yX4_takeFirst wsX4_takeFirst) := goodIn_app (goodIn_of _ (by decide +kernel)) ggX6_deliver_X4_takeFirst
set_option maxRecDepth 20000 in
theorem ggX6_deliver_X3_receive : GoodIn wsX6_deliver wsX3_receive := goodIn_r _ [30, 31, 32, 33, 34, 35, 36, 37, 38, 39, 40, 41, 42, 43, 44, 45, 46, 47, 29, 48, 49, 50, 51, 52, 53, 54, 55, 56, 57, 58, 59, 60, 61, 62, 63, 64, 65, 66, 67, 68, 69, 70, 71, 72, 73, 74, 75, 76, 77, 78, 79, 80, 81, 82, 83, 84, 85, 86, 87, 88, 89, 90, 91, 92, 93, 94, 95, 96, 97, 98, 99, 100, 101, 102, 103, 104, 105, 106, 107, 108, 109, 110, 111, 112, 113, 114, 115, 116, 117, 118, 119, 120, 121, 122, 123, 124, 125, 126, 127, 128, 129, 130, 131, 132, 133, 134, 135, 136, 137, 138, 139, 140, 141, 142, 143, 144, 145, 146, 147, 148, 149, 150, 151, 152, 156, 157, 158, 159, 160, 161, 162, 163, 164, 165, 166, 167, 168, 169, 170, 171] (by decide +kernel) (by decide +kernel)
set_option maxRecDepth 20000 in
theorem gX6_deliver_X3_receive : GoodIn wsX6_deliver (wsV RX6 46 RX3 yX3_receive wsX3_receive) := goodIn_app (goodIn_of _ (by decide +kernel)) ggX6_deliver_X3_receive
theorem dX6_deliver_0 : decode cX6_deliver 0 = .ok (.aload_n 0, 1) := by decide +kernel
theorem dX6_deliver_1 : decode cX6_deliver 1 = .ok (.iload_n 1, 1) := by decide +kernel
theorem dX6_deliver_2 : decode cX6_deliver 2 = .ok (.invokevirtual 30, 3) := by decide +kernel
theorem dX6_deliver_5 : decode cX6_deliver 5 = .ok (.astore_n 2, 1) := by decide +kernel
theorem dX6_deliver_6 : decode cX6_deliver 6 = .ok (.aload_n 2, 1) := by decide +kernel
theorem dX6_deliver_7 : decode cX6_deliver 7 = .ok (.ifnonnull 5, 3) := by decide +kernel
theorem dX6_deliver_10 : decode cX6_deliver 10 = .ok (.iconst (-1), 1) := by decide +kernel
theorem dX6_deliver_11 : decode cX6_deliver 11 = .ok (.ireturn, 1) := by decide +kernel
theorem dX6_deliver_12 : decode cX6_deliver 12 = .ok (.aload_n 2, 1) := by decide +kernel
theorem dX6_deliver_13 : decode cX6_deliver 13 = .ok (.getfield 38, 3) := by decide +kernel
theorem dX6_deliver_16 : decode cX6_deliver 16 = .ok (.invokevirtual 42, 3) := by decide +kernel
theorem dX6_deliver_19 : decode cX6_deliver 19 = .ok (.astore_n 3, 1) := by decide +kernel
theorem dX6_deliver_20 : decode cX6_deliver 20 = .ok (.aload_n 3, 1) := by decide +kernel
theorem dX6_deliver_21 : decode cX6_deliver 21 = .ok (.ifnonnull 5, 3) := by decide +kernel
theorem dX6_deliver_24 : decode cX6_deliver 24 = .ok (.iconst (-1), 1) := by decide +kernel
theorem dX6_deliver_25 : decode cX6_deliver 25 = .ok (.ireturn, 1) := by decide +kernel
theorem dX6_deliver_26 : decode cX6_deliver 26 = .ok (.aload_n 2, 1) := by decide +kernel
theorem dX6_deliver_27 : decode cX6_deliver 27 = .ok (.aload_n 3, 1) := by decide +kernel
theorem dX6_deliver_28 : decode cX6_deliver 28 = .ok (.invokevirtual 46, 3) := by decide +kernel
theorem dX6_deliver_31 : decode cX6_deliver 31 = .ok (.ireturn, 1) := by decide +kernel
set_option maxRecDepth 20000 in
theorem ggX6_alter_X6_find : GoodIn wsX6_alter wsX6_find := goodIn_r _ [6, 7, 8, 9, 5, 10, 61] (by decide +kernel) (by decide +kernel)
set_option maxRecDepth 20000 in
theorem gX6_alter_X6_find : GoodIn wsX6_alter (wsV RX6 30 RX6 yX6_find wsX6_find) := goodIn_app (goodIn_of _ (by decide +kernel)) ggX6_alter_X6_find
set_option maxRecDepth 20000 in
theorem ggX6_alter_X4_takeFirst : GoodIn wsX6_alter wsX4_takeFirst := goodIn_r _ [15, 16, 17, 18, 19, 14, 20, 21, 22, 23, 24, 25, 62, 63] (by decide +kernel) (by decide +kernel)
set_option maxRecDepth 20000 in
theorem gX6_alter_X4_takeFirst : GoodIn wsX6_alter (wsV RX6 42 RX4 yX4_takeFirst wsX4_takeFirst) := goodIn_app (goodIn_of _ (by decide +kernel)) ggX6_alter_X4_takeFirst
set_option maxRecDepth 20000 in
theorem ggX6_alter_X4_doubleFirst : GoodIn wsX6_alter wsX4_doubleFirst := goodIn_r _ [29, 17, 18, 19, 14, 20, 16, 21, 30, 31, 32, 33, 34, 35, 36, 37, 38, 39, 40, 41, 42, 43, 44, 45, 62, 63, 64, 65, 66, 67, 68, 69, 70] (by decide +kernel) (by decide +kernel)
set_option maxRecDepth 20000 in
theorem gX6_alter_X4_doubleFirst : GoodIn wsX6_alter (wsV RX6 50 RX4 yX4_doubleFirst wsX4_doubleFirst) := goodIn_app (goodIn_of _ (by decide +kernel)) ggX6_alter_X4_doubleFirst
set_option maxRecDepth 20000 in
theorem ggX6_alter_X4_sendFirstToEnd : GoodIn wsX6_alter wsX4_sendFirstToEnd := goodIn_r _ [25, 16, 21, 17, 18, 19, 14, 20, 62, 63] (by decide +kernel) (by decide +kernel)
set_option maxRecDepth 20000 in
theorem gX6_alter_X4_sendFirstToEnd : GoodIn wsX6_alter (wsV RX6 54 RX4 yX4_sendFirstToEnd wsX4_sendFirstToEnd) := goodIn_app (goodIn_of _ (by decide +kernel)) ggX6_alter_X4_sendFirstToEnd
theorem dX6_alter_0 : decode cX6_alter 0 = .ok (.aload_n 0, 1) := by decide +kernel
theorem dX6_alter_1 : decode cX6_alter 1 = .ok (.iload_n 1, 1) := by decide +kernel
theorem dX6_alter_2 : decode cX6_alter 2 = .ok (.invokevirtual 30, 3) := by decide +kernel
theorem dX6_alter_5 : decode cX6_alter 5 = .ok (.astore_n 3, 1) := by decide +kernel
theorem dX6_alter_6 : decode cX6_alter 6 = .ok (.aload_n 3, 1) := by decide +kernel
theorem dX6_alter_7 : decode cX6_alter 7 = .ok (.ifnonnull 5, 3) := by decide +kernel
theorem dX6_alter_10 : decode cX6_alter 10 = .ok (.iconst 0, 1) := by decide +kernel
theorem dX6_alter_11 : decode cX6_alter 11 = .ok (.ireturn, 1) := by decide +kernel
theorem dX6_alter_12 : decode cX6_alter 12 = .ok (.iload_n 2, 1) := by decide +kernel
theorem dX6_alter_13 : decode cX6_alter 13 = .ok (.tableswitch 59 0 2 #[27, 43, 51], 27) := by decide +kernel
theorem dX6_alter_40 : decode cX6_alter 40 = .ok (.aload_n 3, 1) := by decide +kernel
theorem dX6_alter_41 : decode cX6_alter 41 = .ok (.getfield 38, 3) := by decide +kernel
theorem dX6_alter_44 : decode cX6_alter 44 = .ok (.invokevirtual 42, 3) := by decide +kernel
theorem dX6_alter_47 : decode cX6_alter 47 = .ok (.ifnull 7, 3) := by decide +kernel
theorem dX6_alter_50 : decode cX6_alter 50 = .ok (.iconst 1, 1) := by decide +kernel
theorem dX6_alter_51 : decode cX6_alter 51 = .ok (.goto 4, 3) := by decide +kernel
theorem dX6_alter_54 : decode cX6_alter 54 = .ok (.iconst 0, 1) := by decide +kernel
theorem dX6_alter_55 : decode cX6_alter 55 = .ok (.ireturn, 1) := by decide +kernel
theorem dX6_alter_56 : decode cX6_alter 56 = .ok (.aload_n 3, 1) := by decide +kernel
theorem dX6_alter_57 : decode cX6_alter 57 = .ok (.getfield 38, 3) := by decide +kernel
theorem dX6_alter_60 : decode cX6_alter 60 = .ok (.invokevirtual 50, 3) := by decide +kernel
theorem dX6_alter_63 : decode cX6_alter 63 = .ok (.ireturn, 1) := by decide +kernel
theorem dX6_alter_64 : decode cX6_alter 64 = .ok (.aload_n 3, 1) := by decide +kernel
theorem dX6_alter_65 : decode cX6_alter 65 = .ok (.getfield 38, 3) := by decide +kernel
theorem dX6_alter_68 : decode cX6_alter 68 = .ok (.invokevirtual 54, 3) := by decide +kernel
theorem dX6_alter_71 : decode cX6_alter 71 = .ok (.ireturn, 1) := by decide +kernel
theorem dX6_alter_72 : decode cX6_alter 72 = .ok (.iconst 0, 1) := by decide +kernel
theorem dX6_alter_73 : decode cX6_alter 73 = .ok (.ireturn, 1) := by decide +kernel
set_option maxRecDepth 20000 in
theorem ggX6_spoil_X6_find : GoodIn wsX6_spoil wsX6_find := goodIn_r _ [6, 7, 8, 9, 5, 10, 45] (by decide +kernel) (by decide +kernel)
set_option maxRecDepth 20000 in
theorem gX6_spoil_X6_find : GoodIn wsX6_spoil (wsV RX6 30 RX6 yX6_find wsX6_find) := goodIn_app (goodIn_of _ (by decide +kernel)) ggX6_spoil_X6_find
set_option maxRecDepth 20000 in
theorem ggX6_spoil_X4_first : GoodIn wsX6_spoil wsX4_first := goodIn_r _ [15, 16, 17, 46, 47] (by decide +kernel) (by decide +kernel)
set_option maxRecDepth 20000 in
theorem gX6_spoil_X4_first : GoodIn wsX6_spoil (wsV RX6 57 RX4 yX4_first wsX4_first) := goodIn_app (goodIn_of _ (by decide +kernel)) ggX6_spoil_X4_first
set_option maxRecDepth 20000 in
theorem ggX6_spoil_X2_flip : GoodIn wsX6_spoil wsX2_flip := goodIn_r _ [22, 23, 24, 25, 26, 27, 28, 29, 30, 48, 49, 50, 51, 52, 53, 54] (by decide +kernel) (by decide +kernel)
set_option maxRecDepth 20000 in
theorem gX6_spoil_X2_flip : GoodIn wsX6_spoil (wsV RX6 60 RX2 yX2_flip wsX2_flip) := goodIn_app (goodIn_of _ (by decide +kernel)) ggX6_spoil_X2_flip
theorem dX6_spoil_0 : decode cX6_spoil 0 = .ok (.aload_n 0, 1) := by decide +kernel
theorem dX6_spoil_1 : decode cX6_spoil 1 = .ok (.iload_n 1, 1) := by decide +kernel
theorem dX6_spoil_2 : decode cX6_spoil 2 = .ok (.invokevirtual 30, 3) := by decide +kernel
theorem dX6_spoil_5 : decode cX6_spoil 5 = .ok (.astore 4, 2) := by decide +kernel
theorem dX6_spoil_7 : decode cX6_spoil 7 = .ok (.aload 4, 2) := by decide +kernel
theorem dX6_spoil_9 : decode cX6_spoil 9 = .ok (.ifnonnull 5, 3) := by decide +kernel
theorem dX6_spoil_12 : decode cX6_spoil 12 = .ok (.iconst 0, 1) := by decide +kernel
theorem dX6_spoil_13 : decode cX6_spoil 13 = .ok (.ireturn, 1) := by decide +kernel
theorem dX6_spoil_14 : decode cX6_spoil 14 = .ok (.aload 4, 2) := by decide +kernel
theorem dX6_spoil_16 : decode cX6_spoil 16 = .ok (.getfield 38, 3) := by decide +kernel
theorem dX6_spoil_19 : decode cX6_spoil 19 = .ok (.invokevirtual 57, 3) := by decide +kernel
theorem dX6_spoil_22 : decode cX6_spoil 22 = .ok (.astore 5, 2) := by decide +kernel
theorem dX6_spoil_24 : decode cX6_spoil 24 = .ok (.aload 5, 2) := by decide +kernel
theorem dX6_spoil_26 : decode cX6_spoil 26 = .ok (.ifnull 17, 3) := by decide +kernel
theorem dX6_spoil_29 : decode cX6_spoil 29 = .ok (.aload 5, 2) := by decide +kernel
theorem dX6_spoil_31 : decode cX6_spoil 31 = .ok (.iload_n 2, 1) := by decide +kernel
theorem dX6_spoil_32 : decode cX6_spoil 32 = .ok (.iload_n 3, 1) := by decide +kernel
theorem dX6_spoil_33 : decode cX6_spoil 33 = .ok (.invokevirtual 60, 3) := by decide +kernel
theorem dX6_spoil_36 : decode cX6_spoil 36 = .ok (.ifCond .eq 7, 3) := by decide +kernel
theorem dX6_spoil_39 : decode cX6_spoil 39 = .ok (.iconst 1, 1) := by decide +kernel
theorem dX6_spoil_40 : decode cX6_spoil 40 = .ok (.goto 4, 3) := by decide +kernel
theorem dX6_spoil_43 : decode cX6_spoil 43 = .ok (.iconst 0, 1) := by decide +kernel
theorem dX6_spoil_44 : decode cX6_spoil 44 = .ok (.ireturn, 1) := by decide +kernel
set_option maxRecDepth 20000 in
theorem ggX6_about_X6_find : GoodIn wsX6_about wsX6_find := goodIn_r _ [13, 14, 15, 16, 12, 17, 51] (by decide +kernel) (by decide +kernel)
set_option maxRecDepth 20000 in
theorem gX6_about_X6_find : GoodIn wsX6_about (wsV RX6 30 RX6 yX6_find wsX6_find) := goodIn_app (goodIn_of _ (by decide +kernel)) ggX6_about_X6_find
set_option maxRecDepth 20000 in
theorem ggX6_about_X3_confirmed : GoodIn wsX6_about wsX3_confirmed := goodIn_r _ [22, 23, 24, 25, 26, 27, 28, 29, 30, 31, 32, 33, 34, 35, 36, 37, 38, 39, 40, 41, 42, 43, 44, 45, 46, 47, 48] (by decide +kernel) (by decide +kernel)
set_option maxRecDepth 20000 in
theorem gX6_about_X3_confirmed : GoodIn wsX6_about (wsV RX6 70 RX3 yX3_confirmed wsX3_confirmed) := goodIn_app (goodIn_of _ (by decide +kernel)) ggX6_about_X3_confirmed
theorem dX6_about_0 : decode cX6_about 0 = .ok (.aload_n 0, 1) := by decide +kernel
theorem dX6_about_1 : decode cX6_about 1 = .ok (.iload_n 1, 1) := by decide +kernel
theorem dX6_about_2 : decode cX6_about 2 = .ok (.invokevirtual 30, 3) := by decide +kernel
theorem dX6_about_5 : decode cX6_about 5 = .ok (.astore_n 3, 1) := by decide +kernel
theorem dX6_about_6 : decode cX6_about 6 = .ok (.aload_n 3, 1) := by decide +kernel
theorem dX6_about_7 : decode cX6_about 7 = .ok (.ifnonnull 5, 3) := by decide +kernel
theorem dX6_about_10 : decode cX6_about 10 = .ok (.iconst (-1), 1) := by decide +kernel
theorem dX6_about_11 : decode cX6_about 11 = .ok (.ireturn, 1) := by decide +kernel
theorem dX6_about_12 : decode cX6_about 12 = .ok (.iload_n 2, 1) := by decide +kernel
theorem dX6_about_13 : decode cX6_about 13 = .ok (.tableswitch 89 0 5 #[39, 44, 49, 54, 76, 84], 39) := by decide +kernel
theorem dX6_about_52 : decode cX6_about 52 = .ok (.aload_n 3, 1) := by decide +kernel
theorem dX6_about_53 : decode cX6_about 53 = .ok (.getfield 66, 3) := by decide +kernel
theorem dX6_about_56 : decode cX6_about 56 = .ok (.ireturn, 1) := by decide +kernel
theorem dX6_about_57 : decode cX6_about 57 = .ok (.aload_n 3, 1) := by decide +kernel
theorem dX6_about_58 : decode cX6_about 58 = .ok (.invokevirtual 70, 3) := by decide +kernel
theorem dX6_about_61 : decode cX6_about 61 = .ok (.ireturn, 1) := by decide +kernel
theorem dX6_about_62 : decode cX6_about 62 = .ok (.aload_n 3, 1) := by decide +kernel
theorem dX6_about_63 : decode cX6_about 63 = .ok (.getfield 74, 3) := by decide +kernel
theorem dX6_about_66 : decode cX6_about 66 = .ok (.ireturn, 1) := by decide +kernel
theorem dX6_about_67 : decode cX6_about 67 = .ok (.aload_n 3, 1) := by decide +kernel
theorem dX6_about_68 : decode cX6_about 68 = .ok (.getfield 77, 3) := by decide +kernel
theorem dX6_about_71 : decode cX6_about 71 = .ok (.getfield 81, 3) := by decide +kernel
theorem dX6_about_74 : decode cX6_about 74 = .ok (.ifCond .eq 13, 3) := by decide +kernel
theorem dX6_about_77 : decode cX6_about 77 = .ok (.aload_n 3, 1) := by decide +kernel
theorem dX6_about_78 : decode cX6_about 78 = .ok (.getfield 77, 3) := by decide +kernel
theorem dX6_about_81 : decode cX6_about 81 = .ok (.getfield 87, 3) := by decide +kernel
theorem dX6_about_84 : decode cX6_about 84 = .ok (.goto 4, 3) := by decide +kernel
theorem dX6_about_87 : decode cX6_about 87 = .ok (.iconst (-1), 1) := by decide +kernel
theorem dX6_about_88 : decode cX6_about 88 = .ok (.ireturn, 1) := by decide +kernel
theorem dX6_about_89 : decode cX6_about 89 = .ok (.aload_n 3, 1) := by decide +kernel
theorem dX6_about_90 : decode cX6_about 90 = .ok (.getfield 38, 3) := by decide +kernel
theorem dX6_about_93 : decode cX6_about 93 = .ok (.getfield 90, 3) := by decide +kernel
theorem dX6_about_96 : decode cX6_about 96 = .ok (.ireturn, 1) := by decide +kernel
theorem dX6_about_97 : decode cX6_about 97 = .ok (.aload_n 3, 1) := by decide +kernel
theorem dX6_about_98 : decode cX6_about 98 = .ok (.getfield 93, 3) := by decide +kernel
theorem dX6_about_101 : decode cX6_about 101 = .ok (.ireturn, 1) := by decide +kernel
theorem dX6_about_102 : decode cX6_about 102 = .ok (.iconst (-1), 1) := by decide +kernel
theorem dX6_about_103 : decode cX6_about 103 = .ok (.ireturn, 1) := by decide +kernel
set_option maxRecDepth 20000 in
theorem ggX6_known_X6_find : GoodIn wsX6_known wsX6_find := goodIn_r _ [6, 7, 8, 9, 5, 10, 22] (by decide +kernel) (by decide +kernel)
set_option maxRecDepth 20000 in
theorem gX6_known_X6_find : GoodIn wsX6_known (wsV RX6 30 RX6 yX6_find wsX6_find) := goodIn_app (goodIn_of _ (by decide +kernel)) ggX6_known_X6_find
set_option maxRecDepth 20000 in
theorem ggX6_known_X6_isPlayer : GoodIn wsX6_known wsX6_isPlayer := goodIn_r _ [10] (by decide +kernel) (by decide +kernel)
set_option maxRecDepth 20000 in
theorem gX6_known_X6_isPlayer : GoodIn wsX6_known (va_wsS RX6 96 yX6_isPlayer wsX6_isPlayer) := goodIn_app (goodIn_of _ (by decide +kernel)) ggX6_known_X6_isPlayer
set_option maxRecDepth 20000 in
theorem ggX6_known_X3_inputsOf : GoodIn wsX6_known wsX3_inputsOf := goodIn_r _ [15, 16, 17, 18, 23, 24, 25, 26, 27, 28, 29, 30, 31, 32, 33, 34, 35, 36] (by decide +kernel) (by decide +kernel)
set_option maxRecDepth 20000 in
theorem gX6_known_X3_inputsOf : GoodIn wsX6_known (wsV RX6 100 RX3 yX3_inputsOf wsX3_inputsOf) := goodIn_app (goodIn_of _ (by decide +kernel)) ggX6_known_X3_inputsOf
theorem dX6_known_0 : decode cX6_known 0 = .ok (.aload_n 0, 1) := by decide +kernel
theorem dX6_known_1 : decode cX6_known 1 = .ok (.iload_n 1, 1) := by decide +kernel
theorem dX6_known_2 : decode cX6_known 2 = .ok (.invokevirtual 30, 3) := by decide +kernel
theorem dX6_known_5 : decode cX6_known 5 = .ok (.astore_n 3, 1) := by decide +kernel
theorem dX6_known_6 : decode cX6_known 6 = .ok (.aload_n 3, 1) := by decide +kernel
theorem dX6_known_7 : decode cX6_known 7 = .ok (.ifnull 10, 3) := by decide +kernel
theorem dX6_known_10 : decode cX6_known 10 = .ok (.iload_n 2, 1) := by decide +kernel
theorem dX6_known_11 : decode cX6_known 11 = .ok (.invokestatic 96, 3) := by decide +kernel
theorem dX6_known_14 : decode cX6_known 14 = .ok (.ifCond .ne 5, 3) := by decide +kernel
theorem dX6_known_17 : decode cX6_known 17 = .ok (.iconst (-1), 1) := by decide +kernel
theorem dX6_known_18 : decode cX6_known 18 = .ok (.ireturn, 1) := by decide +kernel
theorem dX6_known_19 : decode cX6_known 19 = .ok (.aload_n 3, 1) := by decide +kernel
theorem dX6_known_20 : decode cX6_known 20 = .ok (.iload_n 2, 1) := by decide +kernel
theorem dX6_known_21 : decode cX6_known 21 = .ok (.invokevirtual 100, 3) := by decide +kernel
theorem dX6_known_24 : decode cX6_known 24 = .ok (.getfield 87, 3) := by decide +kernel
theorem dX6_known_27 : decode cX6_known 27 = .ok (.ireturn, 1) := by decide +kernel
set_option maxRecDepth 20000 in
theorem ggX6_used_X6_find : GoodIn wsX6_used wsX6_find := goodIn_r _ [7, 8, 9, 10, 6, 11, 32] (by decide +kernel) (by decide +kernel)
set_option maxRecDepth 20000 in
theorem gX6_used_X6_find : GoodIn wsX6_used (wsV RX6 30 RX6 yX6_find wsX6_find) := goodIn_app (goodIn_of _ (by decide +kernel)) ggX6_used_X6_find
set_option maxRecDepth 20000 in
theorem ggX6_used_X6_isPlayer : GoodIn wsX6_used wsX6_isPlayer := goodIn_r _ [11] (by decide +kernel) (by decide +kernel)
set_option maxRecDepth 20000 in
theorem gX6_used_X6_isPlayer : GoodIn wsX6_used (va_wsS RX6 96 yX6_isPlayer wsX6_isPlayer) := goodIn_app (goodIn_of _ (by decide +kernel)) ggX6_used_X6_isPlayer
set_option maxRecDepth 20000 in
theorem ggX6_used_X0_inputPlayed : GoodIn wsX6_used wsX0_inputPlayed := goodIn_r _ [16, 17, 33, 34] (by decide +kernel) (by decide +kernel)
set_option maxRecDepth 20000 in
theorem gX6_used_X0_inputPlayed : GoodIn wsX6_used (wsV RX6 108 RX0 yX0_inputPlayed wsX0_inputPlayed) := goodIn_app (goodIn_of _ (by decide +kernel)) ggX6_used_X0_inputPlayed
theorem dX6_used_0 : decode cX6_used 0 = .ok (.aload_n 0, 1) := by decide +kernel
theorem dX6_used_1 : decode cX6_used 1 = .ok (.iload_n 1, 1) := by decide +kernel
theorem dX6_used_2 : decode cX6_used 2 = .ok (.invokevirtual 30, 3) := by decide +kernel
theorem dX6_used_5 : decode cX6_used 5 = .ok (.astore 4, 2) := by decide +kernel
theorem dX6_used_7 : decode cX6_used 7 = .ok (.aload 4, 2) := by decide +kernel
theorem dX6_used_9 : decode cX6_used 9 = .ok (.ifnull 10, 3) := by decide +kernel
theorem dX6_used_12 : decode cX6_used 12 = .ok (.iload_n 2, 1) := by decide +kernel
theorem dX6_used_13 : decode cX6_used 13 = .ok (.invokestatic 96, 3) := by decide +kernel
theorem dX6_used_16 : decode cX6_used 16 = .ok (.ifCond .ne 5, 3) := by decide +kernel
theorem dX6_used_19 : decode cX6_used 19 = .ok (.iconst (-1), 1) := by decide +kernel
theorem dX6_used_20 : decode cX6_used 20 = .ok (.ireturn, 1) := by decide +kernel
theorem dX6_used_21 : decode cX6_used 21 = .ok (.aload 4, 2) := by decide +kernel
theorem dX6_used_23 : decode cX6_used 23 = .ok (.getfield 104, 3) := by decide +kernel
theorem dX6_used_26 : decode cX6_used 26 = .ok (.iload_n 2, 1) := by decide +kernel
theorem dX6_used_27 : decode cX6_used 27 = .ok (.iload_n 3, 1) := by decide +kernel
theorem dX6_used_28 : decode cX6_used 28 = .ok (.aload 4, 2) := by decide +kernel
theorem dX6_used_30 : decode cX6_used 30 = .ok (.getfield 66, 3) := by decide +kernel
theorem dX6_used_33 : decode cX6_used 33 = .ok (.invokevirtual 108, 3) := by decide +kernel
theorem dX6_used_36 : decode cX6_used 36 = .ok (.ireturn, 1) := by decide +kernel
set_option maxRecDepth 20000 in
theorem ggX6_sum_X6_find : GoodIn wsX6_sum wsX6_find := goodIn_r _ [7, 8, 9, 10, 6, 11, 47] (by decide +kernel) (by decide +kernel)
set_option maxRecDepth 20000 in
theorem gX6_sum_X6_find : GoodIn wsX6_sum (wsV RX6 30 RX6 yX6_find wsX6_find) := goodIn_app (goodIn_of _ (by decide +kernel)) ggX6_sum_X6_find
set_option maxRecDepth 20000 in
theorem ggX6_sum_X0_sumBefore : GoodIn wsX6_sum wsX0_sumBefore := goodIn_r _ [16, 17, 18, 19, 15, 20, 21, 22, 23, 24, 25, 26, 27, 28, 29, 30, 31, 32, 48, 49, 50, 51, 52, 53] (by decide +kernel) (by decide +kernel)
set_option maxRecDepth 20000 in
theorem gX6_sum_X0_sumBefore : GoodIn wsX6_sum (wsV RX6 114 RX0 yX0_sumBefore wsX0_sumBefore) := goodIn_app (goodIn_of _ (by decide +kernel)) ggX6_sum_X0_sumBefore
theorem dX6_sum_0 : decode cX6_sum 0 = .ok (.aload_n 0, 1) := by decide +kernel
theorem dX6_sum_1 : decode cX6_sum 1 = .ok (.iload_n 1, 1) := by decide +kernel
theorem dX6_sum_2 : decode cX6_sum 2 = .ok (.invokevirtual 30, 3) := by decide +kernel
theorem dX6_sum_5 : decode cX6_sum 5 = .ok (.astore_n 3, 1) := by decide +kernel
theorem dX6_sum_6 : decode cX6_sum 6 = .ok (.aload_n 3, 1) := by decide +kernel
theorem dX6_sum_7 : decode cX6_sum 7 = .ok (.ifnonnull 7, 3) := by decide +kernel
theorem dX6_sum_10 : decode cX6_sum 10 = .ok (.iconst 0, 1) := by decide +kernel
theorem dX6_sum_11 : decode cX6_sum 11 = .ok (.goto 15, 3) := by decide +kernel
theorem dX6_sum_14 : decode cX6_sum 14 = .ok (.aload_n 3, 1) := by decide +kernel
theorem dX6_sum_15 : decode cX6_sum 15 = .ok (.getfield 104, 3) := by decide +kernel
theorem dX6_sum_18 : decode cX6_sum 18 = .ok (.iload_n 2, 1) := by decide +kernel
theorem dX6_sum_19 : decode cX6_sum 19 = .ok (.aload_n 3, 1) := by decide +kernel
theorem dX6_sum_20 : decode cX6_sum 20 = .ok (.getfield 66, 3) := by decide +kernel
theorem dX6_sum_23 : decode cX6_sum 23 = .ok (.invokevirtual 114, 3) := by decide +kernel
theorem dX6_sum_26 : decode cX6_sum 26 = .ok (.ireturn, 1) := by decide +kernel
set_option maxRecDepth 20000 in
theorem ggX6_place_X6_find : GoodIn wsX6_place wsX6_find := goodIn_r _ [7, 8, 9, 10, 6, 11, 29] (by decide +kernel) (by decide +kernel)
set_option maxRecDepth 20000 in
theorem gX6_place_X6_find : GoodIn wsX6_place (wsV RX6 30 RX6 yX6_find wsX6_find) := goodIn_app (goodIn_of _ (by decide +kernel)) ggX6_place_X6_find
set_option maxRecDepth 20000 in
theorem ggX6_place_X6_isPlayer : GoodIn wsX6_place wsX6_isPlayer := goodIn_r _ [11] (by decide +kernel) (by decide +kernel)
set_option maxRecDepth 20000 in
theorem gX6_place_X6_isPlayer : GoodIn wsX6_place (va_wsS RX6 96 yX6_isPlayer wsX6_isPlayer) := goodIn_app (goodIn_of _ (by decide +kernel)) ggX6_place_X6_isPlayer
set_option maxRecDepth 20000 in
theorem ggX6_place_X3_state : GoodIn wsX6_place wsX3_state := goodIn_r _ [16, 17, 18, 19, 20, 21, 22, 23, 24, 30, 31, 32, 33, 34, 35, 36, 37, 38, 39, 40, 41, 42, 43, 44, 45] (by decide +kernel) (by decide +kernel)
set_option maxRecDepth 20000 in
theorem gX6_place_X3_state : GoodIn wsX6_place (wsV RX6 118 RX3 yX3_state wsX3_state) := goodIn_app (goodIn_of _ (by decide +kernel)) ggX6_place_X3_state
theorem dX6_place_0 : decode cX6_place 0 = .ok (.aload_n 0, 1) := by decide +kernel
theorem dX6_place_1 : decode cX6_place 1 = .ok (.iload_n 1, 1) := by decide +kernel
theorem dX6_place_2 : decode cX6_place 2 = .ok (.invokevirtual 30, 3) := by decide +kernel
theorem dX6_place_5 : decode cX6_place 5 = .ok (.astore_n 3, 1) := by decide +kernel
theorem dX6_place_6 : decode cX6_place 6 = .ok (.aload_n 3, 1) := by decide +kernel
theorem dX6_place_7 : decode cX6_place 7 = .ok (.ifnull 10, 3) := by decide +kernel
theorem dX6_place_10 : decode cX6_place 10 = .ok (.iload_n 2, 1) := by decide +kernel
theorem dX6_place_11 : decode cX6_place 11 = .ok (.invokestatic 96, 3) := by decide +kernel
theorem dX6_place_14 : decode cX6_place 14 = .ok (.ifCond .ne 6, 3) := by decide +kernel
theorem dX6_place_17 : decode cX6_place 17 = .ok (.ldc 117, 2) := by decide +kernel
theorem dX6_place_19 : decode cX6_place 19 = .ok (.freturn, 1) := by decide +kernel
theorem dX6_place_20 : decode cX6_place 20 = .ok (.aload_n 3, 1) := by decide +kernel
theorem dX6_place_21 : decode cX6_place 21 = .ok (.invokevirtual 118, 3) := by decide +kernel
theorem dX6_place_24 : decode cX6_place 24 = .ok (.getfield 122, 3) := by decide +kernel
theorem dX6_place_27 : decode cX6_place 27 = .ok (.iload_n 2, 1) := by decide +kernel
theorem dX6_place_28 : decode cX6_place 28 = .ok (.faload, 1) := by decide +kernel
theorem dX6_place_29 : decode cX6_place 29 = .ok (.freturn, 1) := by decide +kernel
set_option maxRecDepth 20000 in
theorem ggX6_speed_X6_find : GoodIn wsX6_speed wsX6_find := goodIn_r _ [6, 7, 8, 9, 5, 10, 28] (by decide +kernel) (by decide +kernel)
set_option maxRecDepth 20000 in
theorem gX6_speed_X6_find : GoodIn wsX6_speed (wsV RX6 30 RX6 yX6_find wsX6_find) := goodIn_app (goodIn_of _ (by decide +kernel)) ggX6_speed_X6_find
set_option maxRecDepth 20000 in
theorem ggX6_speed_X6_isPlayer : GoodIn wsX6_speed wsX6_isPlayer := goodIn_r _ [10] (by decide +kernel) (by decide +kernel)
set_option maxRecDepth 20000 in
theorem gX6_speed_X6_isPlayer : GoodIn wsX6_speed (va_wsS RX6 96 yX6_isPlayer wsX6_isPlayer) := goodIn_app (goodIn_of _ (by decide +kernel)) ggX6_speed_X6_isPlayer
set_option maxRecDepth 20000 in
theorem ggX6_speed_X3_state : GoodIn wsX6_speed wsX3_state := goodIn_r _ [15, 16, 17, 18, 19, 20, 21, 22, 23, 29, 30, 31, 32, 33, 34, 35, 36, 37, 38, 39, 40, 41, 42, 43, 44] (by decide +kernel) (by decide +kernel)
set_option maxRecDepth 20000 in
theorem gX6_speed_X3_state : GoodIn wsX6_speed (wsV RX6 118 RX3 yX3_state wsX3_state) := goodIn_app (goodIn_of _ (by decide +kernel)) ggX6_speed_X3_state
theorem dX6_speed_0 : decode cX6_speed 0 = .ok (.aload_n 0, 1) := by decide +kernel
theorem dX6_speed_1 : decode cX6_speed 1 = .ok (.iload_n 1, 1) := by decide +kernel
theorem dX6_speed_2 : decode cX6_speed 2 = .ok (.invokevirtual 30, 3) := by decide +kernel
theorem dX6_speed_5 : decode cX6_speed 5 = .ok (.astore_n 3, 1) := by decide +kernel
theorem dX6_speed_6 : decode cX6_speed 6 = .ok (.aload_n 3, 1) := by decide +kernel
theorem dX6_speed_7 : decode cX6_speed 7 = .ok (.ifnull 10, 3) := by decide +kernel
theorem dX6_speed_10 : decode cX6_speed 10 = .ok (.iload_n 2, 1) := by decide +kernel
theorem dX6_speed_11 : decode cX6_speed 11 = .ok (.invokestatic 96, 3) := by decide +kernel
theorem dX6_speed_14 : decode cX6_speed 14 = .ok (.ifCond .ne 5, 3) := by decide +kernel
theorem dX6_speed_17 : decode cX6_speed 17 = .ok (.fconst 0, 1) := by decide +kernel
theorem dX6_speed_18 : decode cX6_speed 18 = .ok (.freturn, 1) := by decide +kernel
theorem dX6_speed_19 : decode cX6_speed 19 = .ok (.aload_n 3, 1) := by decide +kernel
theorem dX6_speed_20 : decode cX6_speed 20 = .ok (.invokevirtual 118, 3) := by decide +kernel
theorem dX6_speed_23 : decode cX6_speed 23 = .ok (.getfield 128, 3) := by decide +kernel
theorem dX6_speed_26 : decode cX6_speed 26 = .ok (.iload_n 2, 1) := by decide +kernel
theorem dX6_speed_27 : decode cX6_speed 27 = .ok (.faload, 1) := by decide +kernel
theorem dX6_speed_28 : decode cX6_speed 28 = .ok (.freturn, 1) := by decide +kernel
set_option maxRecDepth 20000 in
theorem ggX6_hits_X6_find : GoodIn wsX6_hits wsX6_find := goodIn_r _ [6, 7, 8, 9, 5, 10, 28] (by decide +kernel) (by decide +kernel)
set_option maxRecDepth 20000 in
theorem gX6_hits_X6_find : GoodIn wsX6_hits (wsV RX6 30 RX6 yX6_find wsX6_find) := goodIn_app (goodIn_of _ (by decide +kernel)) ggX6_hits_X6_find
set_option maxRecDepth 20000 in
theorem ggX6_hits_X3_state : GoodIn wsX6_hits wsX3_state := goodIn_r _ [15, 16, 17, 18, 19, 20, 21, 22, 23, 29, 30, 31, 32, 33, 34, 35, 36, 37, 38, 39, 40, 41, 42, 43, 44] (by decide +kernel) (by decide +kernel)
set_option maxRecDepth 20000 in
theorem gX6_hits_X3_state : GoodIn wsX6_hits (wsV RX6 118 RX3 yX3_state wsX3_state) := goodIn_app (goodIn_of _ (by decide +kernel)) ggX6_hits_X3_state
theorem dX6_hits_0 : decode cX6_hits 0 = .ok (.aload_n 0, 1) := by decide +kernel
theorem dX6_hits_1 : decode cX6_hits 1 = .ok (.iload_n 1, 1) := by decide +kernel
theorem dX6_hits_2 : decode cX6_hits 2 = .ok (.invokevirtual 30, 3) := by decide +kernel
theorem dX6_hits_5 : decode cX6_hits 5 = .ok (.astore_n 2, 1) := by decide +kernel
theorem dX6_hits_6 : decode cX6_hits 6 = .ok (.aload_n 2, 1) := by decide +kernel
theorem dX6_hits_7 : decode cX6_hits 7 = .ok (.ifnonnull 7, 3) := by decide +kernel
theorem dX6_hits_10 : decode cX6_hits 10 = .ok (.iconst (-1), 1) := by decide +kernel
theorem dX6_hits_11 : decode cX6_hits 11 = .ok (.goto 10, 3) := by decide +kernel
theorem dX6_hits_14 : decode cX6_hits 14 = .ok (.aload_n 2, 1) := by decide +kernel
theorem dX6_hits_15 : decode cX6_hits 15 = .ok (.invokevirtual 118, 3) := by decide +kernel
theorem dX6_hits_18 : decode cX6_hits 18 = .ok (.getfield 131, 3) := by decide +kernel
theorem dX6_hits_21 : decode cX6_hits 21 = .ok (.ireturn, 1) := by decide +kernel
set_option maxRecDepth 20000 in
theorem ggX6_work_X6_find : GoodIn wsX6_work wsX6_find := goodIn_r _ [7, 8, 9, 10, 6, 11, 29] (by decide +kernel) (by decide +kernel)
set_option maxRecDepth 20000 in
theorem gX6_work_X6_find : GoodIn wsX6_work (wsV RX6 30 RX6 yX6_find wsX6_find) := goodIn_app (goodIn_of _ (by decide +kernel)) ggX6_work_X6_find
set_option maxRecDepth 20000 in
theorem ggX6_work_X3_state : GoodIn wsX6_work wsX3_state := goodIn_r _ [16, 17, 18, 19, 20, 21, 22, 23, 24, 30, 31, 32, 33, 34, 35, 36, 37, 38, 39, 40, 41, 42, 43, 44, 45] (by decide +kernel) (by decide +kernel)
set_option maxRecDepth 20000 in
theorem gX6_work_X3_state : GoodIn wsX6_work (wsV RX6 118 RX3 yX3_state wsX3_state) := goodIn_app (goodIn_of _ (by decide +kernel)) ggX6_work_X3_state
theorem dX6_work_0 : decode cX6_work 0 = .ok (.aload_n 0, 1) := by decide +kernel
theorem dX6_work_1 : decode cX6_work 1 = .ok (.iload_n 1, 1) := by decide +kernel
theorem dX6_work_2 : decode cX6_work 2 = .ok (.invokevirtual 30, 3) := by decide +kernel
theorem dX6_work_5 : decode cX6_work 5 = .ok (.astore_n 2, 1) := by decide +kernel
theorem dX6_work_6 : decode cX6_work 6 = .ok (.aload_n 2, 1) := by decide +kernel
theorem dX6_work_7 : decode cX6_work 7 = .ok (.ifnonnull 9, 3) := by decide +kernel
theorem dX6_work_10 : decode cX6_work 10 = .ok (.ldc2_w 134, 3) := by decide +kernel
theorem dX6_work_13 : decode cX6_work 13 = .ok (.goto 10, 3) := by decide +kernel
theorem dX6_work_16 : decode cX6_work 16 = .ok (.aload_n 2, 1) := by decide +kernel
theorem dX6_work_17 : decode cX6_work 17 = .ok (.invokevirtual 118, 3) := by decide +kernel
theorem dX6_work_20 : decode cX6_work 20 = .ok (.getfield 136, 3) := by decide +kernel
theorem dX6_work_23 : decode cX6_work 23 = .ok (.dreturn, 1) := by decide +kernel
set_option maxRecDepth 20000 in
theorem ggX6_advice_X6_find : GoodIn wsX6_advice wsX6_find := goodIn_r _ [6, 7, 8, 9, 5, 10, 25] (by decide +kernel) (by decide +kernel)
set_option maxRecDepth 20000 in
theorem gX6_advice_X6_find : GoodIn wsX6_advice (wsV RX6 30 RX6 yX6_find wsX6_find) := goodIn_app (goodIn_of _ (by decide +kernel)) ggX6_advice_X6_find
theorem dX6_advice_0 : decode cX6_advice 0 = .ok (.aload_n 0, 1) := by decide +kernel
theorem dX6_advice_1 : decode cX6_advice 1 = .ok (.iload_n 1, 1) := by decide +kernel
theorem dX6_advice_2 : decode cX6_advice 2 = .ok (.invokevirtual 30, 3) := by decide +kernel
theorem dX6_advice_5 : decode cX6_advice 5 = .ok (.astore_n 2, 1) := by decide +kernel
theorem dX6_advice_6 : decode cX6_advice 6 = .ok (.aload_n 2, 1) := by decide +kernel
theorem dX6_advice_7 : decode cX6_advice 7 = .ok (.ifnonnull 7, 3) := by decide +kernel
theorem dX6_advice_10 : decode cX6_advice 10 = .ok (.fconst 0, 1) := by decide +kernel
theorem dX6_advice_11 : decode cX6_advice 11 = .ok (.goto 7, 3) := by decide +kernel
theorem dX6_advice_14 : decode cX6_advice 14 = .ok (.aload_n 2, 1) := by decide +kernel
theorem dX6_advice_15 : decode cX6_advice 15 = .ok (.getfield 140, 3) := by decide +kernel
theorem dX6_advice_18 : decode cX6_advice 18 = .ok (.freturn, 1) := by decide +kernel
set_option maxRecDepth 20000 in
theorem ggX6_find_X6_isPlayer : GoodIn wsX6_find wsX6_isPlayer := goodIn_r _ [5] (by decide +kernel) (by decide +kernel)
set_option maxRecDepth 20000 in
theorem gX6_find_X6_isPlayer : GoodIn wsX6_find (va_wsS RX6 96 yX6_isPlayer wsX6_isPlayer) := goodIn_app (goodIn_of _ (by decide +kernel)) ggX6_find_X6_isPlayer
theorem dX6_find_0 : decode cX6_find 0 = .ok (.iload_n 1, 1) := by decide +kernel
theorem dX6_find_1 : decode cX6_find 1 = .ok (.invokestatic 96, 3) := by decide +kernel
theorem dX6_find_4 : decode cX6_find 4 = .ok (.ifCond .eq 12, 3) := by decide +kernel
theorem dX6_find_7 : decode cX6_find 7 = .ok (.aload_n 0, 1) := by decide +kernel
theorem dX6_find_8 : decode cX6_find 8 = .ok (.getfield 9, 3) := by decide +kernel
theorem dX6_find_11 : decode cX6_find 11 = .ok (.iload_n 1, 1) := by decide +kernel
theorem dX6_find_12 : decode cX6_find 12 = .ok (.aaload, 1) := by decide +kernel
theorem dX6_find_13 : decode cX6_find 13 = .ok (.goto 4, 3) := by decide +kernel
theorem dX6_find_16 : decode cX6_find 16 = .ok (.aconst_null, 1) := by decide +kernel
theorem dX6_find_17 : decode cX6_find 17 = .ok (.areturn, 1) := by decide +kernel
theorem dX6_isPlayer_0 : decode cX6_isPlayer 0 = .ok (.iload_n 0, 1) := by decide +kernel
theorem dX6_isPlayer_1 : decode cX6_isPlayer 1 = .ok (.ifCond .eq 8, 3) := by decide +kernel
theorem dX6_isPlayer_4 : decode cX6_isPlayer 4 = .ok (.iload_n 0, 1) := by decide +kernel
theorem dX6_isPlayer_5 : decode cX6_isPlayer 5 = .ok (.iconst 1, 1) := by decide +kernel
theorem dX6_isPlayer_6 : decode cX6_isPlayer 6 = .ok (.if_icmp .ne 7, 3) := by decide +kernel
theorem dX6_isPlayer_9 : decode cX6_isPlayer 9 = .ok (.iconst 1, 1) := by decide +kernel
theorem dX6_isPlayer_10 : decode cX6_isPlayer 10 = .ok (.goto 4, 3) := by decide +kernel
theorem dX6_isPlayer_13 : decode cX6_isPlayer 13 = .ok (.iconst 0, 1) := by decide +kernel
theorem dX6_isPlayer_14 : decode cX6_isPlayer 14 = .ok (.ireturn, 1) := by decide +kernel
