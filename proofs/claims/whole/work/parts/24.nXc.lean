theorem dX3_inputsOf_0 : decode cX3_inputsOf 0 = .ok (.iload_n 1, 1) := by decide +kernel
theorem dX3_inputsOf_1 : decode cX3_inputsOf 1 = .ok (.aload_n 0, 1) := by decide +kernel
theorem dX3_inputsOf_2 : decode cX3_inputsOf 2 = .ok (.getfield 18, 3) := by decide +kernel
theorem dX3_inputsOf_5 : decode cX3_inputsOf 5 = .ok (.if_icmp .ne 10, 3) := by decide +kernel
theorem dX3_inputsOf_8 : decode cX3_inputsOf 8 = .ok (.aload_n 0, 1) := by decide +kernel
theorem dX3_inputsOf_9 : decode cX3_inputsOf 9 = .ok (.getfield 37, 3) := by decide +kernel
theorem dX3_inputsOf_12 : decode cX3_inputsOf 12 = .ok (.goto 7, 3) := by decide +kernel
theorem dX3_inputsOf_15 : decode cX3_inputsOf 15 = .ok (.aload_n 0, 1) := by decide +kernel
theorem dX3_inputsOf_16 : decode cX3_inputsOf 16 = .ok (.getfield 41, 3) := by decide +kernel
theorem dX3_inputsOf_19 : decode cX3_inputsOf 19 = .ok (.areturn, 1) := by decide +kernel
set_option maxRecDepth 20000 in
theorem ggX3_state_X0_before : GoodIn wsX3_state wsX0_before := goodIn_r _ [7, 8, 23, 24] (by decide +kernel) (by decide +kernel)
set_option maxRecDepth 20000 in
theorem gX3_state_X0_before : GoodIn wsX3_state (wsV RX3 54 RX0 yX0_before wsX0_before) := goodIn_app (goodIn_of _ (by decide +kernel)) ggX3_state_X0_before
theorem dX3_state_0 : decode cX3_state 0 = .ok (.aload_n 0, 1) := by decide +kernel
theorem dX3_state_1 : decode cX3_state 1 = .ok (.getfield 12, 3) := by decide +kernel
theorem dX3_state_4 : decode cX3_state 4 = .ok (.aload_n 0, 1) := by decide +kernel
theorem dX3_state_5 : decode cX3_state 5 = .ok (.getfield 51, 3) := by decide +kernel
theorem dX3_state_8 : decode cX3_state 8 = .ok (.invokevirtual 54, 3) := by decide +kernel
theorem dX3_state_11 : decode cX3_state 11 = .ok (.areturn, 1) := by decide +kernel
theorem dX3_confirmed_0 : decode cX3_confirmed 0 = .ok (.aload_n 0, 1) := by decide +kernel
theorem dX3_confirmed_1 : decode cX3_confirmed 1 = .ok (.getfield 37, 3) := by decide +kernel
theorem dX3_confirmed_4 : decode cX3_confirmed 4 = .ok (.getfield 58, 3) := by decide +kernel
theorem dX3_confirmed_7 : decode cX3_confirmed 7 = .ok (.aload_n 0, 1) := by decide +kernel
theorem dX3_confirmed_8 : decode cX3_confirmed 8 = .ok (.getfield 41, 3) := by decide +kernel
theorem dX3_confirmed_11 : decode cX3_confirmed 11 = .ok (.getfield 61, 3) := by decide +kernel
theorem dX3_confirmed_14 : decode cX3_confirmed 14 = .ok (.ifCond .eq 10, 3) := by decide +kernel
theorem dX3_confirmed_17 : decode cX3_confirmed 17 = .ok (.aload_n 0, 1) := by decide +kernel
theorem dX3_confirmed_18 : decode cX3_confirmed 18 = .ok (.getfield 51, 3) := by decide +kernel
theorem dX3_confirmed_21 : decode cX3_confirmed 21 = .ok (.goto 10, 3) := by decide +kernel
theorem dX3_confirmed_24 : decode cX3_confirmed 24 = .ok (.aload_n 0, 1) := by decide +kernel
theorem dX3_confirmed_25 : decode cX3_confirmed 25 = .ok (.getfield 41, 3) := by decide +kernel
theorem dX3_confirmed_28 : decode cX3_confirmed 28 = .ok (.getfield 58, 3) := by decide +kernel
theorem dX3_confirmed_31 : decode cX3_confirmed 31 = .ok (.invokestatic 65, 3) := by decide +kernel
theorem dX3_confirmed_34 : decode cX3_confirmed 34 = .ok (.istore_n 1, 1) := by decide +kernel
theorem dX3_confirmed_35 : decode cX3_confirmed 35 = .ok (.aload_n 0, 1) := by decide +kernel
theorem dX3_confirmed_36 : decode cX3_confirmed 36 = .ok (.getfield 51, 3) := by decide +kernel
theorem dX3_confirmed_39 : decode cX3_confirmed 39 = .ok (.iload_n 1, 1) := by decide +kernel
theorem dX3_confirmed_40 : decode cX3_confirmed 40 = .ok (.invokestatic 65, 3) := by decide +kernel
theorem dX3_confirmed_43 : decode cX3_confirmed 43 = .ok (.ireturn, 1) := by decide +kernel
set_option maxRecDepth 20000 in
theorem ggX3_goOn_X3_stall : GoodIn wsX3_goOn wsX3_stall := goodIn_r _ [11, 12, 1, 2, 4, 3, 13, 14, 15, 10, 16, 17, 18, 19, 20, 21, 22, 23, 24, 25, 26, 27, 28, 29, 30, 31, 32, 33, 34, 35, 36, 37, 38, 39, 40, 6, 41, 42, 43, 44, 45, 46, 47, 48, 49, 50, 51, 52, 53, 54, 55, 56, 57, 58, 59, 60, 61, 62, 63, 64, 65, 66, 67, 68, 69, 70, 71, 115, 116, 117, 118, 119, 120, 121, 122, 123, 124, 125, 126, 127, 128, 129, 130, 131, 132, 133, 134, 135, 136, 137] (by decide +kernel) (by decide +kernel)
set_option maxRecDepth 20000 in
theorem gX3_goOn_X3_stall : GoodIn wsX3_goOn (wsV RX3 71 RX3 yX3_stall wsX3_stall) := goodIn_app (goodIn_of _ (by decide +kernel)) ggX3_goOn_X3_stall
set_option maxRecDepth 20000 in
theorem ggX3_goOn_X1_learn : GoodIn wsX3_goOn wsX1_learn := goodIn_r _ [75, 31, 30, 129, 130, 131] (by decide +kernel) (by decide +kernel)
set_option maxRecDepth 20000 in
theorem gX3_goOn_X1_learn : GoodIn wsX3_goOn (wsV RX3 74 RX1 yX1_learn wsX1_learn) := goodIn_app (goodIn_of _ (by decide +kernel)) ggX3_goOn_X1_learn
set_option maxRecDepth 20000 in
theorem ggX3_goOn_X3_playFrames : GoodIn wsX3_goOn wsX3_playFrames := goodIn_r _ [36, 17, 37, 38, 39, 10, 40, 18, 6, 1, 25, 26, 27, 28, 29, 30, 31, 32, 41, 42, 43, 22, 44, 24, 45, 46, 47, 48, 49, 50, 51, 52, 53, 54, 55, 56, 57, 58, 59, 60, 61, 62, 63, 64, 65, 66, 67, 68, 69, 70, 71, 115, 116, 117, 118, 119, 120, 121, 122, 123, 124, 125, 126, 127, 128, 129, 130, 131, 132, 133, 134, 135, 136, 137] (by decide +kernel) (by decide +kernel)
set_option maxRecDepth 20000 in
theorem gX3_goOn_X3_playFrames : GoodIn wsX3_goOn (wsV RX3 78 RX3 yX3_playFrames wsX3_playFrames) := goodIn_app (goodIn_of _ (by decide +kernel)) ggX3_goOn_X3_playFrames
set_option maxRecDepth 20000 in
theorem ggX3_goOn_X3_sendPacket : GoodIn wsX3_goOn wsX3_sendPacket := goodIn_r _ [79, 80, 81, 82, 3, 83, 1, 4, 84, 6, 85, 86, 87, 88, 89, 90, 91, 92, 93, 94, 95, 96, 97, 98, 99, 100, 101, 102, 103, 104, 105, 106, 107, 26, 27, 28, 29, 30, 31, 32, 108, 109, 110, 111, 112, 113, 114, 115, 116, 117, 118, 119, 120, 121, 122, 123, 124, 125, 126, 127, 128, 138, 139, 140, 141, 142, 143, 144, 129, 130, 131, 145, 146] (by decide +kernel) (by decide +kernel)
set_option maxRecDepth 20000 in
theorem gX3_goOn_X3_sendPacket : GoodIn wsX3_goOn (wsV RX3 81 RX3 yX3_sendPacket wsX3_sendPacket) := goodIn_app (goodIn_of _ (by decide +kernel)) ggX3_goOn_X3_sendPacket
theorem dX3_goOn_0 : decode cX3_goOn 0 = .ok (.aload_n 0, 1) := by decide +kernel
theorem dX3_goOn_1 : decode cX3_goOn 1 = .ok (.getfield 41, 3) := by decide +kernel
theorem dX3_goOn_4 : decode cX3_goOn 4 = .ok (.getfield 61, 3) := by decide +kernel
theorem dX3_goOn_7 : decode cX3_goOn 7 = .ok (.ifCond .ne 28, 3) := by decide +kernel
theorem dX3_goOn_10 : decode cX3_goOn 10 = .ok (.aload_n 0, 1) := by decide +kernel
theorem dX3_goOn_11 : decode cX3_goOn 11 = .ok (.getfield 51, 3) := by decide +kernel
theorem dX3_goOn_14 : decode cX3_goOn 14 = .ok (.aload_n 0, 1) := by decide +kernel
theorem dX3_goOn_15 : decode cX3_goOn 15 = .ok (.getfield 41, 3) := by decide +kernel
theorem dX3_goOn_18 : decode cX3_goOn 18 = .ok (.getfield 58, 3) := by decide +kernel
theorem dX3_goOn_21 : decode cX3_goOn 21 = .ok (.isub, 1) := by decide +kernel
theorem dX3_goOn_22 : decode cX3_goOn 22 = .ok (.aload_n 0, 1) := by decide +kernel
theorem dX3_goOn_23 : decode cX3_goOn 23 = .ok (.getfield 22, 3) := by decide +kernel
theorem dX3_goOn_26 : decode cX3_goOn 26 = .ok (.if_icmp .lt 9, 3) := by decide +kernel
theorem dX3_goOn_29 : decode cX3_goOn 29 = .ok (.aload_n 0, 1) := by decide +kernel
theorem dX3_goOn_30 : decode cX3_goOn 30 = .ok (.invokevirtual 71, 3) := by decide +kernel
theorem dX3_goOn_33 : decode cX3_goOn 33 = .ok (.iconst (-1), 1) := by decide +kernel
theorem dX3_goOn_34 : decode cX3_goOn 34 = .ok (.ireturn, 1) := by decide +kernel
theorem dX3_goOn_35 : decode cX3_goOn 35 = .ok (.aload_n 0, 1) := by decide +kernel
theorem dX3_goOn_36 : decode cX3_goOn 36 = .ok (.getfield 37, 3) := by decide +kernel
theorem dX3_goOn_39 : decode cX3_goOn 39 = .ok (.iload_n 1, 1) := by decide +kernel
theorem dX3_goOn_40 : decode cX3_goOn 40 = .ok (.invokevirtual 74, 3) := by decide +kernel
theorem dX3_goOn_43 : decode cX3_goOn 43 = .ok (.aload_n 0, 1) := by decide +kernel
theorem dX3_goOn_44 : decode cX3_goOn 44 = .ok (.aload_n 0, 1) := by decide +kernel
theorem dX3_goOn_45 : decode cX3_goOn 45 = .ok (.getfield 51, 3) := by decide +kernel
theorem dX3_goOn_48 : decode cX3_goOn 48 = .ok (.aload_n 0, 1) := by decide +kernel
theorem dX3_goOn_49 : decode cX3_goOn 49 = .ok (.getfield 51, 3) := by decide +kernel
theorem dX3_goOn_52 : decode cX3_goOn 52 = .ok (.iconst 1, 1) := by decide +kernel
theorem dX3_goOn_53 : decode cX3_goOn 53 = .ok (.iadd, 1) := by decide +kernel
theorem dX3_goOn_54 : decode cX3_goOn 54 = .ok (.invokevirtual 78, 3) := by decide +kernel
theorem dX3_goOn_57 : decode cX3_goOn 57 = .ok (.aload_n 0, 1) := by decide +kernel
theorem dX3_goOn_58 : decode cX3_goOn 58 = .ok (.dup, 1) := by decide +kernel
theorem dX3_goOn_59 : decode cX3_goOn 59 = .ok (.getfield 51, 3) := by decide +kernel
theorem dX3_goOn_62 : decode cX3_goOn 62 = .ok (.iconst 1, 1) := by decide +kernel
theorem dX3_goOn_63 : decode cX3_goOn 63 = .ok (.iadd, 1) := by decide +kernel
theorem dX3_goOn_64 : decode cX3_goOn 64 = .ok (.putfield 51, 3) := by decide +kernel
theorem dX3_goOn_67 : decode cX3_goOn 67 = .ok (.aload_n 0, 1) := by decide +kernel
theorem dX3_goOn_68 : decode cX3_goOn 68 = .ok (.invokevirtual 81, 3) := by decide +kernel
theorem dX3_goOn_71 : decode cX3_goOn 71 = .ok (.aload_n 0, 1) := by decide +kernel
theorem dX3_goOn_72 : decode cX3_goOn 72 = .ok (.getfield 51, 3) := by decide +kernel
theorem dX3_goOn_75 : decode cX3_goOn 75 = .ok (.iconst 1, 1) := by decide +kernel
theorem dX3_goOn_76 : decode cX3_goOn 76 = .ok (.isub, 1) := by decide +kernel
theorem dX3_goOn_77 : decode cX3_goOn 77 = .ok (.ireturn, 1) := by decide +kernel
set_option maxRecDepth 20000 in
theorem ggX3_stall_X3_firstWrong : GoodIn wsX3_stall wsX3_firstWrong := goodIn_r _ [10, 5, 11, 12, 2, 13, 14, 15, 16, 17, 18, 19, 20, 21, 22, 23, 24, 25, 26, 67, 68, 69, 70, 71, 72, 73, 74, 75, 76, 77, 78, 79, 80, 84, 85, 81, 82, 83] (by decide +kernel) (by decide +kernel)
set_option maxRecDepth 20000 in
theorem gX3_stall_X3_firstWrong : GoodIn wsX3_stall (wsV RX3 87 RX3 yX3_firstWrong wsX3_firstWrong) := goodIn_app (goodIn_of _ (by decide +kernel)) ggX3_stall_X3_firstWrong
set_option maxRecDepth 20000 in
theorem ggX3_stall_X3_playFrames : GoodIn wsX3_stall wsX3_playFrames := goodIn_r _ [30, 11, 31, 32, 33, 9, 34, 12, 35, 2, 19, 20, 21, 22, 23, 24, 25, 26, 36, 37, 38, 16, 39, 18, 40, 41, 42, 43, 44, 45, 46, 47, 48, 49, 50, 51, 52, 53, 54, 55, 56, 57, 58, 59, 60, 61, 62, 63, 64, 65, 66, 67, 68, 69, 70, 71, 72, 73, 74, 75, 76, 77, 78, 79, 80, 81, 82, 83, 84, 85, 86, 87, 88, 89] (by decide +kernel) (by decide +kernel)
set_option maxRecDepth 20000 in
theorem gX3_stall_X3_playFrames : GoodIn wsX3_stall (wsV RX3 78 RX3 yX3_playFrames wsX3_playFrames) := goodIn_app (goodIn_of _ (by decide +kernel)) ggX3_stall_X3_playFrames
theorem dX3_stall_0 : decode cX3_stall 0 = .ok (.aload_n 0, 1) := by decide +kernel
theorem dX3_stall_1 : decode cX3_stall 1 = .ok (.dup, 1) := by decide +kernel
theorem dX3_stall_2 : decode cX3_stall 2 = .ok (.getfield 84, 3) := by decide +kernel
theorem dX3_stall_5 : decode cX3_stall 5 = .ok (.iconst 1, 1) := by decide +kernel
theorem dX3_stall_6 : decode cX3_stall 6 = .ok (.iadd, 1) := by decide +kernel
theorem dX3_stall_7 : decode cX3_stall 7 = .ok (.putfield 84, 3) := by decide +kernel
theorem dX3_stall_10 : decode cX3_stall 10 = .ok (.aload_n 0, 1) := by decide +kernel
theorem dX3_stall_11 : decode cX3_stall 11 = .ok (.getfield 84, 3) := by decide +kernel
theorem dX3_stall_14 : decode cX3_stall 14 = .ok (.bipush 12, 2) := by decide +kernel
theorem dX3_stall_16 : decode cX3_stall 16 = .ok (.if_icmp .ne 30, 3) := by decide +kernel
theorem dX3_stall_19 : decode cX3_stall 19 = .ok (.aload_n 0, 1) := by decide +kernel
theorem dX3_stall_20 : decode cX3_stall 20 = .ok (.getfield 41, 3) := by decide +kernel
theorem dX3_stall_23 : decode cX3_stall 23 = .ok (.iconst 1, 1) := by decide +kernel
theorem dX3_stall_24 : decode cX3_stall 24 = .ok (.putfield 61, 3) := by decide +kernel
theorem dX3_stall_27 : decode cX3_stall 27 = .ok (.aload_n 0, 1) := by decide +kernel
theorem dX3_stall_28 : decode cX3_stall 28 = .ok (.aload_n 0, 1) := by decide +kernel
theorem dX3_stall_29 : decode cX3_stall 29 = .ok (.aload_n 0, 1) := by decide +kernel
theorem dX3_stall_30 : decode cX3_stall 30 = .ok (.getfield 41, 3) := by decide +kernel
theorem dX3_stall_33 : decode cX3_stall 33 = .ok (.getfield 58, 3) := by decide +kernel
theorem dX3_stall_36 : decode cX3_stall 36 = .ok (.invokevirtual 87, 3) := by decide +kernel
theorem dX3_stall_39 : decode cX3_stall 39 = .ok (.aload_n 0, 1) := by decide +kernel
theorem dX3_stall_40 : decode cX3_stall 40 = .ok (.getfield 51, 3) := by decide +kernel
theorem dX3_stall_43 : decode cX3_stall 43 = .ok (.invokevirtual 78, 3) := by decide +kernel
theorem dX3_stall_46 : decode cX3_stall 46 = .ok (.return_, 1) := by decide +kernel
set_option maxRecDepth 20000 in
theorem ggX3_playFrames_X3_inputsOf : GoodIn wsX3_playFrames wsX3_inputsOf := goodIn_r _ [6, 7, 8, 9, 51, 52, 53, 54, 55, 56, 57, 58, 59, 60, 61, 62, 63, 64] (by decide +kernel) (by decide +kernel)
set_option maxRecDepth 20000 in
theorem gX3_playFrames_X3_inputsOf : GoodIn wsX3_playFrames (wsV RX3 91 RX3 yX3_inputsOf wsX3_inputsOf) := goodIn_app (goodIn_of _ (by decide +kernel)) ggX3_playFrames_X3_inputsOf
set_option maxRecDepth 20000 in
theorem ggX3_playFrames_X1_use : GoodIn wsX3_playFrames wsX1_use := goodIn_r _ [14, 15, 16, 17, 65, 66, 67] (by decide +kernel) (by decide +kernel)
set_option maxRecDepth 20000 in
theorem gX3_playFrames_X1_use : GoodIn wsX3_playFrames (wsV RX3 95 RX1 yX1_use wsX1_use) := goodIn_app (goodIn_of _ (by decide +kernel)) ggX3_playFrames_X1_use
set_option maxRecDepth 20000 in
theorem ggX3_playFrames_X0_play : GoodIn wsX3_playFrames wsX0_play := goodIn_r _ [22, 23, 24, 25, 26, 21, 27, 28, 29, 30, 31, 32, 33, 34, 35, 36, 37, 38, 39, 40, 41, 42, 43, 44, 45, 46, 47, 48, 49, 50, 68, 69, 70, 71, 72, 73] (by decide +kernel) (by decide +kernel)
set_option maxRecDepth 20000 in
theorem gX3_playFrames_X0_play : GoodIn wsX3_playFrames (wsV RX3 98 RX0 yX0_play wsX0_play) := goodIn_app (goodIn_of _ (by decide +kernel)) ggX3_playFrames_X0_play
theorem dX3_playFrames_0 : decode cX3_playFrames 0 = .ok (.iload_n 1, 1) := by decide +kernel
theorem dX3_playFrames_1 : decode cX3_playFrames 1 = .ok (.istore_n 3, 1) := by decide +kernel
theorem dX3_playFrames_2 : decode cX3_playFrames 2 = .ok (.iload_n 3, 1) := by decide +kernel
theorem dX3_playFrames_3 : decode cX3_playFrames 3 = .ok (.iload_n 2, 1) := by decide +kernel
theorem dX3_playFrames_4 : decode cX3_playFrames 4 = .ok (.if_icmp .ge 35, 3) := by decide +kernel
theorem dX3_playFrames_7 : decode cX3_playFrames 7 = .ok (.aload_n 0, 1) := by decide +kernel
theorem dX3_playFrames_8 : decode cX3_playFrames 8 = .ok (.getfield 12, 3) := by decide +kernel
theorem dX3_playFrames_11 : decode cX3_playFrames 11 = .ok (.iload_n 3, 1) := by decide +kernel
theorem dX3_playFrames_12 : decode cX3_playFrames 12 = .ok (.aload_n 0, 1) := by decide +kernel
theorem dX3_playFrames_13 : decode cX3_playFrames 13 = .ok (.iconst 0, 1) := by decide +kernel
theorem dX3_playFrames_14 : decode cX3_playFrames 14 = .ok (.invokevirtual 91, 3) := by decide +kernel
theorem dX3_playFrames_17 : decode cX3_playFrames 17 = .ok (.iload_n 3, 1) := by decide +kernel
theorem dX3_playFrames_18 : decode cX3_playFrames 18 = .ok (.invokevirtual 95, 3) := by decide +kernel
theorem dX3_playFrames_21 : decode cX3_playFrames 21 = .ok (.aload_n 0, 1) := by decide +kernel
theorem dX3_playFrames_22 : decode cX3_playFrames 22 = .ok (.iconst 1, 1) := by decide +kernel
theorem dX3_playFrames_23 : decode cX3_playFrames 23 = .ok (.invokevirtual 91, 3) := by decide +kernel
theorem dX3_playFrames_26 : decode cX3_playFrames 26 = .ok (.iload_n 3, 1) := by decide +kernel
theorem dX3_playFrames_27 : decode cX3_playFrames 27 = .ok (.invokevirtual 95, 3) := by decide +kernel
theorem dX3_playFrames_30 : decode cX3_playFrames 30 = .ok (.invokevirtual 98, 3) := by decide +kernel
theorem dX3_playFrames_33 : decode cX3_playFrames 33 = .ok (.iinc 3 1, 3) := by decide +kernel
theorem dX3_playFrames_36 : decode cX3_playFrames 36 = .ok (.goto (-34), 3) := by decide +kernel
theorem dX3_playFrames_39 : decode cX3_playFrames 39 = .ok (.return_, 1) := by decide +kernel
set_option maxRecDepth 20000 in
theorem ggX3_firstWrong_X0_inputPlayed : GoodIn wsX3_firstWrong wsX0_inputPlayed := goodIn_r _ [9, 10, 33, 34] (by decide +kernel) (by decide +kernel)
set_option maxRecDepth 20000 in
theorem gX3_firstWrong_X0_inputPlayed : GoodIn wsX3_firstWrong (wsV RX3 102 RX0 yX0_inputPlayed wsX0_inputPlayed) := goodIn_app (goodIn_of _ (by decide +kernel)) ggX3_firstWrong_X0_inputPlayed
set_option maxRecDepth 20000 in
theorem ggX3_firstWrong_X1_use : GoodIn wsX3_firstWrong wsX1_use := goodIn_r _ [15, 16, 17, 18, 35, 36, 37] (by decide +kernel) (by decide +kernel)
set_option maxRecDepth 20000 in
theorem gX3_firstWrong_X1_use : GoodIn wsX3_firstWrong (wsV RX3 95 RX1 yX1_use wsX1_use) := goodIn_app (goodIn_of _ (by decide +kernel)) ggX3_firstWrong_X1_use
theorem dX3_firstWrong_0 : decode cX3_firstWrong 0 = .ok (.iload_n 1, 1) := by decide +kernel
theorem dX3_firstWrong_1 : decode cX3_firstWrong 1 = .ok (.istore_n 2, 1) := by decide +kernel
theorem dX3_firstWrong_2 : decode cX3_firstWrong 2 = .ok (.iload_n 2, 1) := by decide +kernel
theorem dX3_firstWrong_3 : decode cX3_firstWrong 3 = .ok (.aload_n 0, 1) := by decide +kernel
theorem dX3_firstWrong_4 : decode cX3_firstWrong 4 = .ok (.getfield 51, 3) := by decide +kernel
theorem dX3_firstWrong_7 : decode cX3_firstWrong 7 = .ok (.if_icmp .ge 40, 3) := by decide +kernel
theorem dX3_firstWrong_10 : decode cX3_firstWrong 10 = .ok (.aload_n 0, 1) := by decide +kernel
theorem dX3_firstWrong_11 : decode cX3_firstWrong 11 = .ok (.getfield 12, 3) := by decide +kernel
theorem dX3_firstWrong_14 : decode cX3_firstWrong 14 = .ok (.iconst 1, 1) := by decide +kernel
theorem dX3_firstWrong_15 : decode cX3_firstWrong 15 = .ok (.aload_n 0, 1) := by decide +kernel
theorem dX3_firstWrong_16 : decode cX3_firstWrong 16 = .ok (.getfield 18, 3) := by decide +kernel
theorem dX3_firstWrong_19 : decode cX3_firstWrong 19 = .ok (.isub, 1) := by decide +kernel
theorem dX3_firstWrong_20 : decode cX3_firstWrong 20 = .ok (.iload_n 2, 1) := by decide +kernel
theorem dX3_firstWrong_21 : decode cX3_firstWrong 21 = .ok (.aload_n 0, 1) := by decide +kernel
theorem dX3_firstWrong_22 : decode cX3_firstWrong 22 = .ok (.getfield 51, 3) := by decide +kernel
theorem dX3_firstWrong_25 : decode cX3_firstWrong 25 = .ok (.invokevirtual 102, 3) := by decide +kernel
theorem dX3_firstWrong_28 : decode cX3_firstWrong 28 = .ok (.aload_n 0, 1) := by decide +kernel
theorem dX3_firstWrong_29 : decode cX3_firstWrong 29 = .ok (.getfield 41, 3) := by decide +kernel
theorem dX3_firstWrong_32 : decode cX3_firstWrong 32 = .ok (.iload_n 2, 1) := by decide +kernel
theorem dX3_firstWrong_33 : decode cX3_firstWrong 33 = .ok (.invokevirtual 95, 3) := by decide +kernel
theorem dX3_firstWrong_36 : decode cX3_firstWrong 36 = .ok (.if_icmp .eq 5, 3) := by decide +kernel
theorem dX3_firstWrong_39 : decode cX3_firstWrong 39 = .ok (.iload_n 2, 1) := by decide +kernel
theorem dX3_firstWrong_40 : decode cX3_firstWrong 40 = .ok (.ireturn, 1) := by decide +kernel
theorem dX3_firstWrong_41 : decode cX3_firstWrong 41 = .ok (.iinc 2 1, 3) := by decide +kernel
theorem dX3_firstWrong_44 : decode cX3_firstWrong 44 = .ok (.goto (-42), 3) := by decide +kernel
theorem dX3_firstWrong_47 : decode cX3_firstWrong 47 = .ok (.aload_n 0, 1) := by decide +kernel
theorem dX3_firstWrong_48 : decode cX3_firstWrong 48 = .ok (.getfield 51, 3) := by decide +kernel
theorem dX3_firstWrong_51 : decode cX3_firstWrong 51 = .ok (.ireturn, 1) := by decide +kernel
set_option maxRecDepth 20000 in
theorem ggX3_sendPacket_X4_addLast : GoodIn wsX3_sendPacket wsX4_addLast := goodIn_r _ [16, 17, 18, 71, 72] (by decide +kernel) (by decide +kernel)
set_option maxRecDepth 20000 in
theorem gX3_sendPacket_X4_addLast : GoodIn wsX3_sendPacket (wsV RX3 106 RX4 yX4_addLast wsX4_addLast) := goodIn_app (goodIn_of _ (by decide +kernel)) ggX3_sendPacket_X4_addLast
set_option maxRecDepth 20000 in
theorem ggX3_sendPacket_X2_carry : GoodIn wsX3_sendPacket wsX2_carry := goodIn_r _ [23, 24, 25, 26, 27, 28, 29, 30, 31, 32, 33, 34, 35, 36, 37, 38, 39, 61, 62, 63, 64, 65, 66, 67, 68, 69, 70] (by decide +kernel) (by decide +kernel)
set_option maxRecDepth 20000 in
theorem gX3_sendPacket_X2_carry : GoodIn wsX3_sendPacket (wsV RX3 123 RX2 yX2_carry wsX2_carry) := goodIn_app (goodIn_of _ (by decide +kernel)) ggX3_sendPacket_X2_carry
set_option maxRecDepth 20000 in
theorem ggX3_sendPacket_X2_rightCheck : GoodIn wsX3_sendPacket wsX2_rightCheck := goodIn_r _ [43, 44, 45, 46, 24, 30, 31, 61, 62, 63, 64, 65, 66, 67] (by decide +kernel) (by decide +kernel)
set_option maxRecDepth 20000 in
theorem gX3_sendPacket_X2_rightCheck : GoodIn wsX3_sendPacket (wsV RX3 127 RX2 yX2_rightCheck wsX2_rightCheck) := goodIn_app (goodIn_of _ (by decide +kernel)) ggX3_sendPacket_X2_rightCheck
theorem dX3_sendPacket_0 : decode cX3_sendPacket 0 = .ok (.aload_n 0, 1) := by decide +kernel
theorem dX3_sendPacket_1 : decode cX3_sendPacket 1 = .ok (.getfield 47, 3) := by decide +kernel
theorem dX3_sendPacket_4 : decode cX3_sendPacket 4 = .ok (.istore_n 1, 1) := by decide +kernel
theorem dX3_sendPacket_5 : decode cX3_sendPacket 5 = .ok (.aload_n 0, 1) := by decide +kernel
theorem dX3_sendPacket_6 : decode cX3_sendPacket 6 = .ok (.iload_n 1, 1) := by decide +kernel
theorem dX3_sendPacket_7 : decode cX3_sendPacket 7 = .ok (.iconst 1, 1) := by decide +kernel
theorem dX3_sendPacket_8 : decode cX3_sendPacket 8 = .ok (.iadd, 1) := by decide +kernel
theorem dX3_sendPacket_9 : decode cX3_sendPacket 9 = .ok (.i2s, 1) := by decide +kernel
theorem dX3_sendPacket_10 : decode cX3_sendPacket 10 = .ok (.putfield 47, 3) := by decide +kernel
theorem dX3_sendPacket_13 : decode cX3_sendPacket 13 = .ok (.aload_n 0, 1) := by decide +kernel
theorem dX3_sendPacket_14 : decode cX3_sendPacket 14 = .ok (.getfield 29, 3) := by decide +kernel
theorem dX3_sendPacket_17 : decode cX3_sendPacket 17 = .ok (.invokevirtual 106, 3) := by decide +kernel
theorem dX3_sendPacket_20 : decode cX3_sendPacket 20 = .ok (.astore_n 2, 1) := by decide +kernel
theorem dX3_sendPacket_21 : decode cX3_sendPacket 21 = .ok (.aload_n 2, 1) := by decide +kernel
theorem dX3_sendPacket_22 : decode cX3_sendPacket 22 = .ok (.ifnull 47, 3) := by decide +kernel
theorem dX3_sendPacket_25 : decode cX3_sendPacket 25 = .ok (.aload_n 2, 1) := by decide +kernel
theorem dX3_sendPacket_26 : decode cX3_sendPacket 26 = .ok (.iload_n 1, 1) := by decide +kernel
theorem dX3_sendPacket_27 : decode cX3_sendPacket 27 = .ok (.putfield 112, 3) := by decide +kernel
theorem dX3_sendPacket_30 : decode cX3_sendPacket 30 = .ok (.aload_n 2, 1) := by decide +kernel
theorem dX3_sendPacket_31 : decode cX3_sendPacket 31 = .ok (.aload_n 0, 1) := by decide +kernel
theorem dX3_sendPacket_32 : decode cX3_sendPacket 32 = .ok (.getfield 51, 3) := by decide +kernel
theorem dX3_sendPacket_35 : decode cX3_sendPacket 35 = .ok (.putfield 117, 3) := by decide +kernel
theorem dX3_sendPacket_38 : decode cX3_sendPacket 38 = .ok (.aload_n 2, 1) := by decide +kernel
theorem dX3_sendPacket_39 : decode cX3_sendPacket 39 = .ok (.aload_n 0, 1) := by decide +kernel
theorem dX3_sendPacket_40 : decode cX3_sendPacket 40 = .ok (.getfield 41, 3) := by decide +kernel
theorem dX3_sendPacket_43 : decode cX3_sendPacket 43 = .ok (.getfield 58, 3) := by decide +kernel
theorem dX3_sendPacket_46 : decode cX3_sendPacket 46 = .ok (.putfield 120, 3) := by decide +kernel
theorem dX3_sendPacket_49 : decode cX3_sendPacket 49 = .ok (.aload_n 2, 1) := by decide +kernel
theorem dX3_sendPacket_50 : decode cX3_sendPacket 50 = .ok (.aload_n 0, 1) := by decide +kernel
theorem dX3_sendPacket_51 : decode cX3_sendPacket 51 = .ok (.getfield 37, 3) := by decide +kernel
theorem dX3_sendPacket_54 : decode cX3_sendPacket 54 = .ok (.aload_n 0, 1) := by decide +kernel
theorem dX3_sendPacket_55 : decode cX3_sendPacket 55 = .ok (.getfield 44, 3) := by decide +kernel
theorem dX3_sendPacket_58 : decode cX3_sendPacket 58 = .ok (.invokevirtual 123, 3) := by decide +kernel
theorem dX3_sendPacket_61 : decode cX3_sendPacket 61 = .ok (.aload_n 2, 1) := by decide +kernel
theorem dX3_sendPacket_62 : decode cX3_sendPacket 62 = .ok (.aload_n 2, 1) := by decide +kernel
theorem dX3_sendPacket_63 : decode cX3_sendPacket 63 = .ok (.invokevirtual 127, 3) := by decide +kernel
theorem dX3_sendPacket_66 : decode cX3_sendPacket 66 = .ok (.putfield 131, 3) := by decide +kernel
theorem dX3_sendPacket_69 : decode cX3_sendPacket 69 = .ok (.return_, 1) := by decide +kernel
set_option maxRecDepth 20000 in
theorem ggX3_receive_X3_takes : GoodIn wsX3_receive wsX3_takes := goodIn_r _ [19, 14, 20, 21, 1, 2, 3, 22, 23, 24, 25, 26, 27, 28, 29, 30, 31, 32, 110, 111, 112, 113, 114, 115, 116, 117, 118, 119, 120, 121, 122, 123, 131, 132, 133, 124, 125, 126, 127, 128, 129, 130] (by decide +kernel) (by decide +kernel)
set_option maxRecDepth 20000 in
theorem gX3_receive_X3_takes : GoodIn wsX3_receive (wsV RX3 134 RX3 yX3_takes wsX3_takes) := goodIn_app (goodIn_of _ (by decide +kernel)) ggX3_receive_X3_takes
set_option maxRecDepth 20000 in
theorem ggX3_receive_X3_learnFrom : GoodIn wsX3_receive wsX3_learnFrom := goodIn_r _ [36, 37, 38, 39, 40, 41, 42, 14, 13, 8, 43, 44, 45, 25, 46, 32, 47, 48, 49, 50, 51, 52, 53, 124, 125, 126, 127, 128, 129, 130, 110, 111, 112, 113, 114, 115, 116, 117, 118, 119, 120, 121, 122, 123, 131, 132, 133] (by decide +kernel) (by decide +kernel)
set_option maxRecDepth 20000 in
theorem gX3_receive_X3_learnFrom : GoodIn wsX3_receive (wsV RX3 150 RX3 yX3_learnFrom wsX3_learnFrom) := goodIn_app (goodIn_of _ (by decide +kernel)) ggX3_receive_X3_learnFrom
set_option maxRecDepth 20000 in
theorem ggX3_receive_X3_firstWrong : GoodIn wsX3_receive wsX3_firstWrong := goodIn_r _ [57, 8, 58, 59, 14, 60, 61, 62, 63, 64, 65, 66, 67, 68, 50, 69, 53, 52, 70, 110, 111, 112, 113, 114, 115, 116, 117, 118, 119, 120, 121, 122, 123, 134, 135, 131, 132, 133] (by decide +kernel) (by decide +kernel)
set_option maxRecDepth 20000 in
theorem gX3_receive_X3_firstWrong : GoodIn wsX3_receive (wsV RX3 87 RX3 yX3_firstWrong wsX3_firstWrong) := goodIn_app (goodIn_of _ (by decide +kernel)) ggX3_receive_X3_firstWrong
set_option maxRecDepth 20000 in
theorem ggX3_receive_X3_playFrames : GoodIn wsX3_receive wsX3_playFrames := goodIn_r _ [74, 58, 75, 76, 77, 18, 78, 59, 12, 14, 66, 67, 68, 50, 69, 53, 52, 70, 79, 80, 81, 63, 82, 65, 83, 84, 85, 86, 87, 88, 89, 90, 91, 92, 93, 94, 95, 96, 97, 98, 99, 100, 101, 102, 103, 104, 105, 106, 107, 108, 109, 110, 111, 112, 113, 114, 115, 116, 117, 118, 119, 120, 121, 122, 123, 131, 132, 133, 134, 135, 136, 137, 138, 139] (by decide +kernel) (by decide +kernel)
set_option maxRecDepth 20000 in
theorem gX3_receive_X3_playFrames : GoodIn wsX3_receive (wsV RX3 78 RX3 yX3_playFrames wsX3_playFrames) := goodIn_app (goodIn_of _ (by decide +kernel)) ggX3_receive_X3_playFrames
theorem dX3_receive_0 : decode cX3_receive 0 = .ok (.aload_n 0, 1) := by decide +kernel
theorem dX3_receive_1 : decode cX3_receive 1 = .ok (.aload_n 1, 1) := by decide +kernel
theorem dX3_receive_2 : decode cX3_receive 2 = .ok (.invokevirtual 134, 3) := by decide +kernel
theorem dX3_receive_5 : decode cX3_receive 5 = .ok (.ifCond .ne 6, 3) := by decide +kernel
theorem dX3_receive_8 : decode cX3_receive 8 = .ok (.bipush (-2), 2) := by decide +kernel
theorem dX3_receive_10 : decode cX3_receive 10 = .ok (.ireturn, 1) := by decide +kernel
theorem dX3_receive_11 : decode cX3_receive 11 = .ok (.aload_n 0, 1) := by decide +kernel
theorem dX3_receive_12 : decode cX3_receive 12 = .ok (.iconst 1, 1) := by decide +kernel
theorem dX3_receive_13 : decode cX3_receive 13 = .ok (.putfield 138, 3) := by decide +kernel
theorem dX3_receive_16 : decode cX3_receive 16 = .ok (.aload_n 0, 1) := by decide +kernel
theorem dX3_receive_17 : decode cX3_receive 17 = .ok (.aload_n 1, 1) := by decide +kernel
theorem dX3_receive_18 : decode cX3_receive 18 = .ok (.getfield 112, 3) := by decide +kernel
theorem dX3_receive_21 : decode cX3_receive 21 = .ok (.putfield 141, 3) := by decide +kernel
theorem dX3_receive_24 : decode cX3_receive 24 = .ok (.aload_n 0, 1) := by decide +kernel
theorem dX3_receive_25 : decode cX3_receive 25 = .ok (.iconst 0, 1) := by decide +kernel
theorem dX3_receive_26 : decode cX3_receive 26 = .ok (.putfield 84, 3) := by decide +kernel
theorem dX3_receive_29 : decode cX3_receive 29 = .ok (.aload_n 0, 1) := by decide +kernel
theorem dX3_receive_30 : decode cX3_receive 30 = .ok (.aload_n 0, 1) := by decide +kernel
theorem dX3_receive_31 : decode cX3_receive 31 = .ok (.getfield 144, 3) := by decide +kernel
theorem dX3_receive_34 : decode cX3_receive 34 = .ok (.ldc 148, 2) := by decide +kernel
theorem dX3_receive_36 : decode cX3_receive 36 = .ok (.fmul, 1) := by decide +kernel
theorem dX3_receive_37 : decode cX3_receive 37 = .ok (.ldc 149, 2) := by decide +kernel
theorem dX3_receive_39 : decode cX3_receive 39 = .ok (.aload_n 0, 1) := by decide +kernel
theorem dX3_receive_40 : decode cX3_receive 40 = .ok (.getfield 51, 3) := by decide +kernel
theorem dX3_receive_43 : decode cX3_receive 43 = .ok (.aload_n 1, 1) := by decide +kernel
theorem dX3_receive_44 : decode cX3_receive 44 = .ok (.getfield 117, 3) := by decide +kernel
theorem dX3_receive_47 : decode cX3_receive 47 = .ok (.isub, 1) := by decide +kernel
theorem dX3_receive_48 : decode cX3_receive 48 = .ok (.i2f, 1) := by decide +kernel
theorem dX3_receive_49 : decode cX3_receive 49 = .ok (.fmul, 1) := by decide +kernel
theorem dX3_receive_50 : decode cX3_receive 50 = .ok (.fadd, 1) := by decide +kernel
theorem dX3_receive_51 : decode cX3_receive 51 = .ok (.putfield 144, 3) := by decide +kernel
theorem dX3_receive_54 : decode cX3_receive 54 = .ok (.aload_n 1, 1) := by decide +kernel
theorem dX3_receive_55 : decode cX3_receive 55 = .ok (.getfield 120, 3) := by decide +kernel
theorem dX3_receive_58 : decode cX3_receive 58 = .ok (.aload_n 0, 1) := by decide +kernel
theorem dX3_receive_59 : decode cX3_receive 59 = .ok (.getfield 44, 3) := by decide +kernel
theorem dX3_receive_62 : decode cX3_receive 62 = .ok (.if_icmp .le 25, 3) := by decide +kernel
theorem dX3_receive_65 : decode cX3_receive 65 = .ok (.aload_n 1, 1) := by decide +kernel
theorem dX3_receive_66 : decode cX3_receive 66 = .ok (.getfield 120, 3) := by decide +kernel
theorem dX3_receive_69 : decode cX3_receive 69 = .ok (.aload_n 0, 1) := by decide +kernel
theorem dX3_receive_70 : decode cX3_receive 70 = .ok (.getfield 37, 3) := by decide +kernel
theorem dX3_receive_73 : decode cX3_receive 73 = .ok (.getfield 58, 3) := by decide +kernel
theorem dX3_receive_76 : decode cX3_receive 76 = .ok (.if_icmp .gt 11, 3) := by decide +kernel
theorem dX3_receive_79 : decode cX3_receive 79 = .ok (.aload_n 0, 1) := by decide +kernel
theorem dX3_receive_80 : decode cX3_receive 80 = .ok (.aload_n 1, 1) := by decide +kernel
theorem dX3_receive_81 : decode cX3_receive 81 = .ok (.getfield 120, 3) := by decide +kernel
theorem dX3_receive_84 : decode cX3_receive 84 = .ok (.putfield 44, 3) := by decide +kernel
theorem dX3_receive_87 : decode cX3_receive 87 = .ok (.aload_n 0, 1) := by decide +kernel
theorem dX3_receive_88 : decode cX3_receive 88 = .ok (.getfield 41, 3) := by decide +kernel
theorem dX3_receive_91 : decode cX3_receive 91 = .ok (.getfield 58, 3) := by decide +kernel
theorem dX3_receive_94 : decode cX3_receive 94 = .ok (.istore_n 2, 1) := by decide +kernel
theorem dX3_receive_95 : decode cX3_receive 95 = .ok (.aload_n 0, 1) := by decide +kernel
theorem dX3_receive_96 : decode cX3_receive 96 = .ok (.aload_n 1, 1) := by decide +kernel
theorem dX3_receive_97 : decode cX3_receive 97 = .ok (.invokevirtual 150, 3) := by decide +kernel
theorem dX3_receive_100 : decode cX3_receive 100 = .ok (.aload_n 0, 1) := by decide +kernel
theorem dX3_receive_101 : decode cX3_receive 101 = .ok (.iload_n 2, 1) := by decide +kernel
theorem dX3_receive_102 : decode cX3_receive 102 = .ok (.invokevirtual 87, 3) := by decide +kernel
theorem dX3_receive_105 : decode cX3_receive 105 = .ok (.istore_n 3, 1) := by decide +kernel
theorem dX3_receive_106 : decode cX3_receive 106 = .ok (.aload_n 0, 1) := by decide +kernel
theorem dX3_receive_107 : decode cX3_receive 107 = .ok (.iload_n 3, 1) := by decide +kernel
theorem dX3_receive_108 : decode cX3_receive 108 = .ok (.aload_n 0, 1) := by decide +kernel
theorem dX3_receive_109 : decode cX3_receive 109 = .ok (.getfield 51, 3) := by decide +kernel
theorem dX3_receive_112 : decode cX3_receive 112 = .ok (.invokevirtual 78, 3) := by decide +kernel
theorem dX3_receive_115 : decode cX3_receive 115 = .ok (.aload_n 0, 1) := by decide +kernel
theorem dX3_receive_116 : decode cX3_receive 116 = .ok (.getfield 51, 3) := by decide +kernel
theorem dX3_receive_119 : decode cX3_receive 119 = .ok (.iload_n 3, 1) := by decide +kernel
theorem dX3_receive_120 : decode cX3_receive 120 = .ok (.isub, 1) := by decide +kernel
theorem dX3_receive_121 : decode cX3_receive 121 = .ok (.ireturn, 1) := by decide +kernel
set_option maxRecDepth 20000 in
theorem ggX3_takes_X2_rightCheck : GoodIn wsX3_takes wsX2_rightCheck := goodIn_r _ [11, 12, 13, 14, 15, 16, 17, 35, 36, 37, 38, 39, 40, 41] (by decide +kernel) (by decide +kernel)
set_option maxRecDepth 20000 in
theorem gX3_takes_X2_rightCheck : GoodIn wsX3_takes (wsV RX3 127 RX2 yX2_rightCheck wsX2_rightCheck) := goodIn_app (goodIn_of _ (by decide +kernel)) ggX3_takes_X2_rightCheck
theorem dX3_takes_0 : decode cX3_takes 0 = .ok (.aload_n 0, 1) := by decide +kernel
theorem dX3_takes_1 : decode cX3_takes 1 = .ok (.getfield 41, 3) := by decide +kernel
theorem dX3_takes_4 : decode cX3_takes 4 = .ok (.getfield 61, 3) := by decide +kernel
theorem dX3_takes_7 : decode cX3_takes 7 = .ok (.ifCond .ne 14, 3) := by decide +kernel
theorem dX3_takes_10 : decode cX3_takes 10 = .ok (.aload_n 1, 1) := by decide +kernel
theorem dX3_takes_11 : decode cX3_takes 11 = .ok (.getfield 131, 3) := by decide +kernel
theorem dX3_takes_14 : decode cX3_takes 14 = .ok (.aload_n 1, 1) := by decide +kernel
theorem dX3_takes_15 : decode cX3_takes 15 = .ok (.invokevirtual 127, 3) := by decide +kernel
theorem dX3_takes_18 : decode cX3_takes 18 = .ok (.if_icmp .eq 5, 3) := by decide +kernel
theorem dX3_takes_21 : decode cX3_takes 21 = .ok (.iconst 0, 1) := by decide +kernel
theorem dX3_takes_22 : decode cX3_takes 22 = .ok (.ireturn, 1) := by decide +kernel
theorem dX3_takes_23 : decode cX3_takes 23 = .ok (.aload_n 0, 1) := by decide +kernel
theorem dX3_takes_24 : decode cX3_takes 24 = .ok (.getfield 138, 3) := by decide +kernel
theorem dX3_takes_27 : decode cX3_takes 27 = .ok (.ifCond .eq 16, 3) := by decide +kernel
theorem dX3_takes_30 : decode cX3_takes 30 = .ok (.aload_n 1, 1) := by decide +kernel
theorem dX3_takes_31 : decode cX3_takes 31 = .ok (.getfield 112, 3) := by decide +kernel
theorem dX3_takes_34 : decode cX3_takes 34 = .ok (.aload_n 0, 1) := by decide +kernel
theorem dX3_takes_35 : decode cX3_takes 35 = .ok (.getfield 141, 3) := by decide +kernel
theorem dX3_takes_38 : decode cX3_takes 38 = .ok (.isub, 1) := by decide +kernel
theorem dX3_takes_39 : decode cX3_takes 39 = .ok (.i2s, 1) := by decide +kernel
theorem dX3_takes_40 : decode cX3_takes 40 = .ok (.ifCond .le 7, 3) := by decide +kernel
theorem dX3_takes_43 : decode cX3_takes 43 = .ok (.iconst 1, 1) := by decide +kernel
theorem dX3_takes_44 : decode cX3_takes 44 = .ok (.goto 4, 3) := by decide +kernel
theorem dX3_takes_47 : decode cX3_takes 47 = .ok (.iconst 0, 1) := by decide +kernel
theorem dX3_takes_48 : decode cX3_takes 48 = .ok (.ireturn, 1) := by decide +kernel
set_option maxRecDepth 20000 in
theorem ggX3_learnFrom_X2_input : GoodIn wsX3_learnFrom wsX2_input := goodIn_r _ [14, 15, 23, 24, 25, 26, 27, 28, 29] (by decide +kernel) (by decide +kernel)
set_option maxRecDepth 20000 in
theorem gX3_learnFrom_X2_input : GoodIn wsX3_learnFrom (wsV RX3 158 RX2 yX2_input wsX2_input) := goodIn_app (goodIn_of _ (by decide +kernel)) ggX3_learnFrom_X2_input
set_option maxRecDepth 20000 in
theorem ggX3_learnFrom_X1_learn : GoodIn wsX3_learnFrom wsX1_learn := goodIn_r _ [20, 21, 22, 44, 45, 46] (by decide +kernel) (by decide +kernel)
set_option maxRecDepth 20000 in
theorem gX3_learnFrom_X1_learn : GoodIn wsX3_learnFrom (wsV RX3 74 RX1 yX1_learn wsX1_learn) := goodIn_app (goodIn_of _ (by decide +kernel)) ggX3_learnFrom_X1_learn
theorem dX3_learnFrom_0 : decode cX3_learnFrom 0 = .ok (.bipush 16, 2) := by decide +kernel
theorem dX3_learnFrom_2 : decode cX3_learnFrom 2 = .ok (.aload_n 1, 1) := by decide +kernel
theorem dX3_learnFrom_3 : decode cX3_learnFrom 3 = .ok (.getfield 154, 3) := by decide +kernel
theorem dX3_learnFrom_6 : decode cX3_learnFrom 6 = .ok (.invokestatic 65, 3) := by decide +kernel
theorem dX3_learnFrom_9 : decode cX3_learnFrom 9 = .ok (.istore_n 2, 1) := by decide +kernel
theorem dX3_learnFrom_10 : decode cX3_learnFrom 10 = .ok (.iconst 0, 1) := by decide +kernel
theorem dX3_learnFrom_11 : decode cX3_learnFrom 11 = .ok (.istore_n 3, 1) := by decide +kernel
theorem dX3_learnFrom_12 : decode cX3_learnFrom 12 = .ok (.iload_n 3, 1) := by decide +kernel
theorem dX3_learnFrom_13 : decode cX3_learnFrom 13 = .ok (.iload_n 2, 1) := by decide +kernel
theorem dX3_learnFrom_14 : decode cX3_learnFrom 14 = .ok (.if_icmp .ge 53, 3) := by decide +kernel
theorem dX3_learnFrom_17 : decode cX3_learnFrom 17 = .ok (.aload_n 1, 1) := by decide +kernel
theorem dX3_learnFrom_18 : decode cX3_learnFrom 18 = .ok (.getfield 155, 3) := by decide +kernel
theorem dX3_learnFrom_21 : decode cX3_learnFrom 21 = .ok (.iload_n 3, 1) := by decide +kernel
theorem dX3_learnFrom_22 : decode cX3_learnFrom 22 = .ok (.iadd, 1) := by decide +kernel
theorem dX3_learnFrom_23 : decode cX3_learnFrom 23 = .ok (.istore 4, 2) := by decide +kernel
theorem dX3_learnFrom_25 : decode cX3_learnFrom 25 = .ok (.iload 4, 2) := by decide +kernel
theorem dX3_learnFrom_27 : decode cX3_learnFrom 27 = .ok (.aload_n 0, 1) := by decide +kernel
theorem dX3_learnFrom_28 : decode cX3_learnFrom 28 = .ok (.getfield 41, 3) := by decide +kernel
theorem dX3_learnFrom_31 : decode cX3_learnFrom 31 = .ok (.getfield 58, 3) := by decide +kernel
theorem dX3_learnFrom_34 : decode cX3_learnFrom 34 = .ok (.if_icmp .ne 27, 3) := by decide +kernel
theorem dX3_learnFrom_37 : decode cX3_learnFrom 37 = .ok (.iload 4, 2) := by decide +kernel
theorem dX3_learnFrom_39 : decode cX3_learnFrom 39 = .ok (.aload_n 0, 1) := by decide +kernel
theorem dX3_learnFrom_40 : decode cX3_learnFrom 40 = .ok (.getfield 51, 3) := by decide +kernel
theorem dX3_learnFrom_43 : decode cX3_learnFrom 43 = .ok (.isub, 1) := by decide +kernel
theorem dX3_learnFrom_44 : decode cX3_learnFrom 44 = .ok (.bipush 20, 2) := by decide +kernel
theorem dX3_learnFrom_46 : decode cX3_learnFrom 46 = .ok (.if_icmp .ge 15, 3) := by decide +kernel
theorem dX3_learnFrom_49 : decode cX3_learnFrom 49 = .ok (.aload_n 0, 1) := by decide +kernel
theorem dX3_learnFrom_50 : decode cX3_learnFrom 50 = .ok (.getfield 41, 3) := by decide +kernel
theorem dX3_learnFrom_53 : decode cX3_learnFrom 53 = .ok (.aload_n 1, 1) := by decide +kernel
theorem dX3_learnFrom_54 : decode cX3_learnFrom 54 = .ok (.iload_n 3, 1) := by decide +kernel
theorem dX3_learnFrom_55 : decode cX3_learnFrom 55 = .ok (.invokevirtual 158, 3) := by decide +kernel
theorem dX3_learnFrom_58 : decode cX3_learnFrom 58 = .ok (.invokevirtual 74, 3) := by decide +kernel
theorem dX3_learnFrom_61 : decode cX3_learnFrom 61 = .ok (.iinc 3 1, 3) := by decide +kernel
theorem dX3_learnFrom_64 : decode cX3_learnFrom 64 = .ok (.goto (-52), 3) := by decide +kernel
theorem dX3_learnFrom_67 : decode cX3_learnFrom 67 = .ok (.return_, 1) := by decide +kernel
