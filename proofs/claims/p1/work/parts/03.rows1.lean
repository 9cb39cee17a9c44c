theorem dX3_beginParts_16 : decode cX3_beginParts 16 = .ok (.iconst 0, 1) := by decide +kernel
theorem dX3_beginParts_17 : decode cX3_beginParts 17 = .ok (.putfield 207, 3) := by decide +kernel
theorem dX3_beginParts_20 : decode cX3_beginParts 20 = .ok (.aload_n 0, 1) := by decide +kernel
theorem dX3_beginParts_21 : decode cX3_beginParts 21 = .ok (.bipush 6, 2) := by decide +kernel
theorem dX3_beginParts_23 : decode cX3_beginParts 23 = .ok (.invokevirtual 89, 3) := by decide +kernel
theorem dX3_beginParts_26 : decode cX3_beginParts 26 = .ok (.ireturn, 1) := by decide +kernel
set_option maxRecDepth 20000 in
theorem ggX3_takePart_X3_isName : GoodIn wsX3_takePart wsX3_isName := goodIn_r _ [11, 3, 12, 4, 13, 14, 15, 16, 17, 18, 19, 20, 10, 21, 22, 46, 47, 48, 49, 50, 51, 52, 53, 54, 55, 56, 57, 58, 59, 60, 61, 62, 63, 64, 65, 66, 67, 68, 69] (by decide +kernel) (by decide +kernel)
set_option maxRecDepth 20000 in
theorem gX3_takePart_X3_isName : GoodIn wsX3_takePart (wsV RX3 134 RX3 yX3_isName wsX3_isName) := goodIn_app (goodIn_of _ (by decide +kernel)) ggX3_takePart_X3_isName
set_option maxRecDepth 20000 in
theorem ggX3_takePart_X3_refuse : GoodIn wsX3_takePart wsX3_refuse := goodIn_r _ [26, 3, 12, 5, 27, 28, 29, 10, 30, 31, 32, 46, 47, 48, 49, 50, 51, 52, 53, 54, 55, 56, 57, 58, 59, 60, 61, 62, 63, 64, 65, 66, 67, 68, 69] (by decide +kernel) (by decide +kernel)
set_option maxRecDepth 20000 in
theorem gX3_takePart_X3_refuse : GoodIn wsX3_takePart (wsV RX3 80 RX3 yX3_refuse wsX3_refuse) := goodIn_app (goodIn_of _ (by decide +kernel)) ggX3_takePart_X3_refuse
set_option maxRecDepth 20000 in
theorem ggX3_takePart_X3_addUse : GoodIn wsX3_takePart wsX3_addUse := goodIn_r _ [36, 37, 38, 39, 40, 46, 47, 48, 49, 50, 51, 52, 53, 54, 55, 56, 57, 58, 59, 60, 61, 62] (by decide +kernel) (by decide +kernel)
set_option maxRecDepth 20000 in
theorem gX3_takePart_X3_addUse : GoodIn wsX3_takePart (wsV RX3 195 RX3 yX3_addUse wsX3_addUse) := goodIn_app (goodIn_of _ (by decide +kernel)) ggX3_takePart_X3_addUse
set_option maxRecDepth 20000 in
theorem ggX3_takePart_X3_go : GoodIn wsX3_takePart wsX3_go := goodIn_r _ [44, 45, 46, 47, 48, 49, 50, 51, 52, 53, 54, 55, 56, 57, 58, 59, 60, 61, 62] (by decide +kernel) (by decide +kernel)
set_option maxRecDepth 20000 in
theorem gX3_takePart_X3_go : GoodIn wsX3_takePart (wsV RX3 89 RX3 yX3_go wsX3_go) := goodIn_app (goodIn_of _ (by decide +kernel)) ggX3_takePart_X3_go
theorem dX3_takePart_0 : decode cX3_takePart 0 = .ok (.aload_n 0, 1) := by decide +kernel
theorem dX3_takePart_1 : decode cX3_takePart 1 = .ok (.invokevirtual 134, 3) := by decide +kernel
theorem dX3_takePart_4 : decode cX3_takePart 4 = .ok (.ifCond .eq 14, 3) := by decide +kernel
theorem dX3_takePart_7 : decode cX3_takePart 7 = .ok (.aload_n 0, 1) := by decide +kernel
theorem dX3_takePart_8 : decode cX3_takePart 8 = .ok (.getfield 207, 3) := by decide +kernel
theorem dX3_takePart_11 : decode cX3_takePart 11 = .ok (.aload_n 0, 1) := by decide +kernel
theorem dX3_takePart_12 : decode cX3_takePart 12 = .ok (.getfield 204, 3) := by decide +kernel
theorem dX3_takePart_15 : decode cX3_takePart 15 = .ok (.if_icmp .lt 8, 3) := by decide +kernel
theorem dX3_takePart_18 : decode cX3_takePart 18 = .ok (.aload_n 0, 1) := by decide +kernel
theorem dX3_takePart_19 : decode cX3_takePart 19 = .ok (.invokevirtual 80, 3) := by decide +kernel
theorem dX3_takePart_22 : decode cX3_takePart 22 = .ok (.ireturn, 1) := by decide +kernel
theorem dX3_takePart_23 : decode cX3_takePart 23 = .ok (.aload_n 0, 1) := by decide +kernel
theorem dX3_takePart_24 : decode cX3_takePart 24 = .ok (.aload_n 0, 1) := by decide +kernel
theorem dX3_takePart_25 : decode cX3_takePart 25 = .ok (.getfield 18, 3) := by decide +kernel
theorem dX3_takePart_28 : decode cX3_takePart 28 = .ok (.getfield 137, 3) := by decide +kernel
theorem dX3_takePart_31 : decode cX3_takePart 31 = .ok (.aload_n 0, 1) := by decide +kernel
theorem dX3_takePart_32 : decode cX3_takePart 32 = .ok (.getfield 18, 3) := by decide +kernel
theorem dX3_takePart_35 : decode cX3_takePart 35 = .ok (.getfield 114, 3) := by decide +kernel
theorem dX3_takePart_38 : decode cX3_takePart 38 = .ok (.aload_n 0, 1) := by decide +kernel
theorem dX3_takePart_39 : decode cX3_takePart 39 = .ok (.getfield 198, 3) := by decide +kernel
theorem dX3_takePart_42 : decode cX3_takePart 42 = .ok (.invokevirtual 195, 3) := by decide +kernel
theorem dX3_takePart_45 : decode cX3_takePart 45 = .ok (.aload_n 0, 1) := by decide +kernel
theorem dX3_takePart_46 : decode cX3_takePart 46 = .ok (.dup, 1) := by decide +kernel
theorem dX3_takePart_47 : decode cX3_takePart 47 = .ok (.getfield 207, 3) := by decide +kernel
theorem dX3_takePart_50 : decode cX3_takePart 50 = .ok (.iconst 1, 1) := by decide +kernel
theorem dX3_takePart_51 : decode cX3_takePart 51 = .ok (.iadd, 1) := by decide +kernel
theorem dX3_takePart_52 : decode cX3_takePart 52 = .ok (.putfield 207, 3) := by decide +kernel
theorem dX3_takePart_55 : decode cX3_takePart 55 = .ok (.aload_n 0, 1) := by decide +kernel
theorem dX3_takePart_56 : decode cX3_takePart 56 = .ok (.bipush 8, 2) := by decide +kernel
theorem dX3_takePart_58 : decode cX3_takePart 58 = .ok (.invokevirtual 89, 3) := by decide +kernel
theorem dX3_takePart_61 : decode cX3_takePart 61 = .ok (.ireturn, 1) := by decide +kernel
set_option maxRecDepth 20000 in
theorem ggX3_behindPart_X3_go : GoodIn wsX3_behindPart wsX3_go := goodIn_r _ [11, 12, 24, 25, 26, 27, 28, 29, 30, 31, 32, 33, 34, 35, 36, 37, 38, 39, 40] (by decide +kernel) (by decide +kernel)
set_option maxRecDepth 20000 in
theorem gX3_behindPart_X3_go : GoodIn wsX3_behindPart (wsV RX3 89 RX3 yX3_go wsX3_go) := goodIn_app (goodIn_of _ (by decide +kernel)) ggX3_behindPart_X3_go
set_option maxRecDepth 20000 in
theorem ggX3_behindPart_X3_refuse : GoodIn wsX3_behindPart wsX3_refuse := goodIn_r _ [16, 1, 2, 17, 18, 19, 20, 10, 21, 22, 23, 24, 25, 26, 27, 28, 29, 30, 31, 32, 33, 34, 35, 36, 37, 38, 39, 40, 41, 42, 43, 44, 45, 46, 47] (by decide +kernel) (by decide +kernel)
set_option maxRecDepth 20000 in
theorem gX3_behindPart_X3_refuse : GoodIn wsX3_behindPart (wsV RX3 80 RX3 yX3_refuse wsX3_refuse) := goodIn_app (goodIn_of _ (by decide +kernel)) ggX3_behindPart_X3_refuse
theorem dX3_behindPart_0 : decode cX3_behindPart 0 = .ok (.aload_n 0, 1) := by decide +kernel
theorem dX3_behindPart_1 : decode cX3_behindPart 1 = .ok (.getfield 18, 3) := by decide +kernel
theorem dX3_behindPart_4 : decode cX3_behindPart 4 = .ok (.getfield 74, 3) := by decide +kernel
theorem dX3_behindPart_7 : decode cX3_behindPart 7 = .ok (.bipush 44, 2) := by decide +kernel
theorem dX3_behindPart_9 : decode cX3_behindPart 9 = .ok (.if_icmp .ne 29, 3) := by decide +kernel
theorem dX3_behindPart_12 : decode cX3_behindPart 12 = .ok (.aload_n 0, 1) := by decide +kernel
theorem dX3_behindPart_13 : decode cX3_behindPart 13 = .ok (.getfield 147, 3) := by decide +kernel
theorem dX3_behindPart_16 : decode cX3_behindPart 16 = .ok (.iconst 2, 1) := by decide +kernel
theorem dX3_behindPart_17 : decode cX3_behindPart 17 = .ok (.if_icmp .eq 14, 3) := by decide +kernel
theorem dX3_behindPart_20 : decode cX3_behindPart 20 = .ok (.aload_n 0, 1) := by decide +kernel
theorem dX3_behindPart_21 : decode cX3_behindPart 21 = .ok (.getfield 207, 3) := by decide +kernel
theorem dX3_behindPart_24 : decode cX3_behindPart 24 = .ok (.aload_n 0, 1) := by decide +kernel
theorem dX3_behindPart_25 : decode cX3_behindPart 25 = .ok (.getfield 204, 3) := by decide +kernel
theorem dX3_behindPart_28 : decode cX3_behindPart 28 = .ok (.if_icmp .ge 10, 3) := by decide +kernel
theorem dX3_behindPart_31 : decode cX3_behindPart 31 = .ok (.aload_n 0, 1) := by decide +kernel
theorem dX3_behindPart_32 : decode cX3_behindPart 32 = .ok (.bipush 7, 2) := by decide +kernel
theorem dX3_behindPart_34 : decode cX3_behindPart 34 = .ok (.invokevirtual 89, 3) := by decide +kernel
theorem dX3_behindPart_37 : decode cX3_behindPart 37 = .ok (.ireturn, 1) := by decide +kernel
theorem dX3_behindPart_38 : decode cX3_behindPart 38 = .ok (.aload_n 0, 1) := by decide +kernel
theorem dX3_behindPart_39 : decode cX3_behindPart 39 = .ok (.getfield 18, 3) := by decide +kernel
theorem dX3_behindPart_42 : decode cX3_behindPart 42 = .ok (.getfield 74, 3) := by decide +kernel
theorem dX3_behindPart_45 : decode cX3_behindPart 45 = .ok (.bipush 41, 2) := by decide +kernel
theorem dX3_behindPart_47 : decode cX3_behindPart 47 = .ok (.if_icmp .ne 34, 3) := by decide +kernel
theorem dX3_behindPart_50 : decode cX3_behindPart 50 = .ok (.aload_n 0, 1) := by decide +kernel
theorem dX3_behindPart_51 : decode cX3_behindPart 51 = .ok (.getfield 207, 3) := by decide +kernel
theorem dX3_behindPart_54 : decode cX3_behindPart 54 = .ok (.aload_n 0, 1) := by decide +kernel
theorem dX3_behindPart_55 : decode cX3_behindPart 55 = .ok (.getfield 201, 3) := by decide +kernel
theorem dX3_behindPart_58 : decode cX3_behindPart 58 = .ok (.if_icmp .lt 23, 3) := by decide +kernel
theorem dX3_behindPart_61 : decode cX3_behindPart 61 = .ok (.aload_n 0, 1) := by decide +kernel
theorem dX3_behindPart_62 : decode cX3_behindPart 62 = .ok (.aload_n 0, 1) := by decide +kernel
theorem dX3_behindPart_63 : decode cX3_behindPart 63 = .ok (.getfield 147, 3) := by decide +kernel
theorem dX3_behindPart_66 : decode cX3_behindPart 66 = .ok (.iconst 2, 1) := by decide +kernel
theorem dX3_behindPart_67 : decode cX3_behindPart 67 = .ok (.if_icmp .ne 8, 3) := by decide +kernel
theorem dX3_behindPart_70 : decode cX3_behindPart 70 = .ok (.bipush 9, 2) := by decide +kernel
theorem dX3_behindPart_72 : decode cX3_behindPart 72 = .ok (.goto 5, 3) := by decide +kernel
theorem dX3_behindPart_75 : decode cX3_behindPart 75 = .ok (.bipush 10, 2) := by decide +kernel
theorem dX3_behindPart_77 : decode cX3_behindPart 77 = .ok (.invokevirtual 89, 3) := by decide +kernel
theorem dX3_behindPart_80 : decode cX3_behindPart 80 = .ok (.ireturn, 1) := by decide +kernel
theorem dX3_behindPart_81 : decode cX3_behindPart 81 = .ok (.aload_n 0, 1) := by decide +kernel
theorem dX3_behindPart_82 : decode cX3_behindPart 82 = .ok (.invokevirtual 80, 3) := by decide +kernel
theorem dX3_behindPart_85 : decode cX3_behindPart 85 = .ok (.ireturn, 1) := by decide +kernel
set_option maxRecDepth 20000 in
theorem ggX3_takeDelay_X0_has : GoodIn wsX3_takeDelay wsX0_has := goodIn_r _ [10, 11, 35, 36, 37, 38, 39, 40, 41, 42, 43, 44, 45, 46, 47] (by decide +kernel) (by decide +kernel)
set_option maxRecDepth 20000 in
theorem gX3_takeDelay_X0_has : GoodIn wsX3_takeDelay (wsV RX3 179 RX0 yX0_has wsX0_has) := goodIn_app (goodIn_of _ (by decide +kernel)) ggX3_takeDelay_X0_has
set_option maxRecDepth 20000 in
theorem ggX3_takeDelay_X3_go : GoodIn wsX3_takeDelay wsX3_go := goodIn_r _ [16, 17, 18, 19, 20, 21, 22, 23, 24, 25, 26, 27, 28, 29, 30, 31, 32, 33, 34] (by decide +kernel) (by decide +kernel)
set_option maxRecDepth 20000 in
theorem gX3_takeDelay_X3_go : GoodIn wsX3_takeDelay (wsV RX3 89 RX3 yX3_go wsX3_go) := goodIn_app (goodIn_of _ (by decide +kernel)) ggX3_takeDelay_X3_go
theorem dX3_takeDelay_0 : decode cX3_takeDelay 0 = .ok (.aload_n 0, 1) := by decide +kernel
theorem dX3_takeDelay_1 : decode cX3_takeDelay 1 = .ok (.getfield 36, 3) := by decide +kernel
theorem dX3_takeDelay_4 : decode cX3_takeDelay 4 = .ok (.aload_n 0, 1) := by decide +kernel
theorem dX3_takeDelay_5 : decode cX3_takeDelay 5 = .ok (.getfield 198, 3) := by decide +kernel
theorem dX3_takeDelay_8 : decode cX3_takeDelay 8 = .ok (.invokevirtual 179, 3) := by decide +kernel
theorem dX3_takeDelay_11 : decode cX3_takeDelay 11 = .ok (.ifCond .eq 22, 3) := by decide +kernel
theorem dX3_takeDelay_14 : decode cX3_takeDelay 14 = .ok (.aload_n 0, 1) := by decide +kernel
theorem dX3_takeDelay_15 : decode cX3_takeDelay 15 = .ok (.getfield 36, 3) := by decide +kernel
theorem dX3_takeDelay_18 : decode cX3_takeDelay 18 = .ok (.getfield 210, 3) := by decide +kernel
theorem dX3_takeDelay_21 : decode cX3_takeDelay 21 = .ok (.aload_n 0, 1) := by decide +kernel
theorem dX3_takeDelay_22 : decode cX3_takeDelay 22 = .ok (.getfield 198, 3) := by decide +kernel
theorem dX3_takeDelay_25 : decode cX3_takeDelay 25 = .ok (.aload_n 0, 1) := by decide +kernel
theorem dX3_takeDelay_26 : decode cX3_takeDelay 26 = .ok (.getfield 18, 3) := by decide +kernel
theorem dX3_takeDelay_29 : decode cX3_takeDelay 29 = .ok (.getfield 213, 3) := by decide +kernel
theorem dX3_takeDelay_32 : decode cX3_takeDelay 32 = .ok (.iastore, 1) := by decide +kernel
theorem dX3_takeDelay_33 : decode cX3_takeDelay 33 = .ok (.aload_n 0, 1) := by decide +kernel
theorem dX3_takeDelay_34 : decode cX3_takeDelay 34 = .ok (.bipush 10, 2) := by decide +kernel
theorem dX3_takeDelay_36 : decode cX3_takeDelay 36 = .ok (.invokevirtual 89, 3) := by decide +kernel
theorem dX3_takeDelay_39 : decode cX3_takeDelay 39 = .ok (.ireturn, 1) := by decide +kernel
theorem dX3_addUse_0 : decode cX3_addUse 0 = .ok (.aload_n 0, 1) := by decide +kernel
theorem dX3_addUse_1 : decode cX3_addUse 1 = .ok (.getfield 48, 3) := by decide +kernel
theorem dX3_addUse_4 : decode cX3_addUse 4 = .ok (.sipush 667, 3) := by decide +kernel
theorem dX3_addUse_7 : decode cX3_addUse 7 = .ok (.if_icmp .lt 4, 3) := by decide +kernel
theorem dX3_addUse_10 : decode cX3_addUse 10 = .ok (.return_, 1) := by decide +kernel
theorem dX3_addUse_11 : decode cX3_addUse 11 = .ok (.aload_n 0, 1) := by decide +kernel
theorem dX3_addUse_12 : decode cX3_addUse 12 = .ok (.getfield 22, 3) := by decide +kernel
theorem dX3_addUse_15 : decode cX3_addUse 15 = .ok (.aload_n 0, 1) := by decide +kernel
theorem dX3_addUse_16 : decode cX3_addUse 16 = .ok (.getfield 48, 3) := by decide +kernel
theorem dX3_addUse_19 : decode cX3_addUse 19 = .ok (.lload_n 1, 1) := by decide +kernel
theorem dX3_addUse_20 : decode cX3_addUse 20 = .ok (.lastore, 1) := by decide +kernel
theorem dX3_addUse_21 : decode cX3_addUse 21 = .ok (.aload_n 0, 1) := by decide +kernel
theorem dX3_addUse_22 : decode cX3_addUse 22 = .ok (.getfield 26, 3) := by decide +kernel
theorem dX3_addUse_25 : decode cX3_addUse 25 = .ok (.aload_n 0, 1) := by decide +kernel
theorem dX3_addUse_26 : decode cX3_addUse 26 = .ok (.getfield 48, 3) := by decide +kernel
theorem dX3_addUse_29 : decode cX3_addUse 29 = .ok (.iload_n 3, 1) := by decide +kernel
theorem dX3_addUse_30 : decode cX3_addUse 30 = .ok (.iastore, 1) := by decide +kernel
theorem dX3_addUse_31 : decode cX3_addUse 31 = .ok (.aload_n 0, 1) := by decide +kernel
theorem dX3_addUse_32 : decode cX3_addUse 32 = .ok (.getfield 30, 3) := by decide +kernel
theorem dX3_addUse_35 : decode cX3_addUse 35 = .ok (.aload_n 0, 1) := by decide +kernel
theorem dX3_addUse_36 : decode cX3_addUse 36 = .ok (.getfield 48, 3) := by decide +kernel
theorem dX3_addUse_39 : decode cX3_addUse 39 = .ok (.iload 4, 2) := by decide +kernel
theorem dX3_addUse_41 : decode cX3_addUse 41 = .ok (.iastore, 1) := by decide +kernel
theorem dX3_addUse_42 : decode cX3_addUse 42 = .ok (.aload_n 0, 1) := by decide +kernel
theorem dX3_addUse_43 : decode cX3_addUse 43 = .ok (.dup, 1) := by decide +kernel
theorem dX3_addUse_44 : decode cX3_addUse 44 = .ok (.getfield 48, 3) := by decide +kernel
theorem dX3_addUse_47 : decode cX3_addUse 47 = .ok (.iconst 1, 1) := by decide +kernel
theorem dX3_addUse_48 : decode cX3_addUse 48 = .ok (.iadd, 1) := by decide +kernel
theorem dX3_addUse_49 : decode cX3_addUse 49 = .ok (.putfield 48, 3) := by decide +kernel
theorem dX3_addUse_52 : decode cX3_addUse 52 = .ok (.return_, 1) := by decide +kernel
theorem dX3_isWord_0 : decode cX3_isWord 0 = .ok (.aload_n 0, 1) := by decide +kernel
theorem dX3_isWord_1 : decode cX3_isWord 1 = .ok (.getfield 18, 3) := by decide +kernel
theorem dX3_isWord_4 : decode cX3_isWord 4 = .ok (.getfield 74, 3) := by decide +kernel
theorem dX3_isWord_7 : decode cX3_isWord 7 = .ok (.iconst 2, 1) := by decide +kernel
theorem dX3_isWord_8 : decode cX3_isWord 8 = .ok (.if_icmp .ne 19, 3) := by decide +kernel
theorem dX3_isWord_11 : decode cX3_isWord 11 = .ok (.aload_n 0, 1) := by decide +kernel
theorem dX3_isWord_12 : decode cX3_isWord 12 = .ok (.getfield 18, 3) := by decide +kernel
theorem dX3_isWord_15 : decode cX3_isWord 15 = .ok (.getfield 137, 3) := by decide +kernel
theorem dX3_isWord_18 : decode cX3_isWord 18 = .ok (.lload_n 1, 1) := by decide +kernel
theorem dX3_isWord_19 : decode cX3_isWord 19 = .ok (.lcmp, 1) := by decide +kernel
theorem dX3_isWord_20 : decode cX3_isWord 20 = .ok (.ifCond .ne 7, 3) := by decide +kernel
theorem dX3_isWord_23 : decode cX3_isWord 23 = .ok (.iconst 1, 1) := by decide +kernel
theorem dX3_isWord_24 : decode cX3_isWord 24 = .ok (.goto 4, 3) := by decide +kernel
theorem dX3_isWord_27 : decode cX3_isWord 27 = .ok (.iconst 0, 1) := by decide +kernel
theorem dX3_isWord_28 : decode cX3_isWord 28 = .ok (.ireturn, 1) := by decide +kernel
set_option maxRecDepth 20000 in
theorem ggX3_isName_X3_gateHere : GoodIn wsX3_isName wsX3_gateHere := goodIn_r _ [13, 14, 1, 2, 3, 15, 16, 17, 18, 19, 20, 21, 22, 23, 24, 25, 26, 27, 28, 29, 30, 31, 32, 33, 34, 35, 36, 37, 38] (by decide +kernel) (by decide +kernel)
set_option maxRecDepth 20000 in
theorem gX3_isName_X3_gateHere : GoodIn wsX3_isName (wsV RX3 175 RX3 yX3_gateHere wsX3_gateHere) := goodIn_app (goodIn_of _ (by decide +kernel)) ggX3_isName_X3_gateHere
theorem dX3_isName_0 : decode cX3_isName 0 = .ok (.aload_n 0, 1) := by decide +kernel
theorem dX3_isName_1 : decode cX3_isName 1 = .ok (.getfield 18, 3) := by decide +kernel
theorem dX3_isName_4 : decode cX3_isName 4 = .ok (.getfield 74, 3) := by decide +kernel
theorem dX3_isName_7 : decode cX3_isName 7 = .ok (.iconst 2, 1) := by decide +kernel
theorem dX3_isName_8 : decode cX3_isName 8 = .ok (.if_icmp .ne 11, 3) := by decide +kernel
theorem dX3_isName_11 : decode cX3_isName 11 = .ok (.aload_n 0, 1) := by decide +kernel
theorem dX3_isName_12 : decode cX3_isName 12 = .ok (.invokevirtual 175, 3) := by decide +kernel
theorem dX3_isName_15 : decode cX3_isName 15 = .ok (.iconst (-1), 1) := by decide +kernel
theorem dX3_isName_16 : decode cX3_isName 16 = .ok (.if_icmp .eq 5, 3) := by decide +kernel
theorem dX3_isName_19 : decode cX3_isName 19 = .ok (.iconst 0, 1) := by decide +kernel
theorem dX3_isName_20 : decode cX3_isName 20 = .ok (.ireturn, 1) := by decide +kernel
theorem dX3_isName_21 : decode cX3_isName 21 = .ok (.aload_n 0, 1) := by decide +kernel
theorem dX3_isName_22 : decode cX3_isName 22 = .ok (.getfield 18, 3) := by decide +kernel
theorem dX3_isName_25 : decode cX3_isName 25 = .ok (.getfield 137, 3) := by decide +kernel
theorem dX3_isName_28 : decode cX3_isName 28 = .ok (.lstore_n 1, 1) := by decide +kernel
theorem dX3_isName_29 : decode cX3_isName 29 = .ok (.lload_n 1, 1) := by decide +kernel
theorem dX3_isName_30 : decode cX3_isName 30 = .ok (.ldc2_w 121, 3) := by decide +kernel
theorem dX3_isName_33 : decode cX3_isName 33 = .ok (.lcmp, 1) := by decide +kernel
theorem dX3_isName_34 : decode cX3_isName 34 = .ok (.ifCond .eq 39, 3) := by decide +kernel
theorem dX3_isName_37 : decode cX3_isName 37 = .ok (.lload_n 1, 1) := by decide +kernel
theorem dX3_isName_38 : decode cX3_isName 38 = .ok (.ldc2_w 130, 3) := by decide +kernel
theorem dX3_isName_41 : decode cX3_isName 41 = .ok (.lcmp, 1) := by decide +kernel
theorem dX3_isName_42 : decode cX3_isName 42 = .ok (.ifCond .eq 31, 3) := by decide +kernel
theorem dX3_isName_45 : decode cX3_isName 45 = .ok (.lload_n 1, 1) := by decide +kernel
theorem dX3_isName_46 : decode cX3_isName 46 = .ok (.ldc2_w 132, 3) := by decide +kernel
theorem dX3_isName_49 : decode cX3_isName 49 = .ok (.lcmp, 1) := by decide +kernel
theorem dX3_isName_50 : decode cX3_isName 50 = .ok (.ifCond .eq 23, 3) := by decide +kernel
theorem dX3_isName_53 : decode cX3_isName 53 = .ok (.lload_n 1, 1) := by decide +kernel
theorem dX3_isName_54 : decode cX3_isName 54 = .ok (.ldc2_w 191, 3) := by decide +kernel
theorem dX3_isName_57 : decode cX3_isName 57 = .ok (.lcmp, 1) := by decide +kernel
theorem dX3_isName_58 : decode cX3_isName 58 = .ok (.ifCond .eq 15, 3) := by decide +kernel
theorem dX3_isName_61 : decode cX3_isName 61 = .ok (.lload_n 1, 1) := by decide +kernel
theorem dX3_isName_62 : decode cX3_isName 62 = .ok (.ldc2_w 193, 3) := by decide +kernel
theorem dX3_isName_65 : decode cX3_isName 65 = .ok (.lcmp, 1) := by decide +kernel
theorem dX3_isName_66 : decode cX3_isName 66 = .ok (.ifCond .eq 7, 3) := by decide +kernel
theorem dX3_isName_69 : decode cX3_isName 69 = .ok (.iconst 1, 1) := by decide +kernel
theorem dX3_isName_70 : decode cX3_isName 70 = .ok (.goto 4, 3) := by decide +kernel
theorem dX3_isName_73 : decode cX3_isName 73 = .ok (.iconst 0, 1) := by decide +kernel
theorem dX3_isName_74 : decode cX3_isName 74 = .ok (.ireturn, 1) := by decide +kernel
theorem dX3_gateHere_0 : decode cX3_gateHere 0 = .ok (.iconst 0, 1) := by decide +kernel
theorem dX3_gateHere_1 : decode cX3_gateHere 1 = .ok (.istore_n 1, 1) := by decide +kernel
theorem dX3_gateHere_2 : decode cX3_gateHere 2 = .ok (.iload_n 1, 1) := by decide +kernel
theorem dX3_gateHere_3 : decode cX3_gateHere 3 = .ok (.getstatic 216, 3) := by decide +kernel
theorem dX3_gateHere_6 : decode cX3_gateHere 6 = .ok (.arraylength, 1) := by decide +kernel
theorem dX3_gateHere_7 : decode cX3_gateHere 7 = .ok (.if_icmp .ge 38, 3) := by decide +kernel
theorem dX3_gateHere_10 : decode cX3_gateHere 10 = .ok (.aload_n 0, 1) := by decide +kernel
theorem dX3_gateHere_11 : decode cX3_gateHere 11 = .ok (.getfield 18, 3) := by decide +kernel
theorem dX3_gateHere_14 : decode cX3_gateHere 14 = .ok (.getfield 74, 3) := by decide +kernel
theorem dX3_gateHere_17 : decode cX3_gateHere 17 = .ok (.iconst 2, 1) := by decide +kernel
theorem dX3_gateHere_18 : decode cX3_gateHere 18 = .ok (.if_icmp .ne 27, 3) := by decide +kernel
theorem dX3_gateHere_21 : decode cX3_gateHere 21 = .ok (.aload_n 0, 1) := by decide +kernel
theorem dX3_gateHere_22 : decode cX3_gateHere 22 = .ok (.getfield 18, 3) := by decide +kernel
theorem dX3_gateHere_25 : decode cX3_gateHere 25 = .ok (.getfield 137, 3) := by decide +kernel
theorem dX3_gateHere_28 : decode cX3_gateHere 28 = .ok (.getstatic 216, 3) := by decide +kernel
theorem dX3_gateHere_31 : decode cX3_gateHere 31 = .ok (.iload_n 1, 1) := by decide +kernel
theorem dX3_gateHere_32 : decode cX3_gateHere 32 = .ok (.laload, 1) := by decide +kernel
theorem dX3_gateHere_33 : decode cX3_gateHere 33 = .ok (.lcmp, 1) := by decide +kernel
theorem dX3_gateHere_34 : decode cX3_gateHere 34 = .ok (.ifCond .ne 5, 3) := by decide +kernel
theorem dX3_gateHere_37 : decode cX3_gateHere 37 = .ok (.iload_n 1, 1) := by decide +kernel
theorem dX3_gateHere_38 : decode cX3_gateHere 38 = .ok (.ireturn, 1) := by decide +kernel
theorem dX3_gateHere_39 : decode cX3_gateHere 39 = .ok (.iinc 1 1, 3) := by decide +kernel
theorem dX3_gateHere_42 : decode cX3_gateHere 42 = .ok (.goto (-40), 3) := by decide +kernel
theorem dX3_gateHere_45 : decode cX3_gateHere 45 = .ok (.iconst (-1), 1) := by decide +kernel
theorem dX3_gateHere_46 : decode cX3_gateHere 46 = .ok (.ireturn, 1) := by decide +kernel
theorem dX3_isHead_0 : decode cX3_isHead 0 = .ok (.iload_n 0, 1) := by decide +kernel
theorem dX3_isHead_1 : decode cX3_isHead 1 = .ok (.iconst (-1), 1) := by decide +kernel
theorem dX3_isHead_2 : decode cX3_isHead 2 = .ok (.if_icmp .eq 9, 3) := by decide +kernel
theorem dX3_isHead_5 : decode cX3_isHead 5 = .ok (.iload_n 0, 1) := by decide +kernel
theorem dX3_isHead_6 : decode cX3_isHead 6 = .ok (.bipush (-2), 2) := by decide +kernel
theorem dX3_isHead_8 : decode cX3_isHead 8 = .ok (.if_icmp .ne 7, 3) := by decide +kernel
theorem dX3_isHead_11 : decode cX3_isHead 11 = .ok (.iconst 1, 1) := by decide +kernel
theorem dX3_isHead_12 : decode cX3_isHead 12 = .ok (.goto 4, 3) := by decide +kernel
theorem dX3_isHead_15 : decode cX3_isHead 15 = .ok (.iconst 0, 1) := by decide +kernel
theorem dX3_isHead_16 : decode cX3_isHead 16 = .ok (.ireturn, 1) := by decide +kernel
set_option maxRecDepth 20000 in
theorem ggX3_linkUses_X0_find : GoodIn wsX3_linkUses wsX0_find := goodIn_r _ [10, 11, 12, 65, 66, 67, 68, 69, 70, 71, 72, 73, 74, 75, 76, 77] (by decide +kernel) (by decide +kernel)
set_option maxRecDepth 20000 in
theorem gX3_linkUses_X0_find : GoodIn wsX3_linkUses (wsV RX3 164 RX0 yX0_find wsX0_find) := goodIn_app (goodIn_of _ (by decide +kernel)) ggX3_linkUses_X0_find
set_option maxRecDepth 20000 in
theorem ggX3_linkUses_X3_isHead : GoodIn wsX3_linkUses wsX3_isHead := goodIn_r _ [16] (by decide +kernel) (by decide +kernel)
set_option maxRecDepth 20000 in
theorem gX3_linkUses_X3_isHead : GoodIn wsX3_linkUses (va_wsS RX3 172 yX3_isHead wsX3_isHead) := goodIn_app (goodIn_of _ (by decide +kernel)) ggX3_linkUses_X3_isHead
set_option maxRecDepth 20000 in
theorem ggX3_linkUses_X0_isKind : GoodIn wsX3_linkUses wsX0_isKind := goodIn_r _ [20, 21, 22, 23, 24, 9, 25, 11, 65, 66, 67, 68, 69, 70, 71, 72, 73, 74, 75, 76, 77] (by decide +kernel) (by decide +kernel)
set_option maxRecDepth 20000 in
theorem gX3_linkUses_X0_isKind : GoodIn wsX3_linkUses (wsV RX3 219 RX0 yX0_isKind wsX0_isKind) := goodIn_app (goodIn_of _ (by decide +kernel)) ggX3_linkUses_X0_isKind
set_option maxRecDepth 20000 in
theorem ggX3_linkUses_X3_failAt : GoodIn wsX3_linkUses wsX3_failAt := goodIn_r _ [29, 30, 31, 48, 49, 50, 51, 52, 53, 54, 55, 56, 57, 58, 59, 60, 61, 62, 63, 64] (by decide +kernel) (by decide +kernel)
set_option maxRecDepth 20000 in
theorem gX3_linkUses_X3_failAt : GoodIn wsX3_linkUses (wsV RX3 117 RX3 yX3_failAt wsX3_failAt) := goodIn_app (goodIn_of _ (by decide +kernel)) ggX3_linkUses_X3_failAt
set_option maxRecDepth 20000 in
theorem ggX3_linkUses_X0_beginDriver : GoodIn wsX3_linkUses wsX0_beginDriver := goodIn_r _ [35, 36, 22, 23, 24, 9, 25, 11, 37, 38, 39, 40, 21, 41, 65, 66, 67, 68, 69, 70, 71, 72, 73, 74, 75, 76, 77] (by decide +kernel) (by decide +kernel)
set_option maxRecDepth 20000 in
theorem gX3_linkUses_X0_beginDriver : GoodIn wsX3_linkUses (wsV RX3 222 RX0 yX0_beginDriver wsX0_beginDriver) := goodIn_app (goodIn_of _ (by decide +kernel)) ggX3_linkUses_X0_beginDriver
set_option maxRecDepth 20000 in
theorem ggX3_linkUses_X0_addPart : GoodIn wsX3_linkUses wsX0_addPart := goodIn_r _ [45, 41, 46, 21, 47, 22, 23, 24, 9, 25, 11, 65, 66, 67, 68, 69, 70, 71, 72, 73, 74, 75, 76, 77] (by decide +kernel) (by decide +kernel)
set_option maxRecDepth 20000 in
theorem gX3_linkUses_X0_addPart : GoodIn wsX3_linkUses (wsV RX3 226 RX0 yX0_addPart wsX0_addPart) := goodIn_app (goodIn_of _ (by decide +kernel)) ggX3_linkUses_X0_addPart
theorem dX3_linkUses_0 : decode cX3_linkUses 0 = .ok (.iconst (-1), 1) := by decide +kernel
theorem dX3_linkUses_1 : decode cX3_linkUses 1 = .ok (.istore_n 1, 1) := by decide +kernel
theorem dX3_linkUses_2 : decode cX3_linkUses 2 = .ok (.iconst 0, 1) := by decide +kernel
theorem dX3_linkUses_3 : decode cX3_linkUses 3 = .ok (.istore_n 2, 1) := by decide +kernel
theorem dX3_linkUses_4 : decode cX3_linkUses 4 = .ok (.iload_n 2, 1) := by decide +kernel
theorem dX3_linkUses_5 : decode cX3_linkUses 5 = .ok (.aload_n 0, 1) := by decide +kernel
theorem dX3_linkUses_6 : decode cX3_linkUses 6 = .ok (.getfield 48, 3) := by decide +kernel
theorem dX3_linkUses_9 : decode cX3_linkUses 9 = .ok (.if_icmp .ge 131, 3) := by decide +kernel
theorem dX3_linkUses_12 : decode cX3_linkUses 12 = .ok (.aload_n 0, 1) := by decide +kernel
theorem dX3_linkUses_13 : decode cX3_linkUses 13 = .ok (.getfield 36, 3) := by decide +kernel
theorem dX3_linkUses_16 : decode cX3_linkUses 16 = .ok (.aload_n 0, 1) := by decide +kernel
theorem dX3_linkUses_17 : decode cX3_linkUses 17 = .ok (.getfield 22, 3) := by decide +kernel
theorem dX3_linkUses_20 : decode cX3_linkUses 20 = .ok (.iload_n 2, 1) := by decide +kernel
theorem dX3_linkUses_21 : decode cX3_linkUses 21 = .ok (.laload, 1) := by decide +kernel
theorem dX3_linkUses_22 : decode cX3_linkUses 22 = .ok (.invokevirtual 164, 3) := by decide +kernel
theorem dX3_linkUses_25 : decode cX3_linkUses 25 = .ok (.istore_n 3, 1) := by decide +kernel
theorem dX3_linkUses_26 : decode cX3_linkUses 26 = .ok (.aload_n 0, 1) := by decide +kernel
theorem dX3_linkUses_27 : decode cX3_linkUses 27 = .ok (.getfield 30, 3) := by decide +kernel
theorem dX3_linkUses_30 : decode cX3_linkUses 30 = .ok (.iload_n 2, 1) := by decide +kernel
theorem dX3_linkUses_31 : decode cX3_linkUses 31 = .ok (.iaload, 1) := by decide +kernel
theorem dX3_linkUses_32 : decode cX3_linkUses 32 = .ok (.invokestatic 172, 3) := by decide +kernel
theorem dX3_linkUses_35 : decode cX3_linkUses 35 = .ok (.istore 4, 2) := by decide +kernel
theorem dX3_linkUses_37 : decode cX3_linkUses 37 = .ok (.iload_n 3, 1) := by decide +kernel
theorem dX3_linkUses_38 : decode cX3_linkUses 38 = .ok (.iconst (-1), 1) := by decide +kernel
theorem dX3_linkUses_39 : decode cX3_linkUses 39 = .ok (.if_icmp .eq 20, 3) := by decide +kernel
theorem dX3_linkUses_42 : decode cX3_linkUses 42 = .ok (.iload 4, 2) := by decide +kernel
theorem dX3_linkUses_44 : decode cX3_linkUses 44 = .ok (.ifCond .eq 27, 3) := by decide +kernel
theorem dX3_linkUses_47 : decode cX3_linkUses 47 = .ok (.aload_n 0, 1) := by decide +kernel
theorem dX3_linkUses_48 : decode cX3_linkUses 48 = .ok (.getfield 36, 3) := by decide +kernel
theorem dX3_linkUses_51 : decode cX3_linkUses 51 = .ok (.iload_n 3, 1) := by decide +kernel
theorem dX3_linkUses_52 : decode cX3_linkUses 52 = .ok (.iconst 1, 1) := by decide +kernel
theorem dX3_linkUses_53 : decode cX3_linkUses 53 = .ok (.invokevirtual 219, 3) := by decide +kernel
theorem dX3_linkUses_56 : decode cX3_linkUses 56 = .ok (.ifCond .ne 15, 3) := by decide +kernel
theorem dX3_linkUses_59 : decode cX3_linkUses 59 = .ok (.aload_n 0, 1) := by decide +kernel
theorem dX3_linkUses_60 : decode cX3_linkUses 60 = .ok (.iconst 4, 1) := by decide +kernel
theorem dX3_linkUses_61 : decode cX3_linkUses 61 = .ok (.aload_n 0, 1) := by decide +kernel
theorem dX3_linkUses_62 : decode cX3_linkUses 62 = .ok (.getfield 26, 3) := by decide +kernel
theorem dX3_linkUses_65 : decode cX3_linkUses 65 = .ok (.iload_n 2, 1) := by decide +kernel
theorem dX3_linkUses_66 : decode cX3_linkUses 66 = .ok (.iaload, 1) := by decide +kernel
theorem dX3_linkUses_67 : decode cX3_linkUses 67 = .ok (.invokevirtual 117, 3) := by decide +kernel
theorem dX3_linkUses_70 : decode cX3_linkUses 70 = .ok (.ireturn, 1) := by decide +kernel
theorem dX3_linkUses_71 : decode cX3_linkUses 71 = .ok (.iload 4, 2) := by decide +kernel
theorem dX3_linkUses_73 : decode cX3_linkUses 73 = .ok (.ifCond .eq 32, 3) := by decide +kernel
theorem dX3_linkUses_76 : decode cX3_linkUses 76 = .ok (.iload_n 3, 1) := by decide +kernel
theorem dX3_linkUses_77 : decode cX3_linkUses 77 = .ok (.istore_n 1, 1) := by decide +kernel
theorem dX3_linkUses_78 : decode cX3_linkUses 78 = .ok (.aload_n 0, 1) := by decide +kernel
theorem dX3_linkUses_79 : decode cX3_linkUses 79 = .ok (.getfield 36, 3) := by decide +kernel
theorem dX3_linkUses_82 : decode cX3_linkUses 82 = .ok (.iload_n 1, 1) := by decide +kernel
theorem dX3_linkUses_83 : decode cX3_linkUses 83 = .ok (.aload_n 0, 1) := by decide +kernel
theorem dX3_linkUses_84 : decode cX3_linkUses 84 = .ok (.getfield 30, 3) := by decide +kernel
theorem dX3_linkUses_87 : decode cX3_linkUses 87 = .ok (.iload_n 2, 1) := by decide +kernel
theorem dX3_linkUses_88 : decode cX3_linkUses 88 = .ok (.iaload, 1) := by decide +kernel
theorem dX3_linkUses_89 : decode cX3_linkUses 89 = .ok (.bipush (-2), 2) := by decide +kernel
theorem dX3_linkUses_91 : decode cX3_linkUses 91 = .ok (.if_icmp .ne 7, 3) := by decide +kernel
theorem dX3_linkUses_94 : decode cX3_linkUses 94 = .ok (.iconst 1, 1) := by decide +kernel
theorem dX3_linkUses_95 : decode cX3_linkUses 95 = .ok (.goto 4, 3) := by decide +kernel
theorem dX3_linkUses_98 : decode cX3_linkUses 98 = .ok (.iconst 0, 1) := by decide +kernel
theorem dX3_linkUses_99 : decode cX3_linkUses 99 = .ok (.invokevirtual 222, 3) := by decide +kernel
theorem dX3_linkUses_102 : decode cX3_linkUses 102 = .ok (.goto 32, 3) := by decide +kernel
theorem dX3_linkUses_105 : decode cX3_linkUses 105 = .ok (.aload_n 0, 1) := by decide +kernel
theorem dX3_linkUses_106 : decode cX3_linkUses 106 = .ok (.getfield 36, 3) := by decide +kernel
theorem dX3_linkUses_109 : decode cX3_linkUses 109 = .ok (.aload_n 0, 1) := by decide +kernel
theorem dX3_linkUses_110 : decode cX3_linkUses 110 = .ok (.getfield 30, 3) := by decide +kernel
theorem dX3_linkUses_113 : decode cX3_linkUses 113 = .ok (.iload_n 2, 1) := by decide +kernel
theorem dX3_linkUses_114 : decode cX3_linkUses 114 = .ok (.iaload, 1) := by decide +kernel
theorem dX3_linkUses_115 : decode cX3_linkUses 115 = .ok (.bipush (-3), 2) := by decide +kernel
theorem dX3_linkUses_117 : decode cX3_linkUses 117 = .ok (.if_icmp .ne 7, 3) := by decide +kernel
theorem dX3_linkUses_120 : decode cX3_linkUses 120 = .ok (.iload_n 1, 1) := by decide +kernel
theorem dX3_linkUses_121 : decode cX3_linkUses 121 = .ok (.goto 9, 3) := by decide +kernel
theorem dX3_linkUses_124 : decode cX3_linkUses 124 = .ok (.aload_n 0, 1) := by decide +kernel
theorem dX3_linkUses_125 : decode cX3_linkUses 125 = .ok (.getfield 30, 3) := by decide +kernel
theorem dX3_linkUses_128 : decode cX3_linkUses 128 = .ok (.iload_n 2, 1) := by decide +kernel
theorem dX3_linkUses_129 : decode cX3_linkUses 129 = .ok (.iaload, 1) := by decide +kernel
theorem dX3_linkUses_130 : decode cX3_linkUses 130 = .ok (.iload_n 3, 1) := by decide +kernel
theorem dX3_linkUses_131 : decode cX3_linkUses 131 = .ok (.invokevirtual 226, 3) := by decide +kernel
theorem dX3_linkUses_134 : decode cX3_linkUses 134 = .ok (.iinc 2 1, 3) := by decide +kernel
theorem dX3_linkUses_137 : decode cX3_linkUses 137 = .ok (.goto (-133), 3) := by decide +kernel
theorem dX3_linkUses_140 : decode cX3_linkUses 140 = .ok (.iconst 1, 1) := by decide +kernel
theorem dX3_linkUses_141 : decode cX3_linkUses 141 = .ok (.ireturn, 1) := by decide +kernel
set_option maxRecDepth 20000 in
theorem ggX3_checkLoops_X3_failAt : GoodIn wsX3_checkLoops wsX3_failAt := goodIn_r _ [14, 15, 16, 17, 18, 19, 20, 21, 22, 23, 24, 25, 26, 27, 28, 29, 30, 31, 32, 33] (by decide +kernel) (by decide +kernel)
set_option maxRecDepth 20000 in
theorem gX3_checkLoops_X3_failAt : GoodIn wsX3_checkLoops (wsV RX3 117 RX3 yX3_failAt wsX3_failAt) := goodIn_app (goodIn_of _ (by decide +kernel)) ggX3_checkLoops_X3_failAt
theorem dX3_checkLoops_0 : decode cX3_checkLoops 0 = .ok (.aload_n 0, 1) := by decide +kernel
theorem dX3_checkLoops_1 : decode cX3_checkLoops 1 = .ok (.getfield 36, 3) := by decide +kernel
theorem dX3_checkLoops_4 : decode cX3_checkLoops 4 = .ok (.getfield 154, 3) := by decide +kernel
theorem dX3_checkLoops_7 : decode cX3_checkLoops 7 = .ok (.istore_n 1, 1) := by decide +kernel
theorem dX3_checkLoops_8 : decode cX3_checkLoops 8 = .ok (.aload_n 0, 1) := by decide +kernel
theorem dX3_checkLoops_9 : decode cX3_checkLoops 9 = .ok (.getfield 36, 3) := by decide +kernel
theorem dX3_checkLoops_12 : decode cX3_checkLoops 12 = .ok (.getfield 230, 3) := by decide +kernel
theorem dX3_checkLoops_15 : decode cX3_checkLoops 15 = .ok (.iconst 0, 1) := by decide +kernel
theorem dX3_checkLoops_16 : decode cX3_checkLoops 16 = .ok (.aload_n 0, 1) := by decide +kernel
theorem dX3_checkLoops_17 : decode cX3_checkLoops 17 = .ok (.getfield 33, 3) := by decide +kernel
theorem dX3_checkLoops_20 : decode cX3_checkLoops 20 = .ok (.iconst 0, 1) := by decide +kernel
theorem dX3_checkLoops_21 : decode cX3_checkLoops 21 = .ok (.bipush 60, 2) := by decide +kernel
theorem dX3_checkLoops_23 : decode cX3_checkLoops 23 = .ok (.invokestatic 233, 3) := by decide +kernel
theorem dX3_checkLoops_26 : decode cX3_checkLoops 26 = .ok (.iconst 0, 1) := by decide +kernel
theorem dX3_checkLoops_27 : decode cX3_checkLoops 27 = .ok (.istore_n 2, 1) := by decide +kernel
theorem dX3_checkLoops_28 : decode cX3_checkLoops 28 = .ok (.iload_n 2, 1) := by decide +kernel
theorem dX3_checkLoops_29 : decode cX3_checkLoops 29 = .ok (.iload_n 1, 1) := by decide +kernel
theorem dX3_checkLoops_30 : decode cX3_checkLoops 30 = .ok (.if_icmp .ge 52, 3) := by decide +kernel
theorem dX3_checkLoops_33 : decode cX3_checkLoops 33 = .ok (.iconst 0, 1) := by decide +kernel
theorem dX3_checkLoops_34 : decode cX3_checkLoops 34 = .ok (.istore_n 3, 1) := by decide +kernel
theorem dX3_checkLoops_35 : decode cX3_checkLoops 35 = .ok (.iload_n 3, 1) := by decide +kernel
theorem dX3_checkLoops_36 : decode cX3_checkLoops 36 = .ok (.iload_n 1, 1) := by decide +kernel
theorem dX3_checkLoops_37 : decode cX3_checkLoops 37 = .ok (.if_icmp .ge 39, 3) := by decide +kernel
theorem dX3_checkLoops_40 : decode cX3_checkLoops 40 = .ok (.aload_n 0, 1) := by decide +kernel
theorem dX3_checkLoops_41 : decode cX3_checkLoops 41 = .ok (.getfield 33, 3) := by decide +kernel
theorem dX3_checkLoops_44 : decode cX3_checkLoops 44 = .ok (.iload_n 3, 1) := by decide +kernel
theorem dX3_checkLoops_45 : decode cX3_checkLoops 45 = .ok (.laload, 1) := by decide +kernel
theorem dX3_checkLoops_46 : decode cX3_checkLoops 46 = .ok (.iload_n 2, 1) := by decide +kernel
theorem dX3_checkLoops_47 : decode cX3_checkLoops 47 = .ok (.lushr, 1) := by decide +kernel
theorem dX3_checkLoops_48 : decode cX3_checkLoops 48 = .ok (.lconst 1, 1) := by decide +kernel
theorem dX3_checkLoops_49 : decode cX3_checkLoops 49 = .ok (.land, 1) := by decide +kernel
theorem dX3_checkLoops_50 : decode cX3_checkLoops 50 = .ok (.lconst 1, 1) := by decide +kernel
theorem dX3_checkLoops_51 : decode cX3_checkLoops 51 = .ok (.lcmp, 1) := by decide +kernel
theorem dX3_checkLoops_52 : decode cX3_checkLoops 52 = .ok (.ifCond .ne 18, 3) := by decide +kernel
theorem dX3_checkLoops_55 : decode cX3_checkLoops 55 = .ok (.aload_n 0, 1) := by decide +kernel
theorem dX3_checkLoops_56 : decode cX3_checkLoops 56 = .ok (.getfield 33, 3) := by decide +kernel
theorem dX3_checkLoops_59 : decode cX3_checkLoops 59 = .ok (.iload_n 3, 1) := by decide +kernel
theorem dX3_checkLoops_60 : decode cX3_checkLoops 60 = .ok (.dup2, 1) := by decide +kernel
theorem dX3_checkLoops_61 : decode cX3_checkLoops 61 = .ok (.laload, 1) := by decide +kernel
theorem dX3_checkLoops_62 : decode cX3_checkLoops 62 = .ok (.aload_n 0, 1) := by decide +kernel
theorem dX3_checkLoops_63 : decode cX3_checkLoops 63 = .ok (.getfield 33, 3) := by decide +kernel
theorem dX3_checkLoops_66 : decode cX3_checkLoops 66 = .ok (.iload_n 2, 1) := by decide +kernel
theorem dX3_checkLoops_67 : decode cX3_checkLoops 67 = .ok (.laload, 1) := by decide +kernel
theorem dX3_checkLoops_68 : decode cX3_checkLoops 68 = .ok (.lor, 1) := by decide +kernel
theorem dX3_checkLoops_69 : decode cX3_checkLoops 69 = .ok (.lastore, 1) := by decide +kernel
theorem dX3_checkLoops_70 : decode cX3_checkLoops 70 = .ok (.iinc 3 1, 3) := by decide +kernel
theorem dX3_checkLoops_73 : decode cX3_checkLoops 73 = .ok (.goto (-38), 3) := by decide +kernel
theorem dX3_checkLoops_76 : decode cX3_checkLoops 76 = .ok (.iinc 2 1, 3) := by decide +kernel
theorem dX3_checkLoops_79 : decode cX3_checkLoops 79 = .ok (.goto (-51), 3) := by decide +kernel
theorem dX3_checkLoops_82 : decode cX3_checkLoops 82 = .ok (.iconst 0, 1) := by decide +kernel
theorem dX3_checkLoops_83 : decode cX3_checkLoops 83 = .ok (.istore_n 2, 1) := by decide +kernel
theorem dX3_checkLoops_84 : decode cX3_checkLoops 84 = .ok (.iload_n 2, 1) := by decide +kernel
theorem dX3_checkLoops_85 : decode cX3_checkLoops 85 = .ok (.iload_n 1, 1) := by decide +kernel
theorem dX3_checkLoops_86 : decode cX3_checkLoops 86 = .ok (.if_icmp .ge 39, 3) := by decide +kernel
theorem dX3_checkLoops_89 : decode cX3_checkLoops 89 = .ok (.aload_n 0, 1) := by decide +kernel
theorem dX3_checkLoops_90 : decode cX3_checkLoops 90 = .ok (.getfield 33, 3) := by decide +kernel
theorem dX3_checkLoops_93 : decode cX3_checkLoops 93 = .ok (.iload_n 2, 1) := by decide +kernel
theorem dX3_checkLoops_94 : decode cX3_checkLoops 94 = .ok (.laload, 1) := by decide +kernel
theorem dX3_checkLoops_95 : decode cX3_checkLoops 95 = .ok (.iload_n 2, 1) := by decide +kernel
theorem dX3_checkLoops_96 : decode cX3_checkLoops 96 = .ok (.lushr, 1) := by decide +kernel
theorem dX3_checkLoops_97 : decode cX3_checkLoops 97 = .ok (.lconst 1, 1) := by decide +kernel
theorem dX3_checkLoops_98 : decode cX3_checkLoops 98 = .ok (.land, 1) := by decide +kernel
theorem dX3_checkLoops_99 : decode cX3_checkLoops 99 = .ok (.lconst 1, 1) := by decide +kernel
theorem dX3_checkLoops_100 : decode cX3_checkLoops 100 = .ok (.lcmp, 1) := by decide +kernel
theorem dX3_checkLoops_101 : decode cX3_checkLoops 101 = .ok (.ifCond .ne 18, 3) := by decide +kernel
theorem dX3_checkLoops_104 : decode cX3_checkLoops 104 = .ok (.aload_n 0, 1) := by decide +kernel
theorem dX3_checkLoops_105 : decode cX3_checkLoops 105 = .ok (.iconst 5, 1) := by decide +kernel
theorem dX3_checkLoops_106 : decode cX3_checkLoops 106 = .ok (.aload_n 0, 1) := by decide +kernel
theorem dX3_checkLoops_107 : decode cX3_checkLoops 107 = .ok (.getfield 36, 3) := by decide +kernel
theorem dX3_checkLoops_110 : decode cX3_checkLoops 110 = .ok (.getfield 239, 3) := by decide +kernel
theorem dX3_checkLoops_113 : decode cX3_checkLoops 113 = .ok (.iload_n 2, 1) := by decide +kernel
theorem dX3_checkLoops_114 : decode cX3_checkLoops 114 = .ok (.iaload, 1) := by decide +kernel
theorem dX3_checkLoops_115 : decode cX3_checkLoops 115 = .ok (.invokevirtual 117, 3) := by decide +kernel
theorem dX3_checkLoops_118 : decode cX3_checkLoops 118 = .ok (.ireturn, 1) := by decide +kernel
theorem dX3_checkLoops_119 : decode cX3_checkLoops 119 = .ok (.iinc 2 1, 3) := by decide +kernel
theorem dX3_checkLoops_122 : decode cX3_checkLoops 122 = .ok (.goto (-38), 3) := by decide +kernel
theorem dX3_checkLoops_125 : decode cX3_checkLoops 125 = .ok (.iconst 1, 1) := by decide +kernel
theorem dX3_checkLoops_126 : decode cX3_checkLoops 126 = .ok (.ireturn, 1) := by decide +kernel
theorem dX4_init_0 : decode cX4_init 0 = .ok (.aload_n 0, 1) := by decide +kernel
theorem dX4_init_1 : decode cX4_init 1 = .ok (.invokespecial 3, 3) := by decide +kernel
theorem dX4_init_4 : decode cX4_init 4 = .ok (.aload_n 0, 1) := by decide +kernel
theorem dX4_init_5 : decode cX4_init 5 = .ok (.bipush 60, 2) := by decide +kernel
theorem dX4_init_7 : decode cX4_init 7 = .ok (.newarray .int, 2) := by decide +kernel
theorem dX4_init_9 : decode cX4_init 9 = .ok (.putfield 9, 3) := by decide +kernel
theorem dX4_init_12 : decode cX4_init 12 = .ok (.aload_n 0, 1) := by decide +kernel
theorem dX4_init_13 : decode cX4_init 13 = .ok (.bipush 60, 2) := by decide +kernel
theorem dX4_init_15 : decode cX4_init 15 = .ok (.newarray .int, 2) := by decide +kernel
theorem dX4_init_17 : decode cX4_init 17 = .ok (.putfield 15, 3) := by decide +kernel
theorem dX4_init_20 : decode cX4_init 20 = .ok (.aload_n 0, 1) := by decide +kernel
theorem dX4_init_21 : decode cX4_init 21 = .ok (.sipush 600, 3) := by decide +kernel
theorem dX4_init_24 : decode cX4_init 24 = .ok (.newarray .int, 2) := by decide +kernel
theorem dX4_init_26 : decode cX4_init 26 = .ok (.putfield 18, 3) := by decide +kernel
theorem dX4_init_29 : decode cX4_init 29 = .ok (.aload_n 0, 1) := by decide +kernel
theorem dX4_init_30 : decode cX4_init 30 = .ok (.sipush 1200, 3) := by decide +kernel
theorem dX4_init_33 : decode cX4_init 33 = .ok (.newarray .int, 2) := by decide +kernel
theorem dX4_init_35 : decode cX4_init 35 = .ok (.putfield 21, 3) := by decide +kernel
theorem dX4_init_38 : decode cX4_init 38 = .ok (.aload_n 0, 1) := by decide +kernel
theorem dX4_init_39 : decode cX4_init 39 = .ok (.bipush 60, 2) := by decide +kernel
theorem dX4_init_41 : decode cX4_init 41 = .ok (.newarray .int, 2) := by decide +kernel
theorem dX4_init_43 : decode cX4_init 43 = .ok (.putfield 24, 3) := by decide +kernel
theorem dX4_init_46 : decode cX4_init 46 = .ok (.return_, 1) := by decide +kernel
theorem dX4_begin_0 : decode cX4_begin 0 = .ok (.aload_n 0, 1) := by decide +kernel
theorem dX4_begin_1 : decode cX4_begin 1 = .ok (.iconst 0, 1) := by decide +kernel
theorem dX4_begin_2 : decode cX4_begin 2 = .ok (.putfield 27, 3) := by decide +kernel
theorem dX4_begin_5 : decode cX4_begin 5 = .ok (.aload_n 0, 1) := by decide +kernel
theorem dX4_begin_6 : decode cX4_begin 6 = .ok (.iconst 0, 1) := by decide +kernel
theorem dX4_begin_7 : decode cX4_begin 7 = .ok (.putfield 31, 3) := by decide +kernel
theorem dX4_begin_10 : decode cX4_begin 10 = .ok (.aload_n 0, 1) := by decide +kernel
theorem dX4_begin_11 : decode cX4_begin 11 = .ok (.lconst 0, 1) := by decide +kernel
theorem dX4_begin_12 : decode cX4_begin 12 = .ok (.putfield 34, 3) := by decide +kernel
theorem dX4_begin_15 : decode cX4_begin 15 = .ok (.iconst 0, 1) := by decide +kernel
theorem dX4_begin_16 : decode cX4_begin 16 = .ok (.istore_n 3, 1) := by decide +kernel
theorem dX4_begin_17 : decode cX4_begin 17 = .ok (.iload_n 3, 1) := by decide +kernel
theorem dX4_begin_18 : decode cX4_begin 18 = .ok (.aload_n 1, 1) := by decide +kernel
theorem dX4_begin_19 : decode cX4_begin 19 = .ok (.getfield 38, 3) := by decide +kernel
theorem dX4_begin_22 : decode cX4_begin 22 = .ok (.if_icmp .ge 34, 3) := by decide +kernel
theorem dX4_begin_25 : decode cX4_begin 25 = .ok (.aload_n 0, 1) := by decide +kernel
theorem dX4_begin_26 : decode cX4_begin 26 = .ok (.getfield 9, 3) := by decide +kernel
theorem dX4_begin_29 : decode cX4_begin 29 = .ok (.iload_n 3, 1) := by decide +kernel
theorem dX4_begin_30 : decode cX4_begin 30 = .ok (.aload_n 2, 1) := by decide +kernel
theorem dX4_begin_31 : decode cX4_begin 31 = .ok (.iload_n 3, 1) := by decide +kernel
theorem dX4_begin_32 : decode cX4_begin 32 = .ok (.iaload, 1) := by decide +kernel
theorem dX4_begin_33 : decode cX4_begin 33 = .ok (.iastore, 1) := by decide +kernel
theorem dX4_begin_34 : decode cX4_begin 34 = .ok (.aload_n 0, 1) := by decide +kernel
theorem dX4_begin_35 : decode cX4_begin 35 = .ok (.getfield 15, 3) := by decide +kernel
theorem dX4_begin_38 : decode cX4_begin 38 = .ok (.iload_n 3, 1) := by decide +kernel
theorem dX4_begin_39 : decode cX4_begin 39 = .ok (.aload_n 2, 1) := by decide +kernel
theorem dX4_begin_40 : decode cX4_begin 40 = .ok (.iload_n 3, 1) := by decide +kernel
theorem dX4_begin_41 : decode cX4_begin 41 = .ok (.iaload, 1) := by decide +kernel
theorem dX4_begin_42 : decode cX4_begin 42 = .ok (.iastore, 1) := by decide +kernel
theorem dX4_begin_43 : decode cX4_begin 43 = .ok (.aload_n 0, 1) := by decide +kernel
theorem dX4_begin_44 : decode cX4_begin 44 = .ok (.getfield 24, 3) := by decide +kernel
theorem dX4_begin_47 : decode cX4_begin 47 = .ok (.iload_n 3, 1) := by decide +kernel
theorem dX4_begin_48 : decode cX4_begin 48 = .ok (.iconst 0, 1) := by decide +kernel
theorem dX4_begin_49 : decode cX4_begin 49 = .ok (.iastore, 1) := by decide +kernel
theorem dX4_begin_50 : decode cX4_begin 50 = .ok (.iinc 3 1, 3) := by decide +kernel
theorem dX4_begin_53 : decode cX4_begin 53 = .ok (.goto (-36), 3) := by decide +kernel
theorem dX4_begin_56 : decode cX4_begin 56 = .ok (.iconst 0, 1) := by decide +kernel
theorem dX4_begin_57 : decode cX4_begin 57 = .ok (.istore_n 3, 1) := by decide +kernel
theorem dX4_begin_58 : decode cX4_begin 58 = .ok (.iload_n 3, 1) := by decide +kernel
theorem dX4_begin_59 : decode cX4_begin 59 = .ok (.aload_n 1, 1) := by decide +kernel
theorem dX4_begin_60 : decode cX4_begin 60 = .ok (.getfield 38, 3) := by decide +kernel
theorem dX4_begin_63 : decode cX4_begin 63 = .ok (.bipush 10, 2) := by decide +kernel
theorem dX4_begin_65 : decode cX4_begin 65 = .ok (.imul, 1) := by decide +kernel
theorem dX4_begin_66 : decode cX4_begin 66 = .ok (.if_icmp .ge 16, 3) := by decide +kernel
theorem dX4_begin_69 : decode cX4_begin 69 = .ok (.aload_n 0, 1) := by decide +kernel
theorem dX4_begin_70 : decode cX4_begin 70 = .ok (.getfield 18, 3) := by decide +kernel
theorem dX4_begin_73 : decode cX4_begin 73 = .ok (.iload_n 3, 1) := by decide +kernel
theorem dX4_begin_74 : decode cX4_begin 74 = .ok (.iconst (-1), 1) := by decide +kernel
theorem dX4_begin_75 : decode cX4_begin 75 = .ok (.iastore, 1) := by decide +kernel
theorem dX4_begin_76 : decode cX4_begin 76 = .ok (.iinc 3 1, 3) := by decide +kernel
theorem dX4_begin_79 : decode cX4_begin 79 = .ok (.goto (-21), 3) := by decide +kernel
theorem dX4_begin_82 : decode cX4_begin 82 = .ok (.return_, 1) := by decide +kernel
theorem dX4_change_0 : decode cX4_change 0 = .ok (.aload_n 0, 1) := by decide +kernel
theorem dX4_change_1 : decode cX4_change 1 = .ok (.getfield 9, 3) := by decide +kernel
theorem dX4_change_4 : decode cX4_change 4 = .ok (.iload_n 1, 1) := by decide +kernel
theorem dX4_change_5 : decode cX4_change 5 = .ok (.iaload, 1) := by decide +kernel
theorem dX4_change_6 : decode cX4_change 6 = .ok (.iload_n 2, 1) := by decide +kernel
theorem dX4_change_7 : decode cX4_change 7 = .ok (.if_icmp .ne 5, 3) := by decide +kernel
theorem dX4_change_10 : decode cX4_change 10 = .ok (.iconst 0, 1) := by decide +kernel
theorem dX4_change_11 : decode cX4_change 11 = .ok (.ireturn, 1) := by decide +kernel
theorem dX4_change_12 : decode cX4_change 12 = .ok (.aload_n 0, 1) := by decide +kernel
theorem dX4_change_13 : decode cX4_change 13 = .ok (.getfield 9, 3) := by decide +kernel
theorem dX4_change_16 : decode cX4_change 16 = .ok (.iload_n 1, 1) := by decide +kernel
theorem dX4_change_17 : decode cX4_change 17 = .ok (.iload_n 2, 1) := by decide +kernel
theorem dX4_change_18 : decode cX4_change 18 = .ok (.iastore, 1) := by decide +kernel
theorem dX4_change_19 : decode cX4_change 19 = .ok (.aload_n 0, 1) := by decide +kernel
theorem dX4_change_20 : decode cX4_change 20 = .ok (.dup, 1) := by decide +kernel
theorem dX4_change_21 : decode cX4_change 21 = .ok (.getfield 34, 3) := by decide +kernel
theorem dX4_change_24 : decode cX4_change 24 = .ok (.lconst 1, 1) := by decide +kernel
theorem dX4_change_25 : decode cX4_change 25 = .ok (.iload_n 1, 1) := by decide +kernel
theorem dX4_change_26 : decode cX4_change 26 = .ok (.lshl, 1) := by decide +kernel
theorem dX4_change_27 : decode cX4_change 27 = .ok (.lor, 1) := by decide +kernel
theorem dX4_change_28 : decode cX4_change 28 = .ok (.putfield 34, 3) := by decide +kernel
theorem dX4_change_31 : decode cX4_change 31 = .ok (.aload_n 0, 1) := by decide +kernel
theorem dX4_change_32 : decode cX4_change 32 = .ok (.getfield 24, 3) := by decide +kernel
theorem dX4_change_35 : decode cX4_change 35 = .ok (.iload_n 1, 1) := by decide +kernel
theorem dX4_change_36 : decode cX4_change 36 = .ok (.iaload, 1) := by decide +kernel
theorem dX4_change_37 : decode cX4_change 37 = .ok (.bipush 20, 2) := by decide +kernel
theorem dX4_change_39 : decode cX4_change 39 = .ok (.if_icmp .ge 37, 3) := by decide +kernel
theorem dX4_change_42 : decode cX4_change 42 = .ok (.aload_n 0, 1) := by decide +kernel
theorem dX4_change_43 : decode cX4_change 43 = .ok (.getfield 21, 3) := by decide +kernel
theorem dX4_change_46 : decode cX4_change 46 = .ok (.iload_n 1, 1) := by decide +kernel
theorem dX4_change_47 : decode cX4_change 47 = .ok (.bipush 20, 2) := by decide +kernel
theorem dX4_change_49 : decode cX4_change 49 = .ok (.imul, 1) := by decide +kernel
theorem dX4_change_50 : decode cX4_change 50 = .ok (.aload_n 0, 1) := by decide +kernel
theorem dX4_change_51 : decode cX4_change 51 = .ok (.getfield 24, 3) := by decide +kernel
theorem dX4_change_54 : decode cX4_change 54 = .ok (.iload_n 1, 1) := by decide +kernel
theorem dX4_change_55 : decode cX4_change 55 = .ok (.iaload, 1) := by decide +kernel
theorem dX4_change_56 : decode cX4_change 56 = .ok (.iadd, 1) := by decide +kernel
theorem dX4_change_57 : decode cX4_change 57 = .ok (.iconst 4, 1) := by decide +kernel
theorem dX4_change_58 : decode cX4_change 58 = .ok (.aload_n 0, 1) := by decide +kernel
theorem dX4_change_59 : decode cX4_change 59 = .ok (.getfield 27, 3) := by decide +kernel
theorem dX4_change_62 : decode cX4_change 62 = .ok (.imul, 1) := by decide +kernel
theorem dX4_change_63 : decode cX4_change 63 = .ok (.iload_n 2, 1) := by decide +kernel
theorem dX4_change_64 : decode cX4_change 64 = .ok (.iadd, 1) := by decide +kernel
theorem dX4_change_65 : decode cX4_change 65 = .ok (.iastore, 1) := by decide +kernel
theorem dX4_change_66 : decode cX4_change 66 = .ok (.aload_n 0, 1) := by decide +kernel
theorem dX4_change_67 : decode cX4_change 67 = .ok (.getfield 24, 3) := by decide +kernel
theorem dX4_change_70 : decode cX4_change 70 = .ok (.iload_n 1, 1) := by decide +kernel
theorem dX4_change_71 : decode cX4_change 71 = .ok (.dup2, 1) := by decide +kernel
theorem dX4_change_72 : decode cX4_change 72 = .ok (.iaload, 1) := by decide +kernel
theorem dX4_change_73 : decode cX4_change 73 = .ok (.iconst 1, 1) := by decide +kernel
theorem dX4_change_74 : decode cX4_change 74 = .ok (.iadd, 1) := by decide +kernel
theorem dX4_change_75 : decode cX4_change 75 = .ok (.iastore, 1) := by decide +kernel
theorem dX4_change_76 : decode cX4_change 76 = .ok (.iconst 1, 1) := by decide +kernel
theorem dX4_change_77 : decode cX4_change 77 = .ok (.ireturn, 1) := by decide +kernel
theorem dX4_quiet_0 : decode cX4_quiet 0 = .ok (.aload_n 0, 1) := by decide +kernel
theorem dX4_quiet_1 : decode cX4_quiet 1 = .ok (.getfield 31, 3) := by decide +kernel
theorem dX4_quiet_4 : decode cX4_quiet 4 = .ok (.ifCond .ne 16, 3) := by decide +kernel
theorem dX4_quiet_7 : decode cX4_quiet 7 = .ok (.aload_n 0, 1) := by decide +kernel
theorem dX4_quiet_8 : decode cX4_quiet 8 = .ok (.getfield 34, 3) := by decide +kernel
theorem dX4_quiet_11 : decode cX4_quiet 11 = .ok (.lconst 0, 1) := by decide +kernel
theorem dX4_quiet_12 : decode cX4_quiet 12 = .ok (.lcmp, 1) := by decide +kernel
theorem dX4_quiet_13 : decode cX4_quiet 13 = .ok (.ifCond .ne 7, 3) := by decide +kernel
theorem dX4_quiet_16 : decode cX4_quiet 16 = .ok (.iconst 1, 1) := by decide +kernel
theorem dX4_quiet_17 : decode cX4_quiet 17 = .ok (.goto 4, 3) := by decide +kernel
theorem dX4_quiet_20 : decode cX4_quiet 20 = .ok (.iconst 0, 1) := by decide +kernel
theorem dX4_quiet_21 : decode cX4_quiet 21 = .ok (.ireturn, 1) := by decide +kernel
theorem dX4_changeOf_0 : decode cX4_changeOf 0 = .ok (.iload_n 2, 1) := by decide +kernel
theorem dX4_changeOf_1 : decode cX4_changeOf 1 = .ok (.ifCond .lt 27, 3) := by decide +kernel
theorem dX4_changeOf_4 : decode cX4_changeOf 4 = .ok (.iload_n 2, 1) := by decide +kernel
theorem dX4_changeOf_5 : decode cX4_changeOf 5 = .ok (.aload_n 0, 1) := by decide +kernel
theorem dX4_changeOf_6 : decode cX4_changeOf 6 = .ok (.getfield 24, 3) := by decide +kernel
theorem dX4_changeOf_9 : decode cX4_changeOf 9 = .ok (.iload_n 1, 1) := by decide +kernel
theorem dX4_changeOf_10 : decode cX4_changeOf 10 = .ok (.iaload, 1) := by decide +kernel
theorem dX4_changeOf_11 : decode cX4_changeOf 11 = .ok (.if_icmp .ge 17, 3) := by decide +kernel
theorem dX4_changeOf_14 : decode cX4_changeOf 14 = .ok (.aload_n 0, 1) := by decide +kernel
theorem dX4_changeOf_15 : decode cX4_changeOf 15 = .ok (.getfield 21, 3) := by decide +kernel
theorem dX4_changeOf_18 : decode cX4_changeOf 18 = .ok (.iload_n 1, 1) := by decide +kernel
theorem dX4_changeOf_19 : decode cX4_changeOf 19 = .ok (.bipush 20, 2) := by decide +kernel
theorem dX4_changeOf_21 : decode cX4_changeOf 21 = .ok (.imul, 1) := by decide +kernel
theorem dX4_changeOf_22 : decode cX4_changeOf 22 = .ok (.iload_n 2, 1) := by decide +kernel
theorem dX4_changeOf_23 : decode cX4_changeOf 23 = .ok (.iadd, 1) := by decide +kernel
theorem dX4_changeOf_24 : decode cX4_changeOf 24 = .ok (.iaload, 1) := by decide +kernel
theorem dX4_changeOf_25 : decode cX4_changeOf 25 = .ok (.goto 4, 3) := by decide +kernel
theorem dX4_changeOf_28 : decode cX4_changeOf 28 = .ok (.iconst (-1), 1) := by decide +kernel
theorem dX4_changeOf_29 : decode cX4_changeOf 29 = .ok (.ireturn, 1) := by decide +kernel
set_option maxRecDepth 20000 in
theorem ggX4_turn_X4_follow : GoodIn wsX4_turn wsX4_follow := goodIn_r _ [7, 8, 9, 10, 11, 12, 13, 6, 14, 15, 16, 17, 18, 19, 20, 21, 22, 23, 24, 25, 26, 27, 28, 29, 30, 31, 32, 33, 34, 35, 36, 37, 38, 39, 40, 41, 42, 43, 44, 45, 46, 47, 48, 49, 1, 50, 51, 52, 53, 54, 55, 56, 57, 58, 59, 60, 61, 2, 62, 63, 64, 65, 66, 67, 68, 69, 70, 71, 72, 73, 74, 75, 76, 77, 78, 79, 80, 81, 86, 87, 88, 89, 90, 91, 92, 93, 94, 95, 96, 97, 98, 99, 100, 101, 102, 103, 104, 105, 106] (by decide +kernel) (by decide +kernel)
set_option maxRecDepth 20000 in
theorem gX4_turn_X4_follow : GoodIn wsX4_turn (wsV RX4 43 RX4 yX4_follow wsX4_follow) := goodIn_app (goodIn_of _ (by decide +kernel)) ggX4_turn_X4_follow
set_option maxRecDepth 20000 in
theorem ggX4_turn_X4_arrive : GoodIn wsX4_turn wsX4_arrive := goodIn_r _ [85, 9, 1, 61, 2, 75, 76, 6, 77, 78, 79, 80, 81, 44, 45, 46, 47, 16, 8, 48, 49, 94, 95, 96, 97, 98, 99, 100, 101, 102, 103, 104, 105, 106, 86, 87, 88, 89, 90, 91, 92, 93] (by decide +kernel) (by decide +kernel)
set_option maxRecDepth 20000 in
theorem gX4_turn_X4_arrive : GoodIn wsX4_turn (wsV RX4 47 RX4 yX4_arrive wsX4_arrive) := goodIn_app (goodIn_of _ (by decide +kernel)) ggX4_turn_X4_arrive
theorem dX4_turn_0 : decode cX4_turn 0 = .ok (.aload_n 0, 1) := by decide +kernel
theorem dX4_turn_1 : decode cX4_turn 1 = .ok (.getfield 27, 3) := by decide +kernel
theorem dX4_turn_4 : decode cX4_turn 4 = .ok (.iload_n 2, 1) := by decide +kernel
theorem dX4_turn_5 : decode cX4_turn 5 = .ok (.iadd, 1) := by decide +kernel
theorem dX4_turn_6 : decode cX4_turn 6 = .ok (.istore_n 3, 1) := by decide +kernel
theorem dX4_turn_7 : decode cX4_turn 7 = .ok (.aload_n 0, 1) := by decide +kernel
theorem dX4_turn_8 : decode cX4_turn 8 = .ok (.aload_n 1, 1) := by decide +kernel
theorem dX4_turn_9 : decode cX4_turn 9 = .ok (.invokevirtual 43, 3) := by decide +kernel
theorem dX4_turn_12 : decode cX4_turn 12 = .ok (.istore 4, 2) := by decide +kernel
theorem dX4_turn_14 : decode cX4_turn 14 = .ok (.iconst 0, 1) := by decide +kernel
theorem dX4_turn_15 : decode cX4_turn 15 = .ok (.istore 5, 2) := by decide +kernel
theorem dX4_turn_17 : decode cX4_turn 17 = .ok (.iload 5, 2) := by decide +kernel
theorem dX4_turn_19 : decode cX4_turn 19 = .ok (.iload_n 2, 1) := by decide +kernel
theorem dX4_turn_20 : decode cX4_turn 20 = .ok (.if_icmp .ge 46, 3) := by decide +kernel
theorem dX4_turn_23 : decode cX4_turn 23 = .ok (.aload_n 0, 1) := by decide +kernel
theorem dX4_turn_24 : decode cX4_turn 24 = .ok (.getfield 31, 3) := by decide +kernel
theorem dX4_turn_27 : decode cX4_turn 27 = .ok (.ifCond .le 39, 3) := by decide +kernel
theorem dX4_turn_30 : decode cX4_turn 30 = .ok (.aload_n 0, 1) := by decide +kernel
theorem dX4_turn_31 : decode cX4_turn 31 = .ok (.dup, 1) := by decide +kernel
theorem dX4_turn_32 : decode cX4_turn 32 = .ok (.getfield 27, 3) := by decide +kernel
theorem dX4_turn_35 : decode cX4_turn 35 = .ok (.iconst 1, 1) := by decide +kernel
theorem dX4_turn_36 : decode cX4_turn 36 = .ok (.iadd, 1) := by decide +kernel
theorem dX4_turn_37 : decode cX4_turn 37 = .ok (.putfield 27, 3) := by decide +kernel
theorem dX4_turn_40 : decode cX4_turn 40 = .ok (.iload 4, 2) := by decide +kernel
theorem dX4_turn_42 : decode cX4_turn 42 = .ok (.aload_n 0, 1) := by decide +kernel
theorem dX4_turn_43 : decode cX4_turn 43 = .ok (.aload_n 1, 1) := by decide +kernel
theorem dX4_turn_44 : decode cX4_turn 44 = .ok (.invokevirtual 47, 3) := by decide +kernel
theorem dX4_turn_47 : decode cX4_turn 47 = .ok (.iadd, 1) := by decide +kernel
theorem dX4_turn_48 : decode cX4_turn 48 = .ok (.istore 4, 2) := by decide +kernel
theorem dX4_turn_50 : decode cX4_turn 50 = .ok (.iload 4, 2) := by decide +kernel
theorem dX4_turn_52 : decode cX4_turn 52 = .ok (.aload_n 0, 1) := by decide +kernel
theorem dX4_turn_53 : decode cX4_turn 53 = .ok (.aload_n 1, 1) := by decide +kernel
theorem dX4_turn_54 : decode cX4_turn 54 = .ok (.invokevirtual 43, 3) := by decide +kernel
theorem dX4_turn_57 : decode cX4_turn 57 = .ok (.iadd, 1) := by decide +kernel
theorem dX4_turn_58 : decode cX4_turn 58 = .ok (.istore 4, 2) := by decide +kernel
theorem dX4_turn_60 : decode cX4_turn 60 = .ok (.iinc 5 1, 3) := by decide +kernel
theorem dX4_turn_63 : decode cX4_turn 63 = .ok (.goto (-46), 3) := by decide +kernel
theorem dX4_turn_66 : decode cX4_turn 66 = .ok (.aload_n 0, 1) := by decide +kernel
theorem dX4_turn_67 : decode cX4_turn 67 = .ok (.iload_n 3, 1) := by decide +kernel
theorem dX4_turn_68 : decode cX4_turn 68 = .ok (.putfield 27, 3) := by decide +kernel
theorem dX4_turn_71 : decode cX4_turn 71 = .ok (.iload 4, 2) := by decide +kernel
theorem dX4_turn_73 : decode cX4_turn 73 = .ok (.ireturn, 1) := by decide +kernel
set_option maxRecDepth 20000 in
theorem ggX4_slotAt_J9_floorMod_7cf53 : GoodIn wsX4_slotAt wsJ9_floorMod_7cf53 := goodIn_r _ [4] (by decide +kernel) (by decide +kernel)
set_option maxRecDepth 20000 in
theorem gX4_slotAt_J9_floorMod_7cf53 : GoodIn wsX4_slotAt (va_wsS RX4 50 yJ9_floorMod_7cf53 wsJ9_floorMod_7cf53) := goodIn_app (goodIn_of _ (by decide +kernel)) ggX4_slotAt_J9_floorMod_7cf53
theorem dX4_slotAt_0 : decode cX4_slotAt 0 = .ok (.iload_n 0, 1) := by decide +kernel
theorem dX4_slotAt_1 : decode cX4_slotAt 1 = .ok (.bipush 10, 2) := by decide +kernel
theorem dX4_slotAt_3 : decode cX4_slotAt 3 = .ok (.imul, 1) := by decide +kernel
theorem dX4_slotAt_4 : decode cX4_slotAt 4 = .ok (.iload_n 1, 1) := by decide +kernel
theorem dX4_slotAt_5 : decode cX4_slotAt 5 = .ok (.bipush 10, 2) := by decide +kernel
theorem dX4_slotAt_7 : decode cX4_slotAt 7 = .ok (.invokestatic 50, 3) := by decide +kernel
theorem dX4_slotAt_10 : decode cX4_slotAt 10 = .ok (.iadd, 1) := by decide +kernel
theorem dX4_slotAt_11 : decode cX4_slotAt 11 = .ok (.ireturn, 1) := by decide +kernel
set_option maxRecDepth 20000 in
theorem ggX4_arrive_X4_slotAt : GoodIn wsX4_arrive wsX4_slotAt := goodIn_r _ [8, 9, 10, 11, 12] (by decide +kernel) (by decide +kernel)
set_option maxRecDepth 20000 in
theorem gX4_arrive_X4_slotAt : GoodIn wsX4_arrive (va_wsS RX4 56 yX4_slotAt wsX4_slotAt) := goodIn_app (goodIn_of _ (by decide +kernel)) ggX4_arrive_X4_slotAt
set_option maxRecDepth 20000 in
theorem ggX4_arrive_X4_change : GoodIn wsX4_arrive wsX4_change := goodIn_r _ [16, 17, 18, 19, 20, 2, 34, 35, 36, 37, 38, 39, 40, 41] (by decide +kernel) (by decide +kernel)
set_option maxRecDepth 20000 in
theorem gX4_arrive_X4_change : GoodIn wsX4_arrive (wsV RX4 59 RX4 yX4_change wsX4_change) := goodIn_app (goodIn_of _ (by decide +kernel)) ggX4_arrive_X4_change
theorem dX4_arrive_0 : decode cX4_arrive 0 = .ok (.iconst 0, 1) := by decide +kernel
theorem dX4_arrive_1 : decode cX4_arrive 1 = .ok (.istore_n 2, 1) := by decide +kernel
theorem dX4_arrive_2 : decode cX4_arrive 2 = .ok (.iconst 0, 1) := by decide +kernel
theorem dX4_arrive_3 : decode cX4_arrive 3 = .ok (.istore_n 3, 1) := by decide +kernel
theorem dX4_arrive_4 : decode cX4_arrive 4 = .ok (.iload_n 3, 1) := by decide +kernel
theorem dX4_arrive_5 : decode cX4_arrive 5 = .ok (.aload_n 1, 1) := by decide +kernel
theorem dX4_arrive_6 : decode cX4_arrive 6 = .ok (.getfield 38, 3) := by decide +kernel
theorem dX4_arrive_9 : decode cX4_arrive 9 = .ok (.if_icmp .ge 63, 3) := by decide +kernel
theorem dX4_arrive_12 : decode cX4_arrive 12 = .ok (.iload_n 3, 1) := by decide +kernel
theorem dX4_arrive_13 : decode cX4_arrive 13 = .ok (.aload_n 0, 1) := by decide +kernel
theorem dX4_arrive_14 : decode cX4_arrive 14 = .ok (.getfield 27, 3) := by decide +kernel
theorem dX4_arrive_17 : decode cX4_arrive 17 = .ok (.invokestatic 56, 3) := by decide +kernel
theorem dX4_arrive_20 : decode cX4_arrive 20 = .ok (.istore 4, 2) := by decide +kernel
theorem dX4_arrive_22 : decode cX4_arrive 22 = .ok (.aload_n 0, 1) := by decide +kernel
theorem dX4_arrive_23 : decode cX4_arrive 23 = .ok (.getfield 18, 3) := by decide +kernel
theorem dX4_arrive_26 : decode cX4_arrive 26 = .ok (.iload 4, 2) := by decide +kernel
theorem dX4_arrive_28 : decode cX4_arrive 28 = .ok (.iaload, 1) := by decide +kernel
theorem dX4_arrive_29 : decode cX4_arrive 29 = .ok (.iconst (-1), 1) := by decide +kernel
theorem dX4_arrive_30 : decode cX4_arrive 30 = .ok (.if_icmp .eq 36, 3) := by decide +kernel
theorem dX4_arrive_33 : decode cX4_arrive 33 = .ok (.iload_n 2, 1) := by decide +kernel
theorem dX4_arrive_34 : decode cX4_arrive 34 = .ok (.aload_n 0, 1) := by decide +kernel
theorem dX4_arrive_35 : decode cX4_arrive 35 = .ok (.iload_n 3, 1) := by decide +kernel
theorem dX4_arrive_36 : decode cX4_arrive 36 = .ok (.aload_n 0, 1) := by decide +kernel
theorem dX4_arrive_37 : decode cX4_arrive 37 = .ok (.getfield 18, 3) := by decide +kernel
theorem dX4_arrive_40 : decode cX4_arrive 40 = .ok (.iload 4, 2) := by decide +kernel
theorem dX4_arrive_42 : decode cX4_arrive 42 = .ok (.iaload, 1) := by decide +kernel
theorem dX4_arrive_43 : decode cX4_arrive 43 = .ok (.invokevirtual 59, 3) := by decide +kernel
theorem dX4_arrive_46 : decode cX4_arrive 46 = .ok (.iadd, 1) := by decide +kernel
theorem dX4_arrive_47 : decode cX4_arrive 47 = .ok (.istore_n 2, 1) := by decide +kernel
theorem dX4_arrive_48 : decode cX4_arrive 48 = .ok (.aload_n 0, 1) := by decide +kernel
theorem dX4_arrive_49 : decode cX4_arrive 49 = .ok (.getfield 18, 3) := by decide +kernel
theorem dX4_arrive_52 : decode cX4_arrive 52 = .ok (.iload 4, 2) := by decide +kernel
theorem dX4_arrive_54 : decode cX4_arrive 54 = .ok (.iconst (-1), 1) := by decide +kernel
theorem dX4_arrive_55 : decode cX4_arrive 55 = .ok (.iastore, 1) := by decide +kernel
theorem dX4_arrive_56 : decode cX4_arrive 56 = .ok (.aload_n 0, 1) := by decide +kernel
theorem dX4_arrive_57 : decode cX4_arrive 57 = .ok (.dup, 1) := by decide +kernel
theorem dX4_arrive_58 : decode cX4_arrive 58 = .ok (.getfield 31, 3) := by decide +kernel
theorem dX4_arrive_61 : decode cX4_arrive 61 = .ok (.iconst 1, 1) := by decide +kernel
theorem dX4_arrive_62 : decode cX4_arrive 62 = .ok (.isub, 1) := by decide +kernel
theorem dX4_arrive_63 : decode cX4_arrive 63 = .ok (.putfield 31, 3) := by decide +kernel
theorem dX4_arrive_66 : decode cX4_arrive 66 = .ok (.iinc 3 1, 3) := by decide +kernel
theorem dX4_arrive_69 : decode cX4_arrive 69 = .ok (.goto (-65), 3) := by decide +kernel
theorem dX4_arrive_72 : decode cX4_arrive 72 = .ok (.iload_n 2, 1) := by decide +kernel
theorem dX4_arrive_73 : decode cX4_arrive 73 = .ok (.ireturn, 1) := by decide +kernel
set_option maxRecDepth 20000 in
theorem ggX4_follow_X4_changeBuses : GoodIn wsX4_follow wsX4_changeBuses := goodIn_r _ [8, 2, 9, 3, 10, 11, 12, 13, 14, 15, 16, 17, 18, 19, 20, 21, 22, 23, 24, 25, 26, 27, 28, 29, 30, 31, 32, 33, 34, 35, 36, 37, 38, 39, 40, 7, 41, 1, 42, 43, 44, 86, 87, 88, 89, 90, 91, 92, 93, 94, 95, 96, 97, 98, 78, 79, 80, 81, 82, 83, 84, 85] (by decide +kernel) (by decide +kernel)
set_option maxRecDepth 20000 in
theorem gX4_follow_X4_changeBuses : GoodIn wsX4_follow (wsV RX4 62 RX4 yX4_changeBuses wsX4_changeBuses) := goodIn_app (goodIn_of _ (by decide +kernel)) ggX4_follow_X4_changeBuses
set_option maxRecDepth 20000 in
theorem ggX4_follow_X0_dependsOn : GoodIn wsX4_follow wsX0_dependsOn := goodIn_r _ [48, 49, 86, 87, 88, 89, 90, 91, 92, 93, 94, 95, 96, 97, 98] (by decide +kernel) (by decide +kernel)
set_option maxRecDepth 20000 in
theorem gX4_follow_X0_dependsOn : GoodIn wsX4_follow (wsV RX4 68 RX0 yX0_dependsOn wsX0_dependsOn) := goodIn_app (goodIn_of _ (by decide +kernel)) ggX4_follow_X0_dependsOn
set_option maxRecDepth 20000 in
theorem ggX4_follow_X4_lookAt : GoodIn wsX4_follow wsX4_lookAt := goodIn_r _ [53, 10, 54, 44, 55, 56, 57, 58, 59, 13, 60, 61, 62, 63, 64, 25, 26, 27, 18, 28, 29, 35, 36, 37, 15, 16, 17, 19, 20, 21, 65, 66, 67, 68, 69, 70, 71, 72, 7, 73, 74, 75, 76, 77, 78, 79, 80, 81, 82, 83, 84, 85, 86, 87, 88, 89, 90, 91, 92, 93, 94, 95, 96, 97, 98] (by decide +kernel) (by decide +kernel)
set_option maxRecDepth 20000 in
theorem gX4_follow_X4_lookAt : GoodIn wsX4_follow (wsV RX4 72 RX4 yX4_lookAt wsX4_lookAt) := goodIn_app (goodIn_of _ (by decide +kernel)) ggX4_follow_X4_lookAt
theorem dX4_follow_0 : decode cX4_follow 0 = .ok (.aload_n 0, 1) := by decide +kernel
theorem dX4_follow_1 : decode cX4_follow 1 = .ok (.getfield 34, 3) := by decide +kernel
theorem dX4_follow_4 : decode cX4_follow 4 = .ok (.lconst 0, 1) := by decide +kernel
theorem dX4_follow_5 : decode cX4_follow 5 = .ok (.lcmp, 1) := by decide +kernel
theorem dX4_follow_6 : decode cX4_follow 6 = .ok (.ifCond .ne 5, 3) := by decide +kernel
theorem dX4_follow_9 : decode cX4_follow 9 = .ok (.iconst 0, 1) := by decide +kernel
theorem dX4_follow_10 : decode cX4_follow 10 = .ok (.ireturn, 1) := by decide +kernel
theorem dX4_follow_11 : decode cX4_follow 11 = .ok (.aload_n 0, 1) := by decide +kernel
theorem dX4_follow_12 : decode cX4_follow 12 = .ok (.aload_n 1, 1) := by decide +kernel
theorem dX4_follow_13 : decode cX4_follow 13 = .ok (.invokevirtual 62, 3) := by decide +kernel
theorem dX4_follow_16 : decode cX4_follow 16 = .ok (.istore_n 2, 1) := by decide +kernel
theorem dX4_follow_17 : decode cX4_follow 17 = .ok (.iconst 0, 1) := by decide +kernel
theorem dX4_follow_18 : decode cX4_follow 18 = .ok (.istore_n 3, 1) := by decide +kernel
theorem dX4_follow_19 : decode cX4_follow 19 = .ok (.iload_n 3, 1) := by decide +kernel
theorem dX4_follow_20 : decode cX4_follow 20 = .ok (.aload_n 1, 1) := by decide +kernel
theorem dX4_follow_21 : decode cX4_follow 21 = .ok (.getfield 38, 3) := by decide +kernel
theorem dX4_follow_24 : decode cX4_follow 24 = .ok (.if_icmp .ge 37, 3) := by decide +kernel
theorem dX4_follow_27 : decode cX4_follow 27 = .ok (.aload_n 1, 1) := by decide +kernel
theorem dX4_follow_28 : decode cX4_follow 28 = .ok (.getfield 65, 3) := by decide +kernel
theorem dX4_follow_31 : decode cX4_follow 31 = .ok (.iload_n 3, 1) := by decide +kernel
theorem dX4_follow_32 : decode cX4_follow 32 = .ok (.iaload, 1) := by decide +kernel
theorem dX4_follow_33 : decode cX4_follow 33 = .ok (.iconst 2, 1) := by decide +kernel
theorem dX4_follow_34 : decode cX4_follow 34 = .ok (.if_icmp .ne 21, 3) := by decide +kernel
theorem dX4_follow_37 : decode cX4_follow 37 = .ok (.aload_n 1, 1) := by decide +kernel
theorem dX4_follow_38 : decode cX4_follow 38 = .ok (.iload_n 3, 1) := by decide +kernel
theorem dX4_follow_39 : decode cX4_follow 39 = .ok (.aload_n 0, 1) := by decide +kernel
theorem dX4_follow_40 : decode cX4_follow 40 = .ok (.getfield 34, 3) := by decide +kernel
theorem dX4_follow_43 : decode cX4_follow 43 = .ok (.invokevirtual 68, 3) := by decide +kernel
theorem dX4_follow_46 : decode cX4_follow 46 = .ok (.ifCond .eq 9, 3) := by decide +kernel
theorem dX4_follow_49 : decode cX4_follow 49 = .ok (.aload_n 0, 1) := by decide +kernel
theorem dX4_follow_50 : decode cX4_follow 50 = .ok (.aload_n 1, 1) := by decide +kernel
theorem dX4_follow_51 : decode cX4_follow 51 = .ok (.iload_n 3, 1) := by decide +kernel
theorem dX4_follow_52 : decode cX4_follow 52 = .ok (.invokevirtual 72, 3) := by decide +kernel
theorem dX4_follow_55 : decode cX4_follow 55 = .ok (.iinc 3 1, 3) := by decide +kernel
theorem dX4_follow_58 : decode cX4_follow 58 = .ok (.goto (-39), 3) := by decide +kernel
theorem dX4_follow_61 : decode cX4_follow 61 = .ok (.aload_n 0, 1) := by decide +kernel
theorem dX4_follow_62 : decode cX4_follow 62 = .ok (.lconst 0, 1) := by decide +kernel
theorem dX4_follow_63 : decode cX4_follow 63 = .ok (.putfield 34, 3) := by decide +kernel
theorem dX4_follow_66 : decode cX4_follow 66 = .ok (.iload_n 2, 1) := by decide +kernel
theorem dX4_follow_67 : decode cX4_follow 67 = .ok (.ireturn, 1) := by decide +kernel
set_option maxRecDepth 20000 in
theorem ggX4_changeBuses_X2_busValue : GoodIn wsX4_changeBuses wsX2_busValue := goodIn_r _ [8, 9, 10, 11, 12, 13, 14, 15, 16, 17, 7, 18, 19, 20, 21, 22, 23, 24, 25, 26, 27, 28, 29, 30, 31, 41, 42, 43, 44, 45, 46, 47, 48, 49, 50, 51, 52, 53] (by decide +kernel) (by decide +kernel)
set_option maxRecDepth 20000 in
theorem gX4_changeBuses_X2_busValue : GoodIn wsX4_changeBuses (va_wsS RX4 79 yX2_busValue wsX2_busValue) := goodIn_app (goodIn_of _ (by decide +kernel)) ggX4_changeBuses_X2_busValue
set_option maxRecDepth 20000 in
theorem ggX4_changeBuses_X4_change : GoodIn wsX4_changeBuses wsX4_change := goodIn_r _ [36, 4, 37, 38, 39, 40, 54, 55, 56, 57, 58, 59, 60, 61] (by decide +kernel) (by decide +kernel)
set_option maxRecDepth 20000 in
theorem gX4_changeBuses_X4_change : GoodIn wsX4_changeBuses (wsV RX4 59 RX4 yX4_change wsX4_change) := goodIn_app (goodIn_of _ (by decide +kernel)) ggX4_changeBuses_X4_change
theorem dX4_changeBuses_0 : decode cX4_changeBuses 0 = .ok (.iconst 0, 1) := by decide +kernel
theorem dX4_changeBuses_1 : decode cX4_changeBuses 1 = .ok (.istore_n 2, 1) := by decide +kernel
theorem dX4_changeBuses_2 : decode cX4_changeBuses 2 = .ok (.iconst 0, 1) := by decide +kernel
theorem dX4_changeBuses_3 : decode cX4_changeBuses 3 = .ok (.istore_n 3, 1) := by decide +kernel
theorem dX4_changeBuses_4 : decode cX4_changeBuses 4 = .ok (.iload_n 3, 1) := by decide +kernel
theorem dX4_changeBuses_5 : decode cX4_changeBuses 5 = .ok (.aload_n 1, 1) := by decide +kernel
theorem dX4_changeBuses_6 : decode cX4_changeBuses 6 = .ok (.getfield 38, 3) := by decide +kernel
theorem dX4_changeBuses_9 : decode cX4_changeBuses 9 = .ok (.if_icmp .ge 47, 3) := by decide +kernel
theorem dX4_changeBuses_12 : decode cX4_changeBuses 12 = .ok (.aload_n 1, 1) := by decide +kernel
theorem dX4_changeBuses_13 : decode cX4_changeBuses 13 = .ok (.getfield 76, 3) := by decide +kernel
theorem dX4_changeBuses_16 : decode cX4_changeBuses 16 = .ok (.iload_n 3, 1) := by decide +kernel
theorem dX4_changeBuses_17 : decode cX4_changeBuses 17 = .ok (.iaload, 1) := by decide +kernel
theorem dX4_changeBuses_18 : decode cX4_changeBuses 18 = .ok (.istore 4, 2) := by decide +kernel
theorem dX4_changeBuses_20 : decode cX4_changeBuses 20 = .ok (.aload_n 1, 1) := by decide +kernel
theorem dX4_changeBuses_21 : decode cX4_changeBuses 21 = .ok (.getfield 65, 3) := by decide +kernel
theorem dX4_changeBuses_24 : decode cX4_changeBuses 24 = .ok (.iload 4, 2) := by decide +kernel
theorem dX4_changeBuses_26 : decode cX4_changeBuses 26 = .ok (.iaload, 1) := by decide +kernel
theorem dX4_changeBuses_27 : decode cX4_changeBuses 27 = .ok (.iconst 1, 1) := by decide +kernel
theorem dX4_changeBuses_28 : decode cX4_changeBuses 28 = .ok (.if_icmp .ne 22, 3) := by decide +kernel
theorem dX4_changeBuses_31 : decode cX4_changeBuses 31 = .ok (.iload_n 2, 1) := by decide +kernel
theorem dX4_changeBuses_32 : decode cX4_changeBuses 32 = .ok (.aload_n 0, 1) := by decide +kernel
theorem dX4_changeBuses_33 : decode cX4_changeBuses 33 = .ok (.iload 4, 2) := by decide +kernel
theorem dX4_changeBuses_35 : decode cX4_changeBuses 35 = .ok (.aload_n 1, 1) := by decide +kernel
theorem dX4_changeBuses_36 : decode cX4_changeBuses 36 = .ok (.iload 4, 2) := by decide +kernel
theorem dX4_changeBuses_38 : decode cX4_changeBuses 38 = .ok (.aload_n 0, 1) := by decide +kernel
theorem dX4_changeBuses_39 : decode cX4_changeBuses 39 = .ok (.getfield 9, 3) := by decide +kernel
theorem dX4_changeBuses_42 : decode cX4_changeBuses 42 = .ok (.invokestatic 79, 3) := by decide +kernel
theorem dX4_changeBuses_45 : decode cX4_changeBuses 45 = .ok (.invokevirtual 59, 3) := by decide +kernel
theorem dX4_changeBuses_48 : decode cX4_changeBuses 48 = .ok (.iadd, 1) := by decide +kernel
theorem dX4_changeBuses_49 : decode cX4_changeBuses 49 = .ok (.istore_n 2, 1) := by decide +kernel
theorem dX4_changeBuses_50 : decode cX4_changeBuses 50 = .ok (.iinc 3 1, 3) := by decide +kernel
theorem dX4_changeBuses_53 : decode cX4_changeBuses 53 = .ok (.goto (-49), 3) := by decide +kernel
theorem dX4_changeBuses_56 : decode cX4_changeBuses 56 = .ok (.iload_n 2, 1) := by decide +kernel
theorem dX4_changeBuses_57 : decode cX4_changeBuses 57 = .ok (.ireturn, 1) := by decide +kernel
set_option maxRecDepth 20000 in
theorem ggX4_lookAt_X2_gateValue : GoodIn wsX4_lookAt wsX2_gateValue := goodIn_r _ [10, 11, 12, 13, 9, 14, 15, 16, 17, 18, 19, 20, 21, 22, 23, 24, 25, 26, 27, 28, 29, 30, 31, 32, 33, 34, 35, 52, 53, 54, 55, 56, 57, 58, 59, 60, 61, 62, 63, 64] (by decide +kernel) (by decide +kernel)
set_option maxRecDepth 20000 in
theorem gX4_lookAt_X2_gateValue : GoodIn wsX4_lookAt (va_wsS RX4 85 yX2_gateValue wsX2_gateValue) := goodIn_app (goodIn_of _ (by decide +kernel)) ggX4_lookAt_X2_gateValue
set_option maxRecDepth 20000 in
theorem ggX4_lookAt_X4_slotAt : GoodIn wsX4_lookAt wsX4_slotAt := goodIn_r _ [39, 40, 41, 42, 43] (by decide +kernel) (by decide +kernel)
set_option maxRecDepth 20000 in
theorem gX4_lookAt_X4_slotAt : GoodIn wsX4_lookAt (va_wsS RX4 56 yX4_slotAt wsX4_slotAt) := goodIn_app (goodIn_of _ (by decide +kernel)) ggX4_lookAt_X4_slotAt
theorem dX4_lookAt_0 : decode cX4_lookAt 0 = .ok (.aload_n 1, 1) := by decide +kernel
theorem dX4_lookAt_1 : decode cX4_lookAt 1 = .ok (.iload_n 2, 1) := by decide +kernel
theorem dX4_lookAt_2 : decode cX4_lookAt 2 = .ok (.aload_n 0, 1) := by decide +kernel
theorem dX4_lookAt_3 : decode cX4_lookAt 3 = .ok (.getfield 9, 3) := by decide +kernel
theorem dX4_lookAt_6 : decode cX4_lookAt 6 = .ok (.invokestatic 85, 3) := by decide +kernel
theorem dX4_lookAt_9 : decode cX4_lookAt 9 = .ok (.istore_n 3, 1) := by decide +kernel
theorem dX4_lookAt_10 : decode cX4_lookAt 10 = .ok (.iload_n 3, 1) := by decide +kernel
theorem dX4_lookAt_11 : decode cX4_lookAt 11 = .ok (.aload_n 0, 1) := by decide +kernel
theorem dX4_lookAt_12 : decode cX4_lookAt 12 = .ok (.getfield 15, 3) := by decide +kernel
theorem dX4_lookAt_15 : decode cX4_lookAt 15 = .ok (.iload_n 2, 1) := by decide +kernel
theorem dX4_lookAt_16 : decode cX4_lookAt 16 = .ok (.iaload, 1) := by decide +kernel
theorem dX4_lookAt_17 : decode cX4_lookAt 17 = .ok (.if_icmp .ne 4, 3) := by decide +kernel
theorem dX4_lookAt_20 : decode cX4_lookAt 20 = .ok (.return_, 1) := by decide +kernel
theorem dX4_lookAt_21 : decode cX4_lookAt 21 = .ok (.aload_n 0, 1) := by decide +kernel
theorem dX4_lookAt_22 : decode cX4_lookAt 22 = .ok (.getfield 15, 3) := by decide +kernel
theorem dX4_lookAt_25 : decode cX4_lookAt 25 = .ok (.iload_n 2, 1) := by decide +kernel
theorem dX4_lookAt_26 : decode cX4_lookAt 26 = .ok (.iload_n 3, 1) := by decide +kernel
theorem dX4_lookAt_27 : decode cX4_lookAt 27 = .ok (.iastore, 1) := by decide +kernel
theorem dX4_lookAt_28 : decode cX4_lookAt 28 = .ok (.iload_n 2, 1) := by decide +kernel
theorem dX4_lookAt_29 : decode cX4_lookAt 29 = .ok (.aload_n 0, 1) := by decide +kernel
theorem dX4_lookAt_30 : decode cX4_lookAt 30 = .ok (.getfield 27, 3) := by decide +kernel
theorem dX4_lookAt_33 : decode cX4_lookAt 33 = .ok (.aload_n 1, 1) := by decide +kernel
theorem dX4_lookAt_34 : decode cX4_lookAt 34 = .ok (.getfield 88, 3) := by decide +kernel
theorem dX4_lookAt_37 : decode cX4_lookAt 37 = .ok (.iload_n 2, 1) := by decide +kernel
theorem dX4_lookAt_38 : decode cX4_lookAt 38 = .ok (.iaload, 1) := by decide +kernel
theorem dX4_lookAt_39 : decode cX4_lookAt 39 = .ok (.iadd, 1) := by decide +kernel
theorem dX4_lookAt_40 : decode cX4_lookAt 40 = .ok (.invokestatic 56, 3) := by decide +kernel
theorem dX4_lookAt_43 : decode cX4_lookAt 43 = .ok (.istore 4, 2) := by decide +kernel
theorem dX4_lookAt_45 : decode cX4_lookAt 45 = .ok (.aload_n 0, 1) := by decide +kernel
theorem dX4_lookAt_46 : decode cX4_lookAt 46 = .ok (.getfield 18, 3) := by decide +kernel
theorem dX4_lookAt_49 : decode cX4_lookAt 49 = .ok (.iload 4, 2) := by decide +kernel
theorem dX4_lookAt_51 : decode cX4_lookAt 51 = .ok (.iaload, 1) := by decide +kernel
theorem dX4_lookAt_52 : decode cX4_lookAt 52 = .ok (.iconst (-1), 1) := by decide +kernel
theorem dX4_lookAt_53 : decode cX4_lookAt 53 = .ok (.if_icmp .ne 13, 3) := by decide +kernel
theorem dX4_lookAt_56 : decode cX4_lookAt 56 = .ok (.aload_n 0, 1) := by decide +kernel
theorem dX4_lookAt_57 : decode cX4_lookAt 57 = .ok (.dup, 1) := by decide +kernel
theorem dX4_lookAt_58 : decode cX4_lookAt 58 = .ok (.getfield 31, 3) := by decide +kernel
theorem dX4_lookAt_61 : decode cX4_lookAt 61 = .ok (.iconst 1, 1) := by decide +kernel
theorem dX4_lookAt_62 : decode cX4_lookAt 62 = .ok (.iadd, 1) := by decide +kernel
theorem dX4_lookAt_63 : decode cX4_lookAt 63 = .ok (.putfield 31, 3) := by decide +kernel
theorem dX4_lookAt_66 : decode cX4_lookAt 66 = .ok (.aload_n 0, 1) := by decide +kernel
theorem dX4_lookAt_67 : decode cX4_lookAt 67 = .ok (.getfield 18, 3) := by decide +kernel
theorem dX4_lookAt_70 : decode cX4_lookAt 70 = .ok (.iload 4, 2) := by decide +kernel
theorem dX4_lookAt_72 : decode cX4_lookAt 72 = .ok (.iload_n 3, 1) := by decide +kernel
theorem dX4_lookAt_73 : decode cX4_lookAt 73 = .ok (.iastore, 1) := by decide +kernel
theorem dX4_lookAt_74 : decode cX4_lookAt 74 = .ok (.return_, 1) := by decide +kernel
theorem dX5_init_0 : decode cX5_init 0 = .ok (.aload_n 0, 1) := by decide +kernel
theorem dX5_init_1 : decode cX5_init 1 = .ok (.invokespecial 3, 3) := by decide +kernel
theorem dX5_init_4 : decode cX5_init 4 = .ok (.aload_n 0, 1) := by decide +kernel
theorem dX5_init_5 : decode cX5_init 5 = .ok (.bipush 60, 2) := by decide +kernel
theorem dX5_init_7 : decode cX5_init 7 = .ok (.newarray .long, 2) := by decide +kernel
theorem dX5_init_9 : decode cX5_init 9 = .ok (.putfield 9, 3) := by decide +kernel
theorem dX5_init_12 : decode cX5_init 12 = .ok (.return_, 1) := by decide +kernel
set_option maxRecDepth 20000 in
theorem ggX5_goThrough_X5_fillSources : GoodIn wsX5_goThrough wsX5_fillSources := goodIn_r _ [10, 11, 12, 4, 13, 14, 15, 16, 17, 18, 19, 20, 21, 22, 23, 24, 25, 26, 27, 28, 29, 9, 30, 31, 85, 86, 87, 88, 89, 90, 91, 92, 93, 94, 95, 96, 97, 80, 81, 82, 83, 84] (by decide +kernel) (by decide +kernel)
set_option maxRecDepth 20000 in
theorem gX5_goThrough_X5_fillSources : GoodIn wsX5_goThrough (wsV RX5 31 RX5 yX5_fillSources wsX5_fillSources) := goodIn_app (goodIn_of _ (by decide +kernel)) ggX5_goThrough_X5_fillSources
set_option maxRecDepth 20000 in
theorem ggX5_goThrough_X5_followOthers : GoodIn wsX5_goThrough wsX5_followOthers := goodIn_r _ [35, 11, 36, 37, 12, 38, 39, 40, 9, 41, 42, 4, 43, 44, 45, 16, 46, 47, 48, 49, 50, 51, 22, 52, 53, 54, 55, 56, 57, 58, 59, 60, 61, 62, 63, 5, 64, 65, 66, 67, 68, 85, 86, 87, 88, 89, 90, 91, 92, 93, 94, 95, 96, 97, 80, 81, 82, 83, 84] (by decide +kernel) (by decide +kernel)
set_option maxRecDepth 20000 in
theorem gX5_goThrough_X5_followOthers : GoodIn wsX5_goThrough (wsV RX5 35 RX5 yX5_followOthers wsX5_followOthers) := goodIn_app (goodIn_of _ (by decide +kernel)) ggX5_goThrough_X5_followOthers
set_option maxRecDepth 20000 in
theorem ggX5_goThrough_X5_collect : GoodIn wsX5_goThrough wsX5_collect := goodIn_r _ [72, 1, 5, 11, 12, 3, 4, 2, 73, 74, 75, 76, 77, 78, 79, 80, 81, 82, 83, 84, 85, 86, 87, 88, 89, 90, 91, 92, 93, 94, 95, 96, 97] (by decide +kernel) (by decide +kernel)
set_option maxRecDepth 20000 in
theorem gX5_goThrough_X5_collect : GoodIn wsX5_goThrough (wsV RX5 39 RX5 yX5_collect wsX5_collect) := goodIn_app (goodIn_of _ (by decide +kernel)) ggX5_goThrough_X5_collect
theorem dX5_goThrough_0 : decode cX5_goThrough 0 = .ok (.aload_n 0, 1) := by decide +kernel
theorem dX5_goThrough_1 : decode cX5_goThrough 1 = .ok (.iconst 0, 1) := by decide +kernel
theorem dX5_goThrough_2 : decode cX5_goThrough 2 = .ok (.putfield 15, 3) := by decide +kernel
theorem dX5_goThrough_5 : decode cX5_goThrough 5 = .ok (.aload_n 0, 1) := by decide +kernel
theorem dX5_goThrough_6 : decode cX5_goThrough 6 = .ok (.lconst 0, 1) := by decide +kernel
theorem dX5_goThrough_7 : decode cX5_goThrough 7 = .ok (.putfield 19, 3) := by decide +kernel
theorem dX5_goThrough_10 : decode cX5_goThrough 10 = .ok (.aload_n 0, 1) := by decide +kernel
theorem dX5_goThrough_11 : decode cX5_goThrough 11 = .ok (.lconst 0, 1) := by decide +kernel
theorem dX5_goThrough_12 : decode cX5_goThrough 12 = .ok (.putfield 23, 3) := by decide +kernel
theorem dX5_goThrough_15 : decode cX5_goThrough 15 = .ok (.iload_n 3, 1) := by decide +kernel
theorem dX5_goThrough_16 : decode cX5_goThrough 16 = .ok (.bipush 6, 2) := by decide +kernel
theorem dX5_goThrough_18 : decode cX5_goThrough 18 = .ok (.if_icmp .le 12, 3) := by decide +kernel
theorem dX5_goThrough_21 : decode cX5_goThrough 21 = .ok (.iconst 1, 1) := by decide +kernel
theorem dX5_goThrough_22 : decode cX5_goThrough 22 = .ok (.iload_n 3, 1) := by decide +kernel
theorem dX5_goThrough_23 : decode cX5_goThrough 23 = .ok (.bipush 6, 2) := by decide +kernel
theorem dX5_goThrough_25 : decode cX5_goThrough 25 = .ok (.isub, 1) := by decide +kernel
theorem dX5_goThrough_26 : decode cX5_goThrough 26 = .ok (.ishl, 1) := by decide +kernel
theorem dX5_goThrough_27 : decode cX5_goThrough 27 = .ok (.goto 4, 3) := by decide +kernel
theorem dX5_goThrough_30 : decode cX5_goThrough 30 = .ok (.iconst 1, 1) := by decide +kernel
theorem dX5_goThrough_31 : decode cX5_goThrough 31 = .ok (.istore 4, 2) := by decide +kernel
theorem dX5_goThrough_33 : decode cX5_goThrough 33 = .ok (.iload_n 3, 1) := by decide +kernel
theorem dX5_goThrough_34 : decode cX5_goThrough 34 = .ok (.bipush 6, 2) := by decide +kernel
theorem dX5_goThrough_36 : decode cX5_goThrough 36 = .ok (.if_icmp .lt 9, 3) := by decide +kernel
theorem dX5_goThrough_39 : decode cX5_goThrough 39 = .ok (.ldc2_w 26, 3) := by decide +kernel
theorem dX5_goThrough_42 : decode cX5_goThrough 42 = .ok (.goto 10, 3) := by decide +kernel
theorem dX5_goThrough_45 : decode cX5_goThrough 45 = .ok (.lconst 1, 1) := by decide +kernel
theorem dX5_goThrough_46 : decode cX5_goThrough 46 = .ok (.iconst 1, 1) := by decide +kernel
theorem dX5_goThrough_47 : decode cX5_goThrough 47 = .ok (.iload_n 3, 1) := by decide +kernel
theorem dX5_goThrough_48 : decode cX5_goThrough 48 = .ok (.ishl, 1) := by decide +kernel
theorem dX5_goThrough_49 : decode cX5_goThrough 49 = .ok (.lshl, 1) := by decide +kernel
theorem dX5_goThrough_50 : decode cX5_goThrough 50 = .ok (.lconst 1, 1) := by decide +kernel
theorem dX5_goThrough_51 : decode cX5_goThrough 51 = .ok (.lsub, 1) := by decide +kernel
theorem dX5_goThrough_52 : decode cX5_goThrough 52 = .ok (.lstore 5, 2) := by decide +kernel
theorem dX5_goThrough_54 : decode cX5_goThrough 54 = .ok (.iconst 0, 1) := by decide +kernel
theorem dX5_goThrough_55 : decode cX5_goThrough 55 = .ok (.istore 7, 2) := by decide +kernel
theorem dX5_goThrough_57 : decode cX5_goThrough 57 = .ok (.iload 7, 2) := by decide +kernel
theorem dX5_goThrough_59 : decode cX5_goThrough 59 = .ok (.iload 4, 2) := by decide +kernel
theorem dX5_goThrough_61 : decode cX5_goThrough 61 = .ok (.if_icmp .ge 33, 3) := by decide +kernel
theorem dX5_goThrough_64 : decode cX5_goThrough 64 = .ok (.aload_n 0, 1) := by decide +kernel
theorem dX5_goThrough_65 : decode cX5_goThrough 65 = .ok (.lload 5, 2) := by decide +kernel
theorem dX5_goThrough_67 : decode cX5_goThrough 67 = .ok (.putfield 28, 3) := by decide +kernel
theorem dX5_goThrough_70 : decode cX5_goThrough 70 = .ok (.aload_n 0, 1) := by decide +kernel
theorem dX5_goThrough_71 : decode cX5_goThrough 71 = .ok (.aload_n 1, 1) := by decide +kernel
theorem dX5_goThrough_72 : decode cX5_goThrough 72 = .ok (.aload_n 2, 1) := by decide +kernel
theorem dX5_goThrough_73 : decode cX5_goThrough 73 = .ok (.iload 7, 2) := by decide +kernel
theorem dX5_goThrough_75 : decode cX5_goThrough 75 = .ok (.invokevirtual 31, 3) := by decide +kernel
theorem dX5_goThrough_78 : decode cX5_goThrough 78 = .ok (.aload_n 0, 1) := by decide +kernel
theorem dX5_goThrough_79 : decode cX5_goThrough 79 = .ok (.aload_n 1, 1) := by decide +kernel
theorem dX5_goThrough_80 : decode cX5_goThrough 80 = .ok (.invokevirtual 35, 3) := by decide +kernel
theorem dX5_goThrough_83 : decode cX5_goThrough 83 = .ok (.aload_n 0, 1) := by decide +kernel
theorem dX5_goThrough_84 : decode cX5_goThrough 84 = .ok (.aload_n 1, 1) := by decide +kernel
theorem dX5_goThrough_85 : decode cX5_goThrough 85 = .ok (.invokevirtual 39, 3) := by decide +kernel
theorem dX5_goThrough_88 : decode cX5_goThrough 88 = .ok (.iinc 7 1, 3) := by decide +kernel
theorem dX5_goThrough_91 : decode cX5_goThrough 91 = .ok (.goto (-34), 3) := by decide +kernel
theorem dX5_goThrough_94 : decode cX5_goThrough 94 = .ok (.return_, 1) := by decide +kernel
theorem dX5_isEver_0 : decode cX5_isEver 0 = .ok (.iload_n 2, 1) := by decide +kernel
theorem dX5_isEver_1 : decode cX5_isEver 1 = .ok (.ifCond .ne 10, 3) := by decide +kernel
theorem dX5_isEver_4 : decode cX5_isEver 4 = .ok (.aload_n 0, 1) := by decide +kernel
theorem dX5_isEver_5 : decode cX5_isEver 5 = .ok (.getfield 19, 3) := by decide +kernel
theorem dX5_isEver_8 : decode cX5_isEver 8 = .ok (.goto 7, 3) := by decide +kernel
theorem dX5_isEver_11 : decode cX5_isEver 11 = .ok (.aload_n 0, 1) := by decide +kernel
theorem dX5_isEver_12 : decode cX5_isEver 12 = .ok (.getfield 23, 3) := by decide +kernel
theorem dX5_isEver_15 : decode cX5_isEver 15 = .ok (.iload_n 1, 1) := by decide +kernel
theorem dX5_isEver_16 : decode cX5_isEver 16 = .ok (.lushr, 1) := by decide +kernel
theorem dX5_isEver_17 : decode cX5_isEver 17 = .ok (.lconst 1, 1) := by decide +kernel
theorem dX5_isEver_18 : decode cX5_isEver 18 = .ok (.land, 1) := by decide +kernel
theorem dX5_isEver_19 : decode cX5_isEver 19 = .ok (.lconst 1, 1) := by decide +kernel
theorem dX5_isEver_20 : decode cX5_isEver 20 = .ok (.lcmp, 1) := by decide +kernel
theorem dX5_isEver_21 : decode cX5_isEver 21 = .ok (.ifCond .ne 7, 3) := by decide +kernel
theorem dX5_isEver_24 : decode cX5_isEver 24 = .ok (.iconst 1, 1) := by decide +kernel
theorem dX5_isEver_25 : decode cX5_isEver 25 = .ok (.goto 4, 3) := by decide +kernel
theorem dX5_isEver_28 : decode cX5_isEver 28 = .ok (.iconst 0, 1) := by decide +kernel
theorem dX5_isEver_29 : decode cX5_isEver 29 = .ok (.ireturn, 1) := by decide +kernel
set_option maxRecDepth 20000 in
theorem ggX5_sharpValue_X5_isEver : GoodIn wsX5_sharpValue wsX5_isEver := goodIn_r _ [6, 7, 8, 9, 10, 11, 12, 13] (by decide +kernel) (by decide +kernel)
set_option maxRecDepth 20000 in
theorem gX5_sharpValue_X5_isEver : GoodIn wsX5_sharpValue (wsV RX5 42 RX5 yX5_isEver wsX5_isEver) := goodIn_app (goodIn_of _ (by decide +kernel)) ggX5_sharpValue_X5_isEver
theorem dX5_sharpValue_0 : decode cX5_sharpValue 0 = .ok (.aload_n 0, 1) := by decide +kernel
theorem dX5_sharpValue_1 : decode cX5_sharpValue 1 = .ok (.getfield 15, 3) := by decide +kernel
theorem dX5_sharpValue_4 : decode cX5_sharpValue 4 = .ok (.ifCond .ne 5, 3) := by decide +kernel
theorem dX5_sharpValue_7 : decode cX5_sharpValue 7 = .ok (.iconst 3, 1) := by decide +kernel
theorem dX5_sharpValue_8 : decode cX5_sharpValue 8 = .ok (.ireturn, 1) := by decide +kernel
theorem dX5_sharpValue_9 : decode cX5_sharpValue 9 = .ok (.aload_n 0, 1) := by decide +kernel
theorem dX5_sharpValue_10 : decode cX5_sharpValue 10 = .ok (.iload_n 1, 1) := by decide +kernel
theorem dX5_sharpValue_11 : decode cX5_sharpValue 11 = .ok (.iconst 0, 1) := by decide +kernel
theorem dX5_sharpValue_12 : decode cX5_sharpValue 12 = .ok (.invokevirtual 42, 3) := by decide +kernel
theorem dX5_sharpValue_15 : decode cX5_sharpValue 15 = .ok (.ifCond .eq 18, 3) := by decide +kernel
theorem dX5_sharpValue_18 : decode cX5_sharpValue 18 = .ok (.aload_n 0, 1) := by decide +kernel
theorem dX5_sharpValue_19 : decode cX5_sharpValue 19 = .ok (.iload_n 1, 1) := by decide +kernel
theorem dX5_sharpValue_20 : decode cX5_sharpValue 20 = .ok (.iconst 1, 1) := by decide +kernel
theorem dX5_sharpValue_21 : decode cX5_sharpValue 21 = .ok (.invokevirtual 42, 3) := by decide +kernel
theorem dX5_sharpValue_24 : decode cX5_sharpValue 24 = .ok (.ifCond .eq 7, 3) := by decide +kernel
theorem dX5_sharpValue_27 : decode cX5_sharpValue 27 = .ok (.iconst 2, 1) := by decide +kernel
theorem dX5_sharpValue_28 : decode cX5_sharpValue 28 = .ok (.goto 4, 3) := by decide +kernel
theorem dX5_sharpValue_31 : decode cX5_sharpValue 31 = .ok (.iconst 0, 1) := by decide +kernel
theorem dX5_sharpValue_32 : decode cX5_sharpValue 32 = .ok (.ireturn, 1) := by decide +kernel
theorem dX5_sharpValue_33 : decode cX5_sharpValue 33 = .ok (.iconst 1, 1) := by decide +kernel
theorem dX5_sharpValue_34 : decode cX5_sharpValue 34 = .ok (.ireturn, 1) := by decide +kernel
set_option maxRecDepth 20000 in
theorem ggX5_fillSources_X0_isSource : GoodIn wsX5_fillSources wsX0_isSource := goodIn_r _ [8, 9, 10, 11, 7, 12, 13, 14, 15, 16, 17, 18, 24, 25, 26, 27, 28, 29, 30, 31, 32, 33, 34, 35, 36] (by decide +kernel) (by decide +kernel)
set_option maxRecDepth 20000 in
theorem gX5_fillSources_X0_isSource : GoodIn wsX5_fillSources (wsV RX5 51 RX0 yX0_isSource wsX0_isSource) := goodIn_app (goodIn_of _ (by decide +kernel)) ggX5_fillSources_X0_isSource
set_option maxRecDepth 20000 in
theorem ggX5_fillSources_X5_freeRow : GoodIn wsX5_fillSources wsX5_freeRow := goodIn_r _ [22, 23, 3] (by decide +kernel) (by decide +kernel)
set_option maxRecDepth 20000 in
theorem gX5_fillSources_X5_freeRow : GoodIn wsX5_fillSources (va_wsS RX5 55 yX5_freeRow wsX5_freeRow) := goodIn_app (goodIn_of _ (by decide +kernel)) ggX5_fillSources_X5_freeRow
theorem dX5_fillSources_0 : decode cX5_fillSources 0 = .ok (.iconst 0, 1) := by decide +kernel
theorem dX5_fillSources_1 : decode cX5_fillSources 1 = .ok (.istore 4, 2) := by decide +kernel
theorem dX5_fillSources_3 : decode cX5_fillSources 3 = .ok (.iconst 0, 1) := by decide +kernel
theorem dX5_fillSources_4 : decode cX5_fillSources 4 = .ok (.istore 5, 2) := by decide +kernel
theorem dX5_fillSources_6 : decode cX5_fillSources 6 = .ok (.iload 5, 2) := by decide +kernel
theorem dX5_fillSources_8 : decode cX5_fillSources 8 = .ok (.aload_n 1, 1) := by decide +kernel
theorem dX5_fillSources_9 : decode cX5_fillSources 9 = .ok (.getfield 46, 3) := by decide +kernel
theorem dX5_fillSources_12 : decode cX5_fillSources 12 = .ok (.if_icmp .ge 70, 3) := by decide +kernel
theorem dX5_fillSources_15 : decode cX5_fillSources 15 = .ok (.aload_n 1, 1) := by decide +kernel
theorem dX5_fillSources_16 : decode cX5_fillSources 16 = .ok (.iload 5, 2) := by decide +kernel
theorem dX5_fillSources_18 : decode cX5_fillSources 18 = .ok (.invokevirtual 51, 3) := by decide +kernel
theorem dX5_fillSources_21 : decode cX5_fillSources 21 = .ok (.ifCond .ne 6, 3) := by decide +kernel
theorem dX5_fillSources_24 : decode cX5_fillSources 24 = .ok (.goto 52, 3) := by decide +kernel
theorem dX5_fillSources_27 : decode cX5_fillSources 27 = .ok (.aload_n 2, 1) := by decide +kernel
theorem dX5_fillSources_28 : decode cX5_fillSources 28 = .ok (.iload 5, 2) := by decide +kernel
theorem dX5_fillSources_30 : decode cX5_fillSources 30 = .ok (.iaload, 1) := by decide +kernel
theorem dX5_fillSources_31 : decode cX5_fillSources 31 = .ok (.iconst 2, 1) := by decide +kernel
theorem dX5_fillSources_32 : decode cX5_fillSources 32 = .ok (.if_icmp .lt 22, 3) := by decide +kernel
theorem dX5_fillSources_35 : decode cX5_fillSources 35 = .ok (.aload_n 0, 1) := by decide +kernel
theorem dX5_fillSources_36 : decode cX5_fillSources 36 = .ok (.getfield 9, 3) := by decide +kernel
theorem dX5_fillSources_39 : decode cX5_fillSources 39 = .ok (.iload 5, 2) := by decide +kernel
theorem dX5_fillSources_41 : decode cX5_fillSources 41 = .ok (.iload 4, 2) := by decide +kernel
theorem dX5_fillSources_43 : decode cX5_fillSources 43 = .ok (.iload_n 3, 1) := by decide +kernel
theorem dX5_fillSources_44 : decode cX5_fillSources 44 = .ok (.invokestatic 55, 3) := by decide +kernel
theorem dX5_fillSources_47 : decode cX5_fillSources 47 = .ok (.lastore, 1) := by decide +kernel
theorem dX5_fillSources_48 : decode cX5_fillSources 48 = .ok (.iinc 4 1, 3) := by decide +kernel
theorem dX5_fillSources_51 : decode cX5_fillSources 51 = .ok (.goto 25, 3) := by decide +kernel
theorem dX5_fillSources_54 : decode cX5_fillSources 54 = .ok (.aload_n 0, 1) := by decide +kernel
theorem dX5_fillSources_55 : decode cX5_fillSources 55 = .ok (.getfield 9, 3) := by decide +kernel
theorem dX5_fillSources_58 : decode cX5_fillSources 58 = .ok (.iload 5, 2) := by decide +kernel
theorem dX5_fillSources_60 : decode cX5_fillSources 60 = .ok (.aload_n 2, 1) := by decide +kernel
theorem dX5_fillSources_61 : decode cX5_fillSources 61 = .ok (.iload 5, 2) := by decide +kernel
theorem dX5_fillSources_63 : decode cX5_fillSources 63 = .ok (.iaload, 1) := by decide +kernel
theorem dX5_fillSources_64 : decode cX5_fillSources 64 = .ok (.iconst 1, 1) := by decide +kernel
theorem dX5_fillSources_65 : decode cX5_fillSources 65 = .ok (.if_icmp .ne 9, 3) := by decide +kernel
theorem dX5_fillSources_68 : decode cX5_fillSources 68 = .ok (.ldc2_w 26, 3) := by decide +kernel
theorem dX5_fillSources_71 : decode cX5_fillSources 71 = .ok (.goto 4, 3) := by decide +kernel
theorem dX5_fillSources_74 : decode cX5_fillSources 74 = .ok (.lconst 0, 1) := by decide +kernel
theorem dX5_fillSources_75 : decode cX5_fillSources 75 = .ok (.lastore, 1) := by decide +kernel
theorem dX5_fillSources_76 : decode cX5_fillSources 76 = .ok (.iinc 5 1, 3) := by decide +kernel
theorem dX5_fillSources_79 : decode cX5_fillSources 79 = .ok (.goto (-73), 3) := by decide +kernel
theorem dX5_fillSources_82 : decode cX5_fillSources 82 = .ok (.return_, 1) := by decide +kernel
theorem dX5_freeRow_0 : decode cX5_freeRow 0 = .ok (.iload_n 0, 1) := by decide +kernel
theorem dX5_freeRow_1 : decode cX5_freeRow 1 = .ok (.getstatic 59, 3) := by decide +kernel
theorem dX5_freeRow_4 : decode cX5_freeRow 4 = .ok (.arraylength, 1) := by decide +kernel
theorem dX5_freeRow_5 : decode cX5_freeRow 5 = .ok (.if_icmp .ge 9, 3) := by decide +kernel
theorem dX5_freeRow_8 : decode cX5_freeRow 8 = .ok (.getstatic 59, 3) := by decide +kernel
theorem dX5_freeRow_11 : decode cX5_freeRow 11 = .ok (.iload_n 0, 1) := by decide +kernel
theorem dX5_freeRow_12 : decode cX5_freeRow 12 = .ok (.laload, 1) := by decide +kernel
theorem dX5_freeRow_13 : decode cX5_freeRow 13 = .ok (.lreturn, 1) := by decide +kernel
theorem dX5_freeRow_14 : decode cX5_freeRow 14 = .ok (.iload_n 1, 1) := by decide +kernel
theorem dX5_freeRow_15 : decode cX5_freeRow 15 = .ok (.iload_n 0, 1) := by decide +kernel
theorem dX5_freeRow_16 : decode cX5_freeRow 16 = .ok (.bipush 6, 2) := by decide +kernel
theorem dX5_freeRow_18 : decode cX5_freeRow 18 = .ok (.isub, 1) := by decide +kernel
theorem dX5_freeRow_19 : decode cX5_freeRow 19 = .ok (.ishr, 1) := by decide +kernel
theorem dX5_freeRow_20 : decode cX5_freeRow 20 = .ok (.iconst 1, 1) := by decide +kernel
theorem dX5_freeRow_21 : decode cX5_freeRow 21 = .ok (.iand, 1) := by decide +kernel
theorem dX5_freeRow_22 : decode cX5_freeRow 22 = .ok (.iconst 1, 1) := by decide +kernel
theorem dX5_freeRow_23 : decode cX5_freeRow 23 = .ok (.if_icmp .ne 9, 3) := by decide +kernel
theorem dX5_freeRow_26 : decode cX5_freeRow 26 = .ok (.ldc2_w 26, 3) := by decide +kernel
theorem dX5_freeRow_29 : decode cX5_freeRow 29 = .ok (.goto 4, 3) := by decide +kernel
theorem dX5_freeRow_32 : decode cX5_freeRow 32 = .ok (.lconst 0, 1) := by decide +kernel
theorem dX5_freeRow_33 : decode cX5_freeRow 33 = .ok (.lreturn, 1) := by decide +kernel
set_option maxRecDepth 20000 in
theorem ggX5_followOthers_X5_gateRow : GoodIn wsX5_followOthers wsX5_gateRow := goodIn_r _ [9, 10, 4, 11, 12, 13, 14, 15, 16, 17, 18, 19, 20, 21, 22, 23, 24, 25, 8, 26, 27, 28, 29, 30, 41, 42, 43, 44, 45, 46, 47, 48, 49, 50, 51, 52, 53, 54, 55, 56, 57, 58] (by decide +kernel) (by decide +kernel)
set_option maxRecDepth 20000 in
theorem gX5_followOthers_X5_gateRow : GoodIn wsX5_followOthers (wsV RX5 69 RX5 yX5_gateRow wsX5_gateRow) := goodIn_app (goodIn_of _ (by decide +kernel)) ggX5_followOthers_X5_gateRow
set_option maxRecDepth 20000 in
theorem ggX5_followOthers_X5_busRow : GoodIn wsX5_followOthers wsX5_busRow := goodIn_r _ [34, 4, 11, 35, 18, 19, 20, 15, 21, 22, 23, 12, 13, 14, 16, 17, 36, 37, 38, 39, 40, 54, 55, 56, 57, 58, 41, 42, 43, 44, 45, 46, 47, 48, 49, 50, 51, 52, 53] (by decide +kernel) (by decide +kernel)
set_option maxRecDepth 20000 in
theorem gX5_followOthers_X5_busRow : GoodIn wsX5_followOthers (wsV RX5 73 RX5 yX5_busRow wsX5_busRow) := goodIn_app (goodIn_of _ (by decide +kernel)) ggX5_followOthers_X5_busRow
theorem dX5_followOthers_0 : decode cX5_followOthers 0 = .ok (.iconst 0, 1) := by decide +kernel
theorem dX5_followOthers_1 : decode cX5_followOthers 1 = .ok (.istore_n 2, 1) := by decide +kernel
theorem dX5_followOthers_2 : decode cX5_followOthers 2 = .ok (.iload_n 2, 1) := by decide +kernel
theorem dX5_followOthers_3 : decode cX5_followOthers 3 = .ok (.aload_n 1, 1) := by decide +kernel
theorem dX5_followOthers_4 : decode cX5_followOthers 4 = .ok (.getfield 46, 3) := by decide +kernel
theorem dX5_followOthers_7 : decode cX5_followOthers 7 = .ok (.if_icmp .ge 63, 3) := by decide +kernel
theorem dX5_followOthers_10 : decode cX5_followOthers 10 = .ok (.aload_n 1, 1) := by decide +kernel
theorem dX5_followOthers_11 : decode cX5_followOthers 11 = .ok (.getfield 62, 3) := by decide +kernel
theorem dX5_followOthers_14 : decode cX5_followOthers 14 = .ok (.iload_n 2, 1) := by decide +kernel
theorem dX5_followOthers_15 : decode cX5_followOthers 15 = .ok (.iaload, 1) := by decide +kernel
theorem dX5_followOthers_16 : decode cX5_followOthers 16 = .ok (.istore_n 3, 1) := by decide +kernel
theorem dX5_followOthers_17 : decode cX5_followOthers 17 = .ok (.aload_n 1, 1) := by decide +kernel
theorem dX5_followOthers_18 : decode cX5_followOthers 18 = .ok (.getfield 66, 3) := by decide +kernel
theorem dX5_followOthers_21 : decode cX5_followOthers 21 = .ok (.iload_n 3, 1) := by decide +kernel
theorem dX5_followOthers_22 : decode cX5_followOthers 22 = .ok (.iaload, 1) := by decide +kernel
theorem dX5_followOthers_23 : decode cX5_followOthers 23 = .ok (.iconst 2, 1) := by decide +kernel
theorem dX5_followOthers_24 : decode cX5_followOthers 24 = .ok (.if_icmp .ne 18, 3) := by decide +kernel
theorem dX5_followOthers_27 : decode cX5_followOthers 27 = .ok (.aload_n 0, 1) := by decide +kernel
theorem dX5_followOthers_28 : decode cX5_followOthers 28 = .ok (.getfield 9, 3) := by decide +kernel
theorem dX5_followOthers_31 : decode cX5_followOthers 31 = .ok (.iload_n 3, 1) := by decide +kernel
theorem dX5_followOthers_32 : decode cX5_followOthers 32 = .ok (.aload_n 0, 1) := by decide +kernel
theorem dX5_followOthers_33 : decode cX5_followOthers 33 = .ok (.aload_n 1, 1) := by decide +kernel
theorem dX5_followOthers_34 : decode cX5_followOthers 34 = .ok (.iload_n 3, 1) := by decide +kernel
theorem dX5_followOthers_35 : decode cX5_followOthers 35 = .ok (.invokevirtual 69, 3) := by decide +kernel
theorem dX5_followOthers_38 : decode cX5_followOthers 38 = .ok (.lastore, 1) := by decide +kernel
theorem dX5_followOthers_39 : decode cX5_followOthers 39 = .ok (.goto 25, 3) := by decide +kernel
theorem dX5_followOthers_42 : decode cX5_followOthers 42 = .ok (.aload_n 1, 1) := by decide +kernel
theorem dX5_followOthers_43 : decode cX5_followOthers 43 = .ok (.getfield 66, 3) := by decide +kernel
theorem dX5_followOthers_46 : decode cX5_followOthers 46 = .ok (.iload_n 3, 1) := by decide +kernel
theorem dX5_followOthers_47 : decode cX5_followOthers 47 = .ok (.iaload, 1) := by decide +kernel
theorem dX5_followOthers_48 : decode cX5_followOthers 48 = .ok (.iconst 1, 1) := by decide +kernel
theorem dX5_followOthers_49 : decode cX5_followOthers 49 = .ok (.if_icmp .ne 15, 3) := by decide +kernel
theorem dX5_followOthers_52 : decode cX5_followOthers 52 = .ok (.aload_n 0, 1) := by decide +kernel
theorem dX5_followOthers_53 : decode cX5_followOthers 53 = .ok (.getfield 9, 3) := by decide +kernel
theorem dX5_followOthers_56 : decode cX5_followOthers 56 = .ok (.iload_n 3, 1) := by decide +kernel
theorem dX5_followOthers_57 : decode cX5_followOthers 57 = .ok (.aload_n 0, 1) := by decide +kernel
theorem dX5_followOthers_58 : decode cX5_followOthers 58 = .ok (.aload_n 1, 1) := by decide +kernel
theorem dX5_followOthers_59 : decode cX5_followOthers 59 = .ok (.iload_n 3, 1) := by decide +kernel
theorem dX5_followOthers_60 : decode cX5_followOthers 60 = .ok (.invokevirtual 73, 3) := by decide +kernel
theorem dX5_followOthers_63 : decode cX5_followOthers 63 = .ok (.lastore, 1) := by decide +kernel
theorem dX5_followOthers_64 : decode cX5_followOthers 64 = .ok (.iinc 2 1, 3) := by decide +kernel
theorem dX5_followOthers_67 : decode cX5_followOthers 67 = .ok (.goto (-65), 3) := by decide +kernel
theorem dX5_followOthers_70 : decode cX5_followOthers 70 = .ok (.return_, 1) := by decide +kernel
set_option maxRecDepth 20000 in
theorem ggX5_gateRow_X0_part : GoodIn wsX5_gateRow wsX0_part := goodIn_r _ [8, 9, 24, 25, 26, 27, 28, 29, 30, 31, 32, 33, 34, 35, 36] (by decide +kernel) (by decide +kernel)
set_option maxRecDepth 20000 in
theorem gX5_gateRow_X0_part : GoodIn wsX5_gateRow (wsV RX5 79 RX0 yX0_part wsX0_part) := goodIn_app (goodIn_of _ (by decide +kernel)) ggX5_gateRow_X0_part
set_option maxRecDepth 20000 in
theorem ggX5_gateRow_X0_size : GoodIn wsX5_gateRow wsX0_size := goodIn_r _ [13, 14, 15, 24, 25, 26, 27, 28, 29, 30, 31, 32, 33, 34, 35, 36] (by decide +kernel) (by decide +kernel)
set_option maxRecDepth 20000 in
theorem gX5_gateRow_X0_size : GoodIn wsX5_gateRow (wsV RX5 85 RX0 yX0_size wsX0_size) := goodIn_app (goodIn_of _ (by decide +kernel)) ggX5_gateRow_X0_size
set_option maxRecDepth 20000 in
theorem ggX5_gateRow_X5_join : GoodIn wsX5_gateRow wsX5_join := goodIn_r _ [19] (by decide +kernel) (by decide +kernel)
set_option maxRecDepth 20000 in
theorem gX5_gateRow_X5_join : GoodIn wsX5_gateRow (va_wsS RX5 89 yX5_join wsX5_join) := goodIn_app (goodIn_of _ (by decide +kernel)) ggX5_gateRow_X5_join
set_option maxRecDepth 20000 in
theorem ggX5_gateRow_X2_isTurned : GoodIn wsX5_gateRow wsX2_isTurned := goodIn_r _ [23] (by decide +kernel) (by decide +kernel)
set_option maxRecDepth 20000 in
theorem gX5_gateRow_X2_isTurned : GoodIn wsX5_gateRow (va_wsS RX5 93 yX2_isTurned wsX2_isTurned) := goodIn_app (goodIn_of _ (by decide +kernel)) ggX5_gateRow_X2_isTurned
theorem dX5_gateRow_0 : decode cX5_gateRow 0 = .ok (.aload_n 1, 1) := by decide +kernel
theorem dX5_gateRow_1 : decode cX5_gateRow 1 = .ok (.getfield 76, 3) := by decide +kernel
theorem dX5_gateRow_4 : decode cX5_gateRow 4 = .ok (.iload_n 2, 1) := by decide +kernel
theorem dX5_gateRow_5 : decode cX5_gateRow 5 = .ok (.iaload, 1) := by decide +kernel
theorem dX5_gateRow_6 : decode cX5_gateRow 6 = .ok (.istore_n 3, 1) := by decide +kernel
theorem dX5_gateRow_7 : decode cX5_gateRow 7 = .ok (.aload_n 0, 1) := by decide +kernel
theorem dX5_gateRow_8 : decode cX5_gateRow 8 = .ok (.getfield 9, 3) := by decide +kernel
theorem dX5_gateRow_11 : decode cX5_gateRow 11 = .ok (.aload_n 1, 1) := by decide +kernel
theorem dX5_gateRow_12 : decode cX5_gateRow 12 = .ok (.iload_n 2, 1) := by decide +kernel
theorem dX5_gateRow_13 : decode cX5_gateRow 13 = .ok (.iconst 0, 1) := by decide +kernel
theorem dX5_gateRow_14 : decode cX5_gateRow 14 = .ok (.invokevirtual 79, 3) := by decide +kernel
theorem dX5_gateRow_17 : decode cX5_gateRow 17 = .ok (.laload, 1) := by decide +kernel
theorem dX5_gateRow_18 : decode cX5_gateRow 18 = .ok (.lstore 4, 2) := by decide +kernel
theorem dX5_gateRow_20 : decode cX5_gateRow 20 = .ok (.iload_n 3, 1) := by decide +kernel
theorem dX5_gateRow_21 : decode cX5_gateRow 21 = .ok (.bipush 8, 2) := by decide +kernel
theorem dX5_gateRow_23 : decode cX5_gateRow 23 = .ok (.if_icmp .ne 37, 3) := by decide +kernel
theorem dX5_gateRow_26 : decode cX5_gateRow 26 = .ok (.lload 4, 2) := by decide +kernel
theorem dX5_gateRow_28 : decode cX5_gateRow 28 = .ok (.ldc2_w 26, 3) := by decide +kernel
theorem dX5_gateRow_31 : decode cX5_gateRow 31 = .ok (.lxor, 1) := by decide +kernel
theorem dX5_gateRow_32 : decode cX5_gateRow 32 = .ok (.aload_n 0, 1) := by decide +kernel
theorem dX5_gateRow_33 : decode cX5_gateRow 33 = .ok (.getfield 9, 3) := by decide +kernel
theorem dX5_gateRow_36 : decode cX5_gateRow 36 = .ok (.aload_n 1, 1) := by decide +kernel
theorem dX5_gateRow_37 : decode cX5_gateRow 37 = .ok (.iload_n 2, 1) := by decide +kernel
theorem dX5_gateRow_38 : decode cX5_gateRow 38 = .ok (.iconst 1, 1) := by decide +kernel
theorem dX5_gateRow_39 : decode cX5_gateRow 39 = .ok (.invokevirtual 79, 3) := by decide +kernel
theorem dX5_gateRow_42 : decode cX5_gateRow 42 = .ok (.laload, 1) := by decide +kernel
theorem dX5_gateRow_43 : decode cX5_gateRow 43 = .ok (.land, 1) := by decide +kernel
theorem dX5_gateRow_44 : decode cX5_gateRow 44 = .ok (.lload 4, 2) := by decide +kernel
theorem dX5_gateRow_46 : decode cX5_gateRow 46 = .ok (.aload_n 0, 1) := by decide +kernel
theorem dX5_gateRow_47 : decode cX5_gateRow 47 = .ok (.getfield 9, 3) := by decide +kernel
theorem dX5_gateRow_50 : decode cX5_gateRow 50 = .ok (.aload_n 1, 1) := by decide +kernel
theorem dX5_gateRow_51 : decode cX5_gateRow 51 = .ok (.iload_n 2, 1) := by decide +kernel
theorem dX5_gateRow_52 : decode cX5_gateRow 52 = .ok (.iconst 2, 1) := by decide +kernel
theorem dX5_gateRow_53 : decode cX5_gateRow 53 = .ok (.invokevirtual 79, 3) := by decide +kernel
theorem dX5_gateRow_56 : decode cX5_gateRow 56 = .ok (.laload, 1) := by decide +kernel
theorem dX5_gateRow_57 : decode cX5_gateRow 57 = .ok (.land, 1) := by decide +kernel
theorem dX5_gateRow_58 : decode cX5_gateRow 58 = .ok (.lor, 1) := by decide +kernel
theorem dX5_gateRow_59 : decode cX5_gateRow 59 = .ok (.lreturn, 1) := by decide +kernel
theorem dX5_gateRow_60 : decode cX5_gateRow 60 = .ok (.aload_n 1, 1) := by decide +kernel
theorem dX5_gateRow_61 : decode cX5_gateRow 61 = .ok (.iload_n 2, 1) := by decide +kernel
theorem dX5_gateRow_62 : decode cX5_gateRow 62 = .ok (.invokevirtual 85, 3) := by decide +kernel
theorem dX5_gateRow_65 : decode cX5_gateRow 65 = .ok (.istore 6, 2) := by decide +kernel
theorem dX5_gateRow_67 : decode cX5_gateRow 67 = .ok (.iconst 1, 1) := by decide +kernel
theorem dX5_gateRow_68 : decode cX5_gateRow 68 = .ok (.istore 7, 2) := by decide +kernel
theorem dX5_gateRow_70 : decode cX5_gateRow 70 = .ok (.iload 7, 2) := by decide +kernel
theorem dX5_gateRow_72 : decode cX5_gateRow 72 = .ok (.iload 6, 2) := by decide +kernel
theorem dX5_gateRow_74 : decode cX5_gateRow 74 = .ok (.if_icmp .ge 32, 3) := by decide +kernel
theorem dX5_gateRow_77 : decode cX5_gateRow 77 = .ok (.iload_n 3, 1) := by decide +kernel
theorem dX5_gateRow_78 : decode cX5_gateRow 78 = .ok (.bipush (-2), 2) := by decide +kernel
theorem dX5_gateRow_80 : decode cX5_gateRow 80 = .ok (.iand, 1) := by decide +kernel
theorem dX5_gateRow_81 : decode cX5_gateRow 81 = .ok (.lload 4, 2) := by decide +kernel
theorem dX5_gateRow_83 : decode cX5_gateRow 83 = .ok (.aload_n 0, 1) := by decide +kernel
theorem dX5_gateRow_84 : decode cX5_gateRow 84 = .ok (.getfield 9, 3) := by decide +kernel
theorem dX5_gateRow_87 : decode cX5_gateRow 87 = .ok (.aload_n 1, 1) := by decide +kernel
theorem dX5_gateRow_88 : decode cX5_gateRow 88 = .ok (.iload_n 2, 1) := by decide +kernel
theorem dX5_gateRow_89 : decode cX5_gateRow 89 = .ok (.iload 7, 2) := by decide +kernel
theorem dX5_gateRow_91 : decode cX5_gateRow 91 = .ok (.invokevirtual 79, 3) := by decide +kernel
theorem dX5_gateRow_94 : decode cX5_gateRow 94 = .ok (.laload, 1) := by decide +kernel
theorem dX5_gateRow_95 : decode cX5_gateRow 95 = .ok (.invokestatic 89, 3) := by decide +kernel
theorem dX5_gateRow_98 : decode cX5_gateRow 98 = .ok (.lstore 4, 2) := by decide +kernel
theorem dX5_gateRow_100 : decode cX5_gateRow 100 = .ok (.iinc 7 1, 3) := by decide +kernel
theorem dX5_gateRow_103 : decode cX5_gateRow 103 = .ok (.goto (-33), 3) := by decide +kernel
theorem dX5_gateRow_106 : decode cX5_gateRow 106 = .ok (.iload_n 3, 1) := by decide +kernel
theorem dX5_gateRow_107 : decode cX5_gateRow 107 = .ok (.invokestatic 93, 3) := by decide +kernel
theorem dX5_gateRow_110 : decode cX5_gateRow 110 = .ok (.ifCond .eq 12, 3) := by decide +kernel
theorem dX5_gateRow_113 : decode cX5_gateRow 113 = .ok (.lload 4, 2) := by decide +kernel
theorem dX5_gateRow_115 : decode cX5_gateRow 115 = .ok (.ldc2_w 26, 3) := by decide +kernel
theorem dX5_gateRow_118 : decode cX5_gateRow 118 = .ok (.lxor, 1) := by decide +kernel
theorem dX5_gateRow_119 : decode cX5_gateRow 119 = .ok (.goto 5, 3) := by decide +kernel
theorem dX5_gateRow_122 : decode cX5_gateRow 122 = .ok (.lload 4, 2) := by decide +kernel
theorem dX5_gateRow_124 : decode cX5_gateRow 124 = .ok (.lreturn, 1) := by decide +kernel
theorem dX5_join_0 : decode cX5_join 0 = .ok (.iload_n 0, 1) := by decide +kernel
theorem dX5_join_1 : decode cX5_join 1 = .ok (.lookupswitch 35 #[(2, 27), (4, 31)], 27) := by decide +kernel
theorem dX5_join_28 : decode cX5_join 28 = .ok (.lload_n 1, 1) := by decide +kernel
theorem dX5_join_29 : decode cX5_join 29 = .ok (.lload_n 3, 1) := by decide +kernel
theorem dX5_join_30 : decode cX5_join 30 = .ok (.lor, 1) := by decide +kernel
theorem dX5_join_31 : decode cX5_join 31 = .ok (.lreturn, 1) := by decide +kernel
theorem dX5_join_32 : decode cX5_join 32 = .ok (.lload_n 1, 1) := by decide +kernel
theorem dX5_join_33 : decode cX5_join 33 = .ok (.lload_n 3, 1) := by decide +kernel
theorem dX5_join_34 : decode cX5_join 34 = .ok (.lxor, 1) := by decide +kernel
theorem dX5_join_35 : decode cX5_join 35 = .ok (.lreturn, 1) := by decide +kernel
theorem dX5_join_36 : decode cX5_join 36 = .ok (.lload_n 1, 1) := by decide +kernel
theorem dX5_join_37 : decode cX5_join 37 = .ok (.lload_n 3, 1) := by decide +kernel
theorem dX5_join_38 : decode cX5_join 38 = .ok (.land, 1) := by decide +kernel
theorem dX5_join_39 : decode cX5_join 39 = .ok (.lreturn, 1) := by decide +kernel
set_option maxRecDepth 20000 in
theorem ggX5_busRow_X0_size : GoodIn wsX5_busRow wsX0_size := goodIn_r _ [8, 9, 10, 26, 27, 28, 29, 30, 31, 32, 33, 34, 35, 36, 37, 38] (by decide +kernel) (by decide +kernel)
set_option maxRecDepth 20000 in
theorem gX5_busRow_X0_size : GoodIn wsX5_busRow (wsV RX5 85 RX0 yX0_size wsX0_size) := goodIn_app (goodIn_of _ (by decide +kernel)) ggX5_busRow_X0_size
set_option maxRecDepth 20000 in
theorem ggX5_busRow_X0_part : GoodIn wsX5_busRow wsX0_part := goodIn_r _ [14, 15, 26, 27, 28, 29, 30, 31, 32, 33, 34, 35, 36, 37, 38] (by decide +kernel) (by decide +kernel)
set_option maxRecDepth 20000 in
theorem gX5_busRow_X0_part : GoodIn wsX5_busRow (wsV RX5 79 RX0 yX0_part wsX0_part) := goodIn_app (goodIn_of _ (by decide +kernel)) ggX5_busRow_X0_part
set_option maxRecDepth 20000 in
theorem ggX5_busRow_X0_isLow : GoodIn wsX5_busRow wsX0_isLow := goodIn_r _ [19, 20, 26, 27, 28, 29, 30, 31, 32, 33, 34, 35, 36, 37, 38] (by decide +kernel) (by decide +kernel)
set_option maxRecDepth 20000 in
theorem gX5_busRow_X0_isLow : GoodIn wsX5_busRow (wsV RX5 96 RX0 yX0_isLow wsX0_isLow) := goodIn_app (goodIn_of _ (by decide +kernel)) ggX5_busRow_X0_isLow
theorem dX5_busRow_0 : decode cX5_busRow 0 = .ok (.lconst 0, 1) := by decide +kernel
theorem dX5_busRow_1 : decode cX5_busRow 1 = .ok (.lstore_n 3, 1) := by decide +kernel
theorem dX5_busRow_2 : decode cX5_busRow 2 = .ok (.lconst 0, 1) := by decide +kernel
theorem dX5_busRow_3 : decode cX5_busRow 3 = .ok (.lstore 5, 2) := by decide +kernel
theorem dX5_busRow_5 : decode cX5_busRow 5 = .ok (.lconst 0, 1) := by decide +kernel
theorem dX5_busRow_6 : decode cX5_busRow 6 = .ok (.lstore 7, 2) := by decide +kernel
theorem dX5_busRow_8 : decode cX5_busRow 8 = .ok (.aload_n 1, 1) := by decide +kernel
theorem dX5_busRow_9 : decode cX5_busRow 9 = .ok (.iload_n 2, 1) := by decide +kernel
theorem dX5_busRow_10 : decode cX5_busRow 10 = .ok (.invokevirtual 85, 3) := by decide +kernel
theorem dX5_busRow_13 : decode cX5_busRow 13 = .ok (.istore 9, 2) := by decide +kernel
theorem dX5_busRow_15 : decode cX5_busRow 15 = .ok (.iconst 0, 1) := by decide +kernel
theorem dX5_busRow_16 : decode cX5_busRow 16 = .ok (.istore 10, 2) := by decide +kernel
theorem dX5_busRow_18 : decode cX5_busRow 18 = .ok (.iload 10, 2) := by decide +kernel
theorem dX5_busRow_20 : decode cX5_busRow 20 = .ok (.iload 9, 2) := by decide +kernel
theorem dX5_busRow_22 : decode cX5_busRow 22 = .ok (.if_icmp .ge 87, 3) := by decide +kernel
theorem dX5_busRow_25 : decode cX5_busRow 25 = .ok (.aload_n 0, 1) := by decide +kernel
theorem dX5_busRow_26 : decode cX5_busRow 26 = .ok (.getfield 9, 3) := by decide +kernel
theorem dX5_busRow_29 : decode cX5_busRow 29 = .ok (.aload_n 1, 1) := by decide +kernel
theorem dX5_busRow_30 : decode cX5_busRow 30 = .ok (.iload_n 2, 1) := by decide +kernel
theorem dX5_busRow_31 : decode cX5_busRow 31 = .ok (.iconst 2, 1) := by decide +kernel
theorem dX5_busRow_32 : decode cX5_busRow 32 = .ok (.iload 10, 2) := by decide +kernel
theorem dX5_busRow_34 : decode cX5_busRow 34 = .ok (.imul, 1) := by decide +kernel
theorem dX5_busRow_35 : decode cX5_busRow 35 = .ok (.iconst 1, 1) := by decide +kernel
theorem dX5_busRow_36 : decode cX5_busRow 36 = .ok (.iadd, 1) := by decide +kernel
theorem dX5_busRow_37 : decode cX5_busRow 37 = .ok (.invokevirtual 79, 3) := by decide +kernel
theorem dX5_busRow_40 : decode cX5_busRow 40 = .ok (.laload, 1) := by decide +kernel
theorem dX5_busRow_41 : decode cX5_busRow 41 = .ok (.lstore 11, 2) := by decide +kernel
theorem dX5_busRow_43 : decode cX5_busRow 43 = .ok (.aload_n 1, 1) := by decide +kernel
theorem dX5_busRow_44 : decode cX5_busRow 44 = .ok (.iload_n 2, 1) := by decide +kernel
theorem dX5_busRow_45 : decode cX5_busRow 45 = .ok (.iload 10, 2) := by decide +kernel
theorem dX5_busRow_47 : decode cX5_busRow 47 = .ok (.invokevirtual 96, 3) := by decide +kernel
theorem dX5_busRow_50 : decode cX5_busRow 50 = .ok (.ifCond .eq 12, 3) := by decide +kernel
theorem dX5_busRow_53 : decode cX5_busRow 53 = .ok (.lload 11, 2) := by decide +kernel
theorem dX5_busRow_55 : decode cX5_busRow 55 = .ok (.ldc2_w 26, 3) := by decide +kernel
theorem dX5_busRow_58 : decode cX5_busRow 58 = .ok (.lxor, 1) := by decide +kernel
theorem dX5_busRow_59 : decode cX5_busRow 59 = .ok (.goto 5, 3) := by decide +kernel
theorem dX5_busRow_62 : decode cX5_busRow 62 = .ok (.lload 11, 2) := by decide +kernel
theorem dX5_busRow_64 : decode cX5_busRow 64 = .ok (.lstore 13, 2) := by decide +kernel
theorem dX5_busRow_66 : decode cX5_busRow 66 = .ok (.lload_n 3, 1) := by decide +kernel
theorem dX5_busRow_67 : decode cX5_busRow 67 = .ok (.lload 13, 2) := by decide +kernel
theorem dX5_busRow_69 : decode cX5_busRow 69 = .ok (.aload_n 0, 1) := by decide +kernel
theorem dX5_busRow_70 : decode cX5_busRow 70 = .ok (.getfield 9, 3) := by decide +kernel
theorem dX5_busRow_73 : decode cX5_busRow 73 = .ok (.aload_n 1, 1) := by decide +kernel
theorem dX5_busRow_74 : decode cX5_busRow 74 = .ok (.iload_n 2, 1) := by decide +kernel
theorem dX5_busRow_75 : decode cX5_busRow 75 = .ok (.iconst 2, 1) := by decide +kernel
theorem dX5_busRow_76 : decode cX5_busRow 76 = .ok (.iload 10, 2) := by decide +kernel
theorem dX5_busRow_78 : decode cX5_busRow 78 = .ok (.imul, 1) := by decide +kernel
theorem dX5_busRow_79 : decode cX5_busRow 79 = .ok (.invokevirtual 79, 3) := by decide +kernel
theorem dX5_busRow_82 : decode cX5_busRow 82 = .ok (.laload, 1) := by decide +kernel
theorem dX5_busRow_83 : decode cX5_busRow 83 = .ok (.land, 1) := by decide +kernel
theorem dX5_busRow_84 : decode cX5_busRow 84 = .ok (.lor, 1) := by decide +kernel
theorem dX5_busRow_85 : decode cX5_busRow 85 = .ok (.lstore_n 3, 1) := by decide +kernel
theorem dX5_busRow_86 : decode cX5_busRow 86 = .ok (.lload 7, 2) := by decide +kernel
theorem dX5_busRow_88 : decode cX5_busRow 88 = .ok (.lload 5, 2) := by decide +kernel
theorem dX5_busRow_90 : decode cX5_busRow 90 = .ok (.lload 13, 2) := by decide +kernel
theorem dX5_busRow_92 : decode cX5_busRow 92 = .ok (.land, 1) := by decide +kernel
theorem dX5_busRow_93 : decode cX5_busRow 93 = .ok (.lor, 1) := by decide +kernel
theorem dX5_busRow_94 : decode cX5_busRow 94 = .ok (.lstore 7, 2) := by decide +kernel
theorem dX5_busRow_96 : decode cX5_busRow 96 = .ok (.lload 5, 2) := by decide +kernel
theorem dX5_busRow_98 : decode cX5_busRow 98 = .ok (.lload 13, 2) := by decide +kernel
theorem dX5_busRow_100 : decode cX5_busRow 100 = .ok (.lor, 1) := by decide +kernel
theorem dX5_busRow_101 : decode cX5_busRow 101 = .ok (.lstore 5, 2) := by decide +kernel
theorem dX5_busRow_103 : decode cX5_busRow 103 = .ok (.iinc 10 1, 3) := by decide +kernel
theorem dX5_busRow_106 : decode cX5_busRow 106 = .ok (.goto (-88), 3) := by decide +kernel
theorem dX5_busRow_109 : decode cX5_busRow 109 = .ok (.aload_n 0, 1) := by decide +kernel
theorem dX5_busRow_110 : decode cX5_busRow 110 = .ok (.dup, 1) := by decide +kernel
theorem dX5_busRow_111 : decode cX5_busRow 111 = .ok (.getfield 28, 3) := by decide +kernel
theorem dX5_busRow_114 : decode cX5_busRow 114 = .ok (.lload 5, 2) := by decide +kernel
theorem dX5_busRow_116 : decode cX5_busRow 116 = .ok (.lload 7, 2) := by decide +kernel
theorem dX5_busRow_118 : decode cX5_busRow 118 = .ok (.ldc2_w 26, 3) := by decide +kernel
theorem dX5_busRow_121 : decode cX5_busRow 121 = .ok (.lxor, 1) := by decide +kernel
theorem dX5_busRow_122 : decode cX5_busRow 122 = .ok (.land, 1) := by decide +kernel
theorem dX5_busRow_123 : decode cX5_busRow 123 = .ok (.land, 1) := by decide +kernel
theorem dX5_busRow_124 : decode cX5_busRow 124 = .ok (.putfield 28, 3) := by decide +kernel
theorem dX5_busRow_127 : decode cX5_busRow 127 = .ok (.lload_n 3, 1) := by decide +kernel
theorem dX5_busRow_128 : decode cX5_busRow 128 = .ok (.lreturn, 1) := by decide +kernel
set_option maxRecDepth 20000 in
theorem ggX5_collect_J13_bitCount_95d88 : GoodIn wsX5_collect wsJ13_bitCount_95d88 := goodIn_r _ [11, 12, 13, 14] (by decide +kernel) (by decide +kernel)
set_option maxRecDepth 20000 in
theorem gX5_collect_J13_bitCount_95d88 : GoodIn wsX5_collect (va_wsS RX5 99 yJ13_bitCount_95d88 wsJ13_bitCount_95d88) := goodIn_app (goodIn_of _ (by decide +kernel)) ggX5_collect_J13_bitCount_95d88
theorem dX5_collect_0 : decode cX5_collect 0 = .ok (.aload_n 0, 1) := by decide +kernel
theorem dX5_collect_1 : decode cX5_collect 1 = .ok (.dup, 1) := by decide +kernel
theorem dX5_collect_2 : decode cX5_collect 2 = .ok (.getfield 15, 3) := by decide +kernel
theorem dX5_collect_5 : decode cX5_collect 5 = .ok (.aload_n 0, 1) := by decide +kernel
theorem dX5_collect_6 : decode cX5_collect 6 = .ok (.getfield 28, 3) := by decide +kernel
theorem dX5_collect_9 : decode cX5_collect 9 = .ok (.invokestatic 99, 3) := by decide +kernel
theorem dX5_collect_12 : decode cX5_collect 12 = .ok (.iadd, 1) := by decide +kernel
theorem dX5_collect_13 : decode cX5_collect 13 = .ok (.putfield 15, 3) := by decide +kernel
theorem dX5_collect_16 : decode cX5_collect 16 = .ok (.iconst 0, 1) := by decide +kernel
theorem dX5_collect_17 : decode cX5_collect 17 = .ok (.istore_n 2, 1) := by decide +kernel
theorem dX5_collect_18 : decode cX5_collect 18 = .ok (.iload_n 2, 1) := by decide +kernel
theorem dX5_collect_19 : decode cX5_collect 19 = .ok (.aload_n 1, 1) := by decide +kernel
theorem dX5_collect_20 : decode cX5_collect 20 = .ok (.getfield 46, 3) := by decide +kernel
theorem dX5_collect_23 : decode cX5_collect 23 = .ok (.if_icmp .ge 69, 3) := by decide +kernel
theorem dX5_collect_26 : decode cX5_collect 26 = .ok (.aload_n 0, 1) := by decide +kernel
theorem dX5_collect_27 : decode cX5_collect 27 = .ok (.getfield 9, 3) := by decide +kernel
theorem dX5_collect_30 : decode cX5_collect 30 = .ok (.iload_n 2, 1) := by decide +kernel
theorem dX5_collect_31 : decode cX5_collect 31 = .ok (.laload, 1) := by decide +kernel
theorem dX5_collect_32 : decode cX5_collect 32 = .ok (.aload_n 0, 1) := by decide +kernel
theorem dX5_collect_33 : decode cX5_collect 33 = .ok (.getfield 28, 3) := by decide +kernel
theorem dX5_collect_36 : decode cX5_collect 36 = .ok (.land, 1) := by decide +kernel
theorem dX5_collect_37 : decode cX5_collect 37 = .ok (.lconst 0, 1) := by decide +kernel
theorem dX5_collect_38 : decode cX5_collect 38 = .ok (.lcmp, 1) := by decide +kernel
theorem dX5_collect_39 : decode cX5_collect 39 = .ok (.ifCond .eq 15, 3) := by decide +kernel
theorem dX5_collect_42 : decode cX5_collect 42 = .ok (.aload_n 0, 1) := by decide +kernel
theorem dX5_collect_43 : decode cX5_collect 43 = .ok (.dup, 1) := by decide +kernel
theorem dX5_collect_44 : decode cX5_collect 44 = .ok (.getfield 23, 3) := by decide +kernel
theorem dX5_collect_47 : decode cX5_collect 47 = .ok (.lconst 1, 1) := by decide +kernel
theorem dX5_collect_48 : decode cX5_collect 48 = .ok (.iload_n 2, 1) := by decide +kernel
theorem dX5_collect_49 : decode cX5_collect 49 = .ok (.lshl, 1) := by decide +kernel
theorem dX5_collect_50 : decode cX5_collect 50 = .ok (.lor, 1) := by decide +kernel
theorem dX5_collect_51 : decode cX5_collect 51 = .ok (.putfield 23, 3) := by decide +kernel
theorem dX5_collect_54 : decode cX5_collect 54 = .ok (.aload_n 0, 1) := by decide +kernel
theorem dX5_collect_55 : decode cX5_collect 55 = .ok (.getfield 9, 3) := by decide +kernel
theorem dX5_collect_58 : decode cX5_collect 58 = .ok (.iload_n 2, 1) := by decide +kernel
theorem dX5_collect_59 : decode cX5_collect 59 = .ok (.laload, 1) := by decide +kernel
theorem dX5_collect_60 : decode cX5_collect 60 = .ok (.ldc2_w 26, 3) := by decide +kernel
theorem dX5_collect_63 : decode cX5_collect 63 = .ok (.lxor, 1) := by decide +kernel
theorem dX5_collect_64 : decode cX5_collect 64 = .ok (.aload_n 0, 1) := by decide +kernel
theorem dX5_collect_65 : decode cX5_collect 65 = .ok (.getfield 28, 3) := by decide +kernel
theorem dX5_collect_68 : decode cX5_collect 68 = .ok (.land, 1) := by decide +kernel
theorem dX5_collect_69 : decode cX5_collect 69 = .ok (.lconst 0, 1) := by decide +kernel
theorem dX5_collect_70 : decode cX5_collect 70 = .ok (.lcmp, 1) := by decide +kernel
theorem dX5_collect_71 : decode cX5_collect 71 = .ok (.ifCond .eq 15, 3) := by decide +kernel
theorem dX5_collect_74 : decode cX5_collect 74 = .ok (.aload_n 0, 1) := by decide +kernel
theorem dX5_collect_75 : decode cX5_collect 75 = .ok (.dup, 1) := by decide +kernel
theorem dX5_collect_76 : decode cX5_collect 76 = .ok (.getfield 19, 3) := by decide +kernel
theorem dX5_collect_79 : decode cX5_collect 79 = .ok (.lconst 1, 1) := by decide +kernel
theorem dX5_collect_80 : decode cX5_collect 80 = .ok (.iload_n 2, 1) := by decide +kernel
theorem dX5_collect_81 : decode cX5_collect 81 = .ok (.lshl, 1) := by decide +kernel
theorem dX5_collect_82 : decode cX5_collect 82 = .ok (.lor, 1) := by decide +kernel
theorem dX5_collect_83 : decode cX5_collect 83 = .ok (.putfield 19, 3) := by decide +kernel
theorem dX5_collect_86 : decode cX5_collect 86 = .ok (.iinc 2 1, 3) := by decide +kernel
theorem dX5_collect_89 : decode cX5_collect 89 = .ok (.goto (-71), 3) := by decide +kernel
theorem dX5_collect_92 : decode cX5_collect 92 = .ok (.return_, 1) := by decide +kernel
set_option maxRecDepth 20000 in
theorem ggX6_init_X3_init : GoodIn wsX6_init wsX3_init := goodIn_r _ [28, 29, 2, 3, 30, 31, 32, 33, 34, 35, 36, 15, 37, 38, 39, 40, 41, 42, 81, 82, 83, 84, 85, 86, 87, 88, 89, 90, 91, 92, 93, 94, 95, 96, 97, 124, 125, 126, 127, 128, 129, 130] (by decide +kernel) (by decide +kernel)
set_option maxRecDepth 20000 in
theorem gX6_init_X3_init_n15 : GoodIn wsX6_init (wsX3_init) := ggX6_init_X3_init
set_option maxRecDepth 20000 in
theorem ggX6_init_X0_init : GoodIn wsX6_init wsX0_init := goodIn_r _ [44, 45, 2, 3, 35, 46, 15, 47, 48, 49, 50, 51, 52, 53, 54, 55, 56, 98, 99, 100, 101, 102, 103, 104, 105, 106, 107, 108, 109, 110] (by decide +kernel) (by decide +kernel)
set_option maxRecDepth 20000 in
theorem gX6_init_X0_init_n22 : GoodIn wsX6_init (wsX0_init) := ggX6_init_X0_init
set_option maxRecDepth 20000 in
theorem ggX6_init_X5_init : GoodIn wsX6_init wsX5_init := goodIn_r _ [58, 59, 2, 3, 35, 60, 111, 112, 113, 114, 115] (by decide +kernel) (by decide +kernel)
set_option maxRecDepth 20000 in
theorem gX6_init_X5_init_n42 : GoodIn wsX6_init (wsX5_init) := ggX6_init_X5_init
set_option maxRecDepth 20000 in
theorem ggX6_init_X4_init : GoodIn wsX6_init wsX4_init := goodIn_r _ [62, 63, 2, 3, 15, 64, 65, 66, 67, 68, 116, 117, 118, 119, 120, 121, 122, 123] (by decide +kernel) (by decide +kernel)
set_option maxRecDepth 20000 in
theorem gX6_init_X4_init_n49 : GoodIn wsX6_init (wsX4_init) := ggX6_init_X4_init
theorem dX6_init_0 : decode cX6_init 0 = .ok (.aload_n 0, 1) := by decide +kernel
theorem dX6_init_1 : decode cX6_init 1 = .ok (.invokespecial 3, 3) := by decide +kernel
theorem dX6_init_4 : decode cX6_init 4 = .ok (.aload_n 0, 1) := by decide +kernel
theorem dX6_init_5 : decode cX6_init 5 = .ok (.sipush 2000, 3) := by decide +kernel
theorem dX6_init_8 : decode cX6_init 8 = .ok (.newarray .byte, 2) := by decide +kernel
theorem dX6_init_10 : decode cX6_init 10 = .ok (.putfield 9, 3) := by decide +kernel
theorem dX6_init_13 : decode cX6_init 13 = .ok (.aload_n 0, 1) := by decide +kernel
theorem dX6_init_14 : decode cX6_init 14 = .ok (.new 13, 3) := by decide +kernel
theorem dX6_init_17 : decode cX6_init 17 = .ok (.dup, 1) := by decide +kernel
theorem dX6_init_18 : decode cX6_init 18 = .ok (.invokespecial 15, 3) := by decide +kernel
theorem dX6_init_21 : decode cX6_init 21 = .ok (.putfield 16, 3) := by decide +kernel
theorem dX6_init_24 : decode cX6_init 24 = .ok (.aload_n 0, 1) := by decide +kernel
theorem dX6_init_25 : decode cX6_init 25 = .ok (.new 20, 3) := by decide +kernel
theorem dX6_init_28 : decode cX6_init 28 = .ok (.dup, 1) := by decide +kernel
theorem dX6_init_29 : decode cX6_init 29 = .ok (.invokespecial 22, 3) := by decide +kernel
theorem dX6_init_32 : decode cX6_init 32 = .ok (.putfield 23, 3) := by decide +kernel
theorem dX6_init_35 : decode cX6_init 35 = .ok (.aload_n 0, 1) := by decide +kernel
theorem dX6_init_36 : decode cX6_init 36 = .ok (.new 20, 3) := by decide +kernel
theorem dX6_init_39 : decode cX6_init 39 = .ok (.dup, 1) := by decide +kernel
theorem dX6_init_40 : decode cX6_init 40 = .ok (.invokespecial 22, 3) := by decide +kernel
theorem dX6_init_43 : decode cX6_init 43 = .ok (.putfield 27, 3) := by decide +kernel
theorem dX6_init_46 : decode cX6_init 46 = .ok (.aload_n 0, 1) := by decide +kernel
theorem dX6_init_47 : decode cX6_init 47 = .ok (.bipush 60, 2) := by decide +kernel
theorem dX6_init_49 : decode cX6_init 49 = .ok (.newarray .int, 2) := by decide +kernel
theorem dX6_init_51 : decode cX6_init 51 = .ok (.putfield 30, 3) := by decide +kernel
theorem dX6_init_54 : decode cX6_init 54 = .ok (.aload_n 0, 1) := by decide +kernel
theorem dX6_init_55 : decode cX6_init 55 = .ok (.bipush 60, 2) := by decide +kernel
theorem dX6_init_57 : decode cX6_init 57 = .ok (.newarray .int, 2) := by decide +kernel
theorem dX6_init_59 : decode cX6_init 59 = .ok (.putfield 34, 3) := by decide +kernel
theorem dX6_init_62 : decode cX6_init 62 = .ok (.aload_n 0, 1) := by decide +kernel
theorem dX6_init_63 : decode cX6_init 63 = .ok (.bipush 60, 2) := by decide +kernel
theorem dX6_init_65 : decode cX6_init 65 = .ok (.newarray .int, 2) := by decide +kernel
theorem dX6_init_67 : decode cX6_init 67 = .ok (.putfield 37, 3) := by decide +kernel
theorem dX6_init_70 : decode cX6_init 70 = .ok (.aload_n 0, 1) := by decide +kernel
theorem dX6_init_71 : decode cX6_init 71 = .ok (.new 40, 3) := by decide +kernel
theorem dX6_init_74 : decode cX6_init 74 = .ok (.dup, 1) := by decide +kernel
theorem dX6_init_75 : decode cX6_init 75 = .ok (.invokespecial 42, 3) := by decide +kernel
theorem dX6_init_78 : decode cX6_init 78 = .ok (.putfield 43, 3) := by decide +kernel
theorem dX6_init_81 : decode cX6_init 81 = .ok (.aload_n 0, 1) := by decide +kernel
theorem dX6_init_82 : decode cX6_init 82 = .ok (.new 47, 3) := by decide +kernel
theorem dX6_init_85 : decode cX6_init 85 = .ok (.dup, 1) := by decide +kernel
theorem dX6_init_86 : decode cX6_init 86 = .ok (.invokespecial 49, 3) := by decide +kernel
theorem dX6_init_89 : decode cX6_init 89 = .ok (.putfield 50, 3) := by decide +kernel
theorem dX6_init_92 : decode cX6_init 92 = .ok (.return_, 1) := by decide +kernel
set_option maxRecDepth 20000 in
theorem ggX6_feed_X6_addToTape : GoodIn wsX6_feed wsX6_addToTape := goodIn_r _ [6, 1, 7, 8, 9, 10, 11, 12, 13, 14, 15, 16, 17, 18, 19] (by decide +kernel) (by decide +kernel)
set_option maxRecDepth 20000 in
theorem gX6_feed_X6_addToTape : GoodIn wsX6_feed (wsV RX6 58 RX6 yX6_addToTape wsX6_addToTape) := goodIn_app (goodIn_of _ (by decide +kernel)) ggX6_feed_X6_addToTape
theorem dX6_feed_0 : decode cX6_feed 0 = .ok (.aload_n 0, 1) := by decide +kernel
theorem dX6_feed_1 : decode cX6_feed 1 = .ok (.getfield 54, 3) := by decide +kernel
theorem dX6_feed_4 : decode cX6_feed 4 = .ok (.bipush 20, 2) := by decide +kernel
theorem dX6_feed_6 : decode cX6_feed 6 = .ok (.iadd, 1) := by decide +kernel
theorem dX6_feed_7 : decode cX6_feed 7 = .ok (.sipush 2000, 3) := by decide +kernel
theorem dX6_feed_10 : decode cX6_feed 10 = .ok (.if_icmp .le 5, 3) := by decide +kernel
theorem dX6_feed_13 : decode cX6_feed 13 = .ok (.iconst (-1), 1) := by decide +kernel
theorem dX6_feed_14 : decode cX6_feed 14 = .ok (.ireturn, 1) := by decide +kernel
theorem dX6_feed_15 : decode cX6_feed 15 = .ok (.aload_n 0, 1) := by decide +kernel
theorem dX6_feed_16 : decode cX6_feed 16 = .ok (.iload_n 1, 1) := by decide +kernel
theorem dX6_feed_17 : decode cX6_feed 17 = .ok (.invokevirtual 58, 3) := by decide +kernel
theorem dX6_feed_20 : decode cX6_feed 20 = .ok (.aload_n 0, 1) := by decide +kernel
theorem dX6_feed_21 : decode cX6_feed 21 = .ok (.iload_n 2, 1) := by decide +kernel
theorem dX6_feed_22 : decode cX6_feed 22 = .ok (.invokevirtual 58, 3) := by decide +kernel
theorem dX6_feed_25 : decode cX6_feed 25 = .ok (.aload_n 0, 1) := by decide +kernel
theorem dX6_feed_26 : decode cX6_feed 26 = .ok (.iload_n 3, 1) := by decide +kernel
theorem dX6_feed_27 : decode cX6_feed 27 = .ok (.invokevirtual 58, 3) := by decide +kernel
theorem dX6_feed_30 : decode cX6_feed 30 = .ok (.aload_n 0, 1) := by decide +kernel
theorem dX6_feed_31 : decode cX6_feed 31 = .ok (.iload 4, 2) := by decide +kernel
theorem dX6_feed_33 : decode cX6_feed 33 = .ok (.invokevirtual 58, 3) := by decide +kernel
theorem dX6_feed_36 : decode cX6_feed 36 = .ok (.aload_n 0, 1) := by decide +kernel
theorem dX6_feed_37 : decode cX6_feed 37 = .ok (.iload 5, 2) := by decide +kernel
theorem dX6_feed_39 : decode cX6_feed 39 = .ok (.invokevirtual 58, 3) := by decide +kernel
theorem dX6_feed_42 : decode cX6_feed 42 = .ok (.aload_n 0, 1) := by decide +kernel
theorem dX6_feed_43 : decode cX6_feed 43 = .ok (.getfield 54, 3) := by decide +kernel
theorem dX6_feed_46 : decode cX6_feed 46 = .ok (.ireturn, 1) := by decide +kernel
theorem dX6_end_0 : decode cX6_end 0 = .ok (.iload_n 1, 1) := by decide +kernel
theorem dX6_end_1 : decode cX6_end 1 = .ok (.ifCond .lt 11, 3) := by decide +kernel
theorem dX6_end_4 : decode cX6_end 4 = .ok (.iload_n 1, 1) := by decide +kernel
theorem dX6_end_5 : decode cX6_end 5 = .ok (.aload_n 0, 1) := by decide +kernel
theorem dX6_end_6 : decode cX6_end 6 = .ok (.getfield 54, 3) := by decide +kernel
theorem dX6_end_9 : decode cX6_end 9 = .ok (.if_icmp .le 5, 3) := by decide +kernel
theorem dX6_end_12 : decode cX6_end 12 = .ok (.iconst (-1), 1) := by decide +kernel
theorem dX6_end_13 : decode cX6_end 13 = .ok (.ireturn, 1) := by decide +kernel
theorem dX6_end_14 : decode cX6_end 14 = .ok (.aload_n 0, 1) := by decide +kernel
theorem dX6_end_15 : decode cX6_end 15 = .ok (.iload_n 1, 1) := by decide +kernel
theorem dX6_end_16 : decode cX6_end 16 = .ok (.putfield 54, 3) := by decide +kernel
theorem dX6_end_19 : decode cX6_end 19 = .ok (.iload_n 1, 1) := by decide +kernel
theorem dX6_end_20 : decode cX6_end 20 = .ok (.ireturn, 1) := by decide +kernel
set_option maxRecDepth 20000 in
theorem ggX6_read_X3_readInto : GoodIn wsX6_read wsX3_readInto := goodIn_r _ [13, 14, 15, 16, 17, 18, 19, 20, 21, 22, 23, 24, 25, 26, 27, 28, 29, 30, 31, 32, 33, 34, 35, 36, 37, 38, 39, 40, 12, 41, 42, 43, 44, 45, 46, 47, 48, 49, 50, 51, 52, 53, 54, 55, 56, 57, 58, 59, 60, 61, 62, 63, 64, 65, 66, 67, 68, 69, 70, 71, 72, 73, 74, 75, 76, 77, 78, 79, 80, 81, 82, 83, 84, 85, 86, 87, 88, 89, 90, 91, 92, 93, 94, 95, 96, 97, 98, 99, 100, 101, 102, 103, 104, 105, 106, 107, 108, 109, 110, 111, 112, 113, 114, 115, 116, 117, 118, 119, 120, 121, 122, 123, 124, 125, 126, 127, 128, 129, 130, 131, 132, 133, 134, 135, 136, 137, 138, 139, 140, 141, 142, 143, 144, 145, 146, 147, 148, 149, 150, 151, 152, 153, 154, 155, 156, 157, 158, 159, 160, 161, 162, 163, 164, 165, 166, 167, 168, 169, 170, 171, 172, 173, 174, 175, 176, 177, 178, 179, 180, 181, 182, 183, 184, 185, 186, 187, 188, 189, 190, 191, 192, 193, 194, 195, 196, 197, 198, 199, 200, 201, 202, 203, 204, 205, 206, 207, 208, 209, 210, 211, 212, 213, 214, 215, 216, 217, 218, 219, 220, 221, 222, 223, 224, 225, 226, 227, 228, 229, 230, 231, 232, 233, 234, 235, 236, 237, 238, 239, 240, 241, 242, 243, 244, 245, 246, 247, 248, 249, 250, 251, 252, 253, 254, 255, 256, 326, 327, 328, 329, 330, 331, 332, 333, 334, 335, 336, 337, 338, 339, 340, 341, 342, 313, 314, 315, 316, 317, 318, 319, 320, 321, 322, 323, 324, 325, 343, 344, 345, 346, 347, 348, 349] (by decide +kernel) (by decide +kernel)
set_option maxRecDepth 20000 in
theorem gX6_read_X3_readInto : GoodIn wsX6_read (wsV RX6 62 RX3 yX3_readInto wsX3_readInto) := goodIn_app (goodIn_of _ (by decide +kernel)) ggX6_read_X3_readInto
set_option maxRecDepth 20000 in
theorem ggX6_read_X6_settleValues : GoodIn wsX6_read wsX6_settleValues := goodIn_r _ [261, 5, 7, 262, 263, 264, 265, 266, 267, 268, 269, 270, 271, 272, 273, 274, 275, 276, 277, 278, 279, 22, 280, 228, 281, 282, 283, 284, 221, 222, 223, 141, 144, 285, 286, 287, 288, 289, 290, 291, 292, 293, 294, 295, 296, 297, 298, 299, 300, 145, 301, 302, 303, 304, 305, 306, 307, 308, 309, 310, 311, 312, 313, 314, 315, 316, 317, 318, 319, 320, 321, 322, 323, 324, 325] (by decide +kernel) (by decide +kernel)
set_option maxRecDepth 20000 in
theorem gX6_read_X6_settleValues : GoodIn wsX6_read (wsV RX6 73 RX6 yX6_settleValues wsX6_settleValues) := goodIn_app (goodIn_of _ (by decide +kernel)) ggX6_read_X6_settleValues
theorem dX6_read_0 : decode cX6_read 0 = .ok (.aload_n 0, 1) := by decide +kernel
theorem dX6_read_1 : decode cX6_read 1 = .ok (.getfield 54, 3) := by decide +kernel
theorem dX6_read_4 : decode cX6_read 4 = .ok (.istore_n 1, 1) := by decide +kernel
theorem dX6_read_5 : decode cX6_read 5 = .ok (.aload_n 0, 1) := by decide +kernel
theorem dX6_read_6 : decode cX6_read 6 = .ok (.iconst 0, 1) := by decide +kernel
theorem dX6_read_7 : decode cX6_read 7 = .ok (.putfield 54, 3) := by decide +kernel
theorem dX6_read_10 : decode cX6_read 10 = .ok (.aload_n 0, 1) := by decide +kernel
theorem dX6_read_11 : decode cX6_read 11 = .ok (.getfield 16, 3) := by decide +kernel
theorem dX6_read_14 : decode cX6_read 14 = .ok (.aload_n 0, 1) := by decide +kernel
theorem dX6_read_15 : decode cX6_read 15 = .ok (.getfield 27, 3) := by decide +kernel
theorem dX6_read_18 : decode cX6_read 18 = .ok (.aload_n 0, 1) := by decide +kernel
theorem dX6_read_19 : decode cX6_read 19 = .ok (.getfield 9, 3) := by decide +kernel
theorem dX6_read_22 : decode cX6_read 22 = .ok (.iload_n 1, 1) := by decide +kernel
theorem dX6_read_23 : decode cX6_read 23 = .ok (.invokevirtual 62, 3) := by decide +kernel
theorem dX6_read_26 : decode cX6_read 26 = .ok (.ifCond .ne 5, 3) := by decide +kernel
theorem dX6_read_29 : decode cX6_read 29 = .ok (.iconst (-1), 1) := by decide +kernel
theorem dX6_read_30 : decode cX6_read 30 = .ok (.ireturn, 1) := by decide +kernel
theorem dX6_read_31 : decode cX6_read 31 = .ok (.aload_n 0, 1) := by decide +kernel
theorem dX6_read_32 : decode cX6_read 32 = .ok (.getfield 23, 3) := by decide +kernel
theorem dX6_read_35 : decode cX6_read 35 = .ok (.astore_n 2, 1) := by decide +kernel
theorem dX6_read_36 : decode cX6_read 36 = .ok (.aload_n 0, 1) := by decide +kernel
theorem dX6_read_37 : decode cX6_read 37 = .ok (.aload_n 0, 1) := by decide +kernel
theorem dX6_read_38 : decode cX6_read 38 = .ok (.getfield 27, 3) := by decide +kernel
theorem dX6_read_41 : decode cX6_read 41 = .ok (.putfield 23, 3) := by decide +kernel
theorem dX6_read_44 : decode cX6_read 44 = .ok (.aload_n 0, 1) := by decide +kernel
theorem dX6_read_45 : decode cX6_read 45 = .ok (.aload_n 2, 1) := by decide +kernel
theorem dX6_read_46 : decode cX6_read 46 = .ok (.putfield 27, 3) := by decide +kernel
theorem dX6_read_49 : decode cX6_read 49 = .ok (.iconst 0, 1) := by decide +kernel
theorem dX6_read_50 : decode cX6_read 50 = .ok (.istore_n 3, 1) := by decide +kernel
theorem dX6_read_51 : decode cX6_read 51 = .ok (.iload_n 3, 1) := by decide +kernel
theorem dX6_read_52 : decode cX6_read 52 = .ok (.aload_n 0, 1) := by decide +kernel
theorem dX6_read_53 : decode cX6_read 53 = .ok (.getfield 23, 3) := by decide +kernel
theorem dX6_read_56 : decode cX6_read 56 = .ok (.getfield 66, 3) := by decide +kernel
theorem dX6_read_59 : decode cX6_read 59 = .ok (.if_icmp .ge 16, 3) := by decide +kernel
theorem dX6_read_62 : decode cX6_read 62 = .ok (.aload_n 0, 1) := by decide +kernel
theorem dX6_read_63 : decode cX6_read 63 = .ok (.getfield 30, 3) := by decide +kernel
theorem dX6_read_66 : decode cX6_read 66 = .ok (.iload_n 3, 1) := by decide +kernel
theorem dX6_read_67 : decode cX6_read 67 = .ok (.iconst 2, 1) := by decide +kernel
theorem dX6_read_68 : decode cX6_read 68 = .ok (.iastore, 1) := by decide +kernel
theorem dX6_read_69 : decode cX6_read 69 = .ok (.iinc 3 1, 3) := by decide +kernel
theorem dX6_read_72 : decode cX6_read 72 = .ok (.goto (-21), 3) := by decide +kernel
theorem dX6_read_75 : decode cX6_read 75 = .ok (.aload_n 0, 1) := by decide +kernel
theorem dX6_read_76 : decode cX6_read 76 = .ok (.iconst 0, 1) := by decide +kernel
theorem dX6_read_77 : decode cX6_read 77 = .ok (.putfield 69, 3) := by decide +kernel
theorem dX6_read_80 : decode cX6_read 80 = .ok (.aload_n 0, 1) := by decide +kernel
theorem dX6_read_81 : decode cX6_read 81 = .ok (.invokevirtual 73, 3) := by decide +kernel
theorem dX6_read_84 : decode cX6_read 84 = .ok (.aload_n 0, 1) := by decide +kernel
theorem dX6_read_85 : decode cX6_read 85 = .ok (.getfield 23, 3) := by decide +kernel
theorem dX6_read_88 : decode cX6_read 88 = .ok (.getfield 66, 3) := by decide +kernel
theorem dX6_read_91 : decode cX6_read 91 = .ok (.ireturn, 1) := by decide +kernel
theorem dX6_fault_0 : decode cX6_fault 0 = .ok (.iload_n 1, 1) := by decide +kernel
theorem dX6_fault_1 : decode cX6_fault 1 = .ok (.lookupswitch 43 #[(0, 27), (1, 35)], 27) := by decide +kernel
theorem dX6_fault_28 : decode cX6_fault 28 = .ok (.aload_n 0, 1) := by decide +kernel
theorem dX6_fault_29 : decode cX6_fault 29 = .ok (.getfield 16, 3) := by decide +kernel
theorem dX6_fault_32 : decode cX6_fault 32 = .ok (.getfield 76, 3) := by decide +kernel
theorem dX6_fault_35 : decode cX6_fault 35 = .ok (.ireturn, 1) := by decide +kernel
theorem dX6_fault_36 : decode cX6_fault 36 = .ok (.aload_n 0, 1) := by decide +kernel
theorem dX6_fault_37 : decode cX6_fault 37 = .ok (.getfield 16, 3) := by decide +kernel
theorem dX6_fault_40 : decode cX6_fault 40 = .ok (.getfield 79, 3) := by decide +kernel
theorem dX6_fault_43 : decode cX6_fault 43 = .ok (.ireturn, 1) := by decide +kernel
theorem dX6_fault_44 : decode cX6_fault 44 = .ok (.iconst (-1), 1) := by decide +kernel
theorem dX6_fault_45 : decode cX6_fault 45 = .ok (.ireturn, 1) := by decide +kernel
set_option maxRecDepth 20000 in
theorem ggX6_named_X0_find : GoodIn wsX6_named wsX0_find := goodIn_r _ [7, 8, 9, 22, 23, 24, 25, 26, 27, 28, 29, 30, 31, 32, 33, 34] (by decide +kernel) (by decide +kernel)
set_option maxRecDepth 20000 in
theorem gX6_named_X0_find : GoodIn wsX6_named (wsV RX6 84 RX0 yX0_find wsX0_find) := goodIn_app (goodIn_of _ (by decide +kernel)) ggX6_named_X0_find
theorem dX6_named_0 : decode cX6_named 0 = .ok (.lconst 0, 1) := by decide +kernel
theorem dX6_named_1 : decode cX6_named 1 = .ok (.lstore_n 3, 1) := by decide +kernel
theorem dX6_named_2 : decode cX6_named 2 = .ok (.bipush 56, 2) := by decide +kernel
theorem dX6_named_4 : decode cX6_named 4 = .ok (.istore 5, 2) := by decide +kernel
theorem dX6_named_6 : decode cX6_named 6 = .ok (.iload 5, 2) := by decide +kernel
theorem dX6_named_8 : decode cX6_named 8 = .ok (.ifCond .lt 34, 3) := by decide +kernel
theorem dX6_named_11 : decode cX6_named 11 = .ok (.lload_n 1, 1) := by decide +kernel
theorem dX6_named_12 : decode cX6_named 12 = .ok (.iload 5, 2) := by decide +kernel
theorem dX6_named_14 : decode cX6_named 14 = .ok (.lushr, 1) := by decide +kernel
theorem dX6_named_15 : decode cX6_named 15 = .ok (.ldc2_w 82, 3) := by decide +kernel
theorem dX6_named_18 : decode cX6_named 18 = .ok (.land, 1) := by decide +kernel
theorem dX6_named_19 : decode cX6_named 19 = .ok (.lstore 6, 2) := by decide +kernel
theorem dX6_named_21 : decode cX6_named 21 = .ok (.lload 6, 2) := by decide +kernel
theorem dX6_named_23 : decode cX6_named 23 = .ok (.lconst 0, 1) := by decide +kernel
theorem dX6_named_24 : decode cX6_named 24 = .ok (.lcmp, 1) := by decide +kernel
theorem dX6_named_25 : decode cX6_named 25 = .ok (.ifCond .eq 11, 3) := by decide +kernel
theorem dX6_named_28 : decode cX6_named 28 = .ok (.lload_n 3, 1) := by decide +kernel
theorem dX6_named_29 : decode cX6_named 29 = .ok (.bipush 8, 2) := by decide +kernel
theorem dX6_named_31 : decode cX6_named 31 = .ok (.lshl, 1) := by decide +kernel
theorem dX6_named_32 : decode cX6_named 32 = .ok (.lload 6, 2) := by decide +kernel
theorem dX6_named_34 : decode cX6_named 34 = .ok (.lor, 1) := by decide +kernel
theorem dX6_named_35 : decode cX6_named 35 = .ok (.lstore_n 3, 1) := by decide +kernel
theorem dX6_named_36 : decode cX6_named 36 = .ok (.iinc 5 (-8), 3) := by decide +kernel
theorem dX6_named_39 : decode cX6_named 39 = .ok (.goto (-33), 3) := by decide +kernel
theorem dX6_named_42 : decode cX6_named 42 = .ok (.aload_n 0, 1) := by decide +kernel
theorem dX6_named_43 : decode cX6_named 43 = .ok (.getfield 23, 3) := by decide +kernel
theorem dX6_named_46 : decode cX6_named 46 = .ok (.lload_n 3, 1) := by decide +kernel
theorem dX6_named_47 : decode cX6_named 47 = .ok (.invokevirtual 84, 3) := by decide +kernel
theorem dX6_named_50 : decode cX6_named 50 = .ok (.ireturn, 1) := by decide +kernel
set_option maxRecDepth 20000 in
theorem ggX6_node_X0_has : GoodIn wsX6_node wsX0_has := goodIn_r _ [9, 10, 29, 30, 31, 32, 33, 34, 35, 36, 37, 38, 39, 40, 41] (by decide +kernel) (by decide +kernel)
set_option maxRecDepth 20000 in
theorem gX6_node_X0_has : GoodIn wsX6_node (wsV RX6 88 RX0 yX0_has wsX0_has) := goodIn_app (goodIn_of _ (by decide +kernel)) ggX6_node_X0_has
set_option maxRecDepth 20000 in
theorem ggX6_node_X0_size : GoodIn wsX6_node wsX0_size := goodIn_r _ [14, 15, 16, 29, 30, 31, 32, 33, 34, 35, 36, 37, 38, 39, 40, 41] (by decide +kernel) (by decide +kernel)
set_option maxRecDepth 20000 in
theorem gX6_node_X0_size : GoodIn wsX6_node (wsV RX6 95 RX0 yX0_size wsX0_size) := goodIn_app (goodIn_of _ (by decide +kernel)) ggX6_node_X0_size
theorem dX6_node_0 : decode cX6_node 0 = .ok (.aload_n 0, 1) := by decide +kernel
theorem dX6_node_1 : decode cX6_node 1 = .ok (.getfield 23, 3) := by decide +kernel
theorem dX6_node_4 : decode cX6_node 4 = .ok (.iload_n 1, 1) := by decide +kernel
theorem dX6_node_5 : decode cX6_node 5 = .ok (.invokevirtual 88, 3) := by decide +kernel
theorem dX6_node_8 : decode cX6_node 8 = .ok (.ifCond .ne 5, 3) := by decide +kernel
theorem dX6_node_11 : decode cX6_node 11 = .ok (.iconst (-1), 1) := by decide +kernel
theorem dX6_node_12 : decode cX6_node 12 = .ok (.ireturn, 1) := by decide +kernel
theorem dX6_node_13 : decode cX6_node 13 = .ok (.iload_n 2, 1) := by decide +kernel
theorem dX6_node_14 : decode cX6_node 14 = .ok (.tableswitch 69 0 3 #[30, 40, 49, 59], 30) := by decide +kernel
theorem dX6_node_44 : decode cX6_node 44 = .ok (.aload_n 0, 1) := by decide +kernel
theorem dX6_node_45 : decode cX6_node 45 = .ok (.getfield 23, 3) := by decide +kernel
theorem dX6_node_48 : decode cX6_node 48 = .ok (.getfield 92, 3) := by decide +kernel
theorem dX6_node_51 : decode cX6_node 51 = .ok (.iload_n 1, 1) := by decide +kernel
theorem dX6_node_52 : decode cX6_node 52 = .ok (.iaload, 1) := by decide +kernel
theorem dX6_node_53 : decode cX6_node 53 = .ok (.ireturn, 1) := by decide +kernel
theorem dX6_node_54 : decode cX6_node 54 = .ok (.aload_n 0, 1) := by decide +kernel
theorem dX6_node_55 : decode cX6_node 55 = .ok (.getfield 23, 3) := by decide +kernel
theorem dX6_node_58 : decode cX6_node 58 = .ok (.iload_n 1, 1) := by decide +kernel
theorem dX6_node_59 : decode cX6_node 59 = .ok (.invokevirtual 95, 3) := by decide +kernel
theorem dX6_node_62 : decode cX6_node 62 = .ok (.ireturn, 1) := by decide +kernel
theorem dX6_node_63 : decode cX6_node 63 = .ok (.aload_n 0, 1) := by decide +kernel
theorem dX6_node_64 : decode cX6_node 64 = .ok (.getfield 23, 3) := by decide +kernel
theorem dX6_node_67 : decode cX6_node 67 = .ok (.getfield 99, 3) := by decide +kernel
theorem dX6_node_70 : decode cX6_node 70 = .ok (.iload_n 1, 1) := by decide +kernel
theorem dX6_node_71 : decode cX6_node 71 = .ok (.iaload, 1) := by decide +kernel
theorem dX6_node_72 : decode cX6_node 72 = .ok (.ireturn, 1) := by decide +kernel
theorem dX6_node_73 : decode cX6_node 73 = .ok (.aload_n 0, 1) := by decide +kernel
theorem dX6_node_74 : decode cX6_node 74 = .ok (.getfield 23, 3) := by decide +kernel
theorem dX6_node_77 : decode cX6_node 77 = .ok (.getfield 102, 3) := by decide +kernel
theorem dX6_node_80 : decode cX6_node 80 = .ok (.iload_n 1, 1) := by decide +kernel
theorem dX6_node_81 : decode cX6_node 81 = .ok (.iaload, 1) := by decide +kernel
theorem dX6_node_82 : decode cX6_node 82 = .ok (.ireturn, 1) := by decide +kernel
theorem dX6_node_83 : decode cX6_node 83 = .ok (.iconst (-1), 1) := by decide +kernel
theorem dX6_node_84 : decode cX6_node 84 = .ok (.ireturn, 1) := by decide +kernel
set_option maxRecDepth 20000 in
theorem ggX6_set_X0_isKind : GoodIn wsX6_set wsX0_isKind := goodIn_r _ [7, 8, 9, 10, 11, 6, 12, 13, 76, 77, 78, 79, 80, 81, 82, 83, 84, 85, 86, 87, 88] (by decide +kernel) (by decide +kernel)
set_option maxRecDepth 20000 in
theorem gX6_set_X0_isKind : GoodIn wsX6_set (wsV RX6 105 RX0 yX0_isKind wsX0_isKind) := goodIn_app (goodIn_of _ (by decide +kernel)) ggX6_set_X0_isKind
set_option maxRecDepth 20000 in
theorem ggX6_set_X6_settleValues : GoodIn wsX6_set wsX6_settleValues := goodIn_r _ [18, 1, 2, 19, 20, 21, 22, 23, 24, 25, 26, 27, 28, 29, 30, 31, 32, 33, 34, 35, 36, 6, 37, 38, 39, 40, 41, 42, 43, 44, 45, 8, 46, 47, 48, 49, 50, 51, 52, 53, 54, 55, 56, 57, 58, 59, 60, 61, 62, 63, 64, 65, 66, 67, 68, 69, 70, 71, 72, 73, 74, 75, 76, 77, 78, 79, 80, 81, 82, 83, 84, 85, 86, 87, 88] (by decide +kernel) (by decide +kernel)
set_option maxRecDepth 20000 in
theorem gX6_set_X6_settleValues : GoodIn wsX6_set (wsV RX6 73 RX6 yX6_settleValues wsX6_settleValues) := goodIn_app (goodIn_of _ (by decide +kernel)) ggX6_set_X6_settleValues
theorem dX6_set_0 : decode cX6_set 0 = .ok (.aload_n 0, 1) := by decide +kernel
theorem dX6_set_1 : decode cX6_set 1 = .ok (.getfield 23, 3) := by decide +kernel
theorem dX6_set_4 : decode cX6_set 4 = .ok (.iload_n 1, 1) := by decide +kernel
theorem dX6_set_5 : decode cX6_set 5 = .ok (.iconst 0, 1) := by decide +kernel
theorem dX6_set_6 : decode cX6_set 6 = .ok (.invokevirtual 105, 3) := by decide +kernel
theorem dX6_set_9 : decode cX6_set 9 = .ok (.ifCond .eq 12, 3) := by decide +kernel
theorem dX6_set_12 : decode cX6_set 12 = .ok (.iload_n 2, 1) := by decide +kernel
theorem dX6_set_13 : decode cX6_set 13 = .ok (.ifCond .lt 8, 3) := by decide +kernel
theorem dX6_set_16 : decode cX6_set 16 = .ok (.iload_n 2, 1) := by decide +kernel
theorem dX6_set_17 : decode cX6_set 17 = .ok (.iconst 3, 1) := by decide +kernel
theorem dX6_set_18 : decode cX6_set 18 = .ok (.if_icmp .le 5, 3) := by decide +kernel
theorem dX6_set_21 : decode cX6_set 21 = .ok (.iconst 0, 1) := by decide +kernel
theorem dX6_set_22 : decode cX6_set 22 = .ok (.ireturn, 1) := by decide +kernel
theorem dX6_set_23 : decode cX6_set 23 = .ok (.aload_n 0, 1) := by decide +kernel
theorem dX6_set_24 : decode cX6_set 24 = .ok (.getfield 30, 3) := by decide +kernel
theorem dX6_set_27 : decode cX6_set 27 = .ok (.iload_n 1, 1) := by decide +kernel
theorem dX6_set_28 : decode cX6_set 28 = .ok (.iload_n 2, 1) := by decide +kernel
theorem dX6_set_29 : decode cX6_set 29 = .ok (.iastore, 1) := by decide +kernel
theorem dX6_set_30 : decode cX6_set 30 = .ok (.aload_n 0, 1) := by decide +kernel
theorem dX6_set_31 : decode cX6_set 31 = .ok (.invokevirtual 73, 3) := by decide +kernel
theorem dX6_set_34 : decode cX6_set 34 = .ok (.iconst 1, 1) := by decide +kernel
theorem dX6_set_35 : decode cX6_set 35 = .ok (.ireturn, 1) := by decide +kernel
set_option maxRecDepth 20000 in
theorem ggX6_load_X0_isKind : GoodIn wsX6_load wsX0_isKind := goodIn_r _ [7, 8, 9, 10, 11, 6, 12, 13, 76, 77, 78, 79, 80, 81, 82, 83, 84, 85, 86, 87, 88] (by decide +kernel) (by decide +kernel)
set_option maxRecDepth 20000 in
theorem gX6_load_X0_isKind : GoodIn wsX6_load (wsV RX6 105 RX0 yX0_isKind wsX0_isKind) := goodIn_app (goodIn_of _ (by decide +kernel)) ggX6_load_X0_isKind
set_option maxRecDepth 20000 in
theorem ggX6_load_X6_settleValues : GoodIn wsX6_load wsX6_settleValues := goodIn_r _ [18, 1, 2, 19, 20, 21, 22, 23, 24, 25, 26, 27, 28, 29, 30, 31, 32, 33, 34, 35, 36, 6, 37, 38, 39, 40, 41, 42, 43, 44, 45, 8, 46, 47, 48, 49, 50, 51, 52, 53, 54, 55, 56, 57, 58, 59, 60, 61, 62, 63, 64, 65, 66, 67, 68, 69, 70, 71, 72, 73, 74, 75, 76, 77, 78, 79, 80, 81, 82, 83, 84, 85, 86, 87, 88] (by decide +kernel) (by decide +kernel)
set_option maxRecDepth 20000 in
theorem gX6_load_X6_settleValues : GoodIn wsX6_load (wsV RX6 73 RX6 yX6_settleValues wsX6_settleValues) := goodIn_app (goodIn_of _ (by decide +kernel)) ggX6_load_X6_settleValues
theorem dX6_load_0 : decode cX6_load 0 = .ok (.aload_n 0, 1) := by decide +kernel
theorem dX6_load_1 : decode cX6_load 1 = .ok (.getfield 23, 3) := by decide +kernel
theorem dX6_load_4 : decode cX6_load 4 = .ok (.iload_n 1, 1) := by decide +kernel
theorem dX6_load_5 : decode cX6_load 5 = .ok (.iconst 3, 1) := by decide +kernel
theorem dX6_load_6 : decode cX6_load 6 = .ok (.invokevirtual 105, 3) := by decide +kernel
theorem dX6_load_9 : decode cX6_load 9 = .ok (.ifCond .eq 12, 3) := by decide +kernel
theorem dX6_load_12 : decode cX6_load 12 = .ok (.iload_n 2, 1) := by decide +kernel
theorem dX6_load_13 : decode cX6_load 13 = .ok (.ifCond .lt 8, 3) := by decide +kernel
theorem dX6_load_16 : decode cX6_load 16 = .ok (.iload_n 2, 1) := by decide +kernel
theorem dX6_load_17 : decode cX6_load 17 = .ok (.iconst 2, 1) := by decide +kernel
theorem dX6_load_18 : decode cX6_load 18 = .ok (.if_icmp .le 5, 3) := by decide +kernel
theorem dX6_load_21 : decode cX6_load 21 = .ok (.iconst 0, 1) := by decide +kernel
theorem dX6_load_22 : decode cX6_load 22 = .ok (.ireturn, 1) := by decide +kernel
theorem dX6_load_23 : decode cX6_load 23 = .ok (.aload_n 0, 1) := by decide +kernel
theorem dX6_load_24 : decode cX6_load 24 = .ok (.getfield 30, 3) := by decide +kernel
theorem dX6_load_27 : decode cX6_load 27 = .ok (.iload_n 1, 1) := by decide +kernel
theorem dX6_load_28 : decode cX6_load 28 = .ok (.iload_n 2, 1) := by decide +kernel
theorem dX6_load_29 : decode cX6_load 29 = .ok (.iastore, 1) := by decide +kernel
theorem dX6_load_30 : decode cX6_load 30 = .ok (.aload_n 0, 1) := by decide +kernel
theorem dX6_load_31 : decode cX6_load 31 = .ok (.invokevirtual 73, 3) := by decide +kernel
theorem dX6_load_34 : decode cX6_load 34 = .ok (.iconst 1, 1) := by decide +kernel
theorem dX6_load_35 : decode cX6_load 35 = .ok (.ireturn, 1) := by decide +kernel
set_option maxRecDepth 20000 in
theorem ggX6_value_X0_has : GoodIn wsX6_value wsX0_has := goodIn_r _ [7, 8, 21, 22, 23, 24, 25, 26, 27, 28, 29, 30, 31, 32, 33] (by decide +kernel) (by decide +kernel)
set_option maxRecDepth 20000 in
theorem gX6_value_X0_has : GoodIn wsX6_value (wsV RX6 88 RX0 yX0_has wsX0_has) := goodIn_app (goodIn_of _ (by decide +kernel)) ggX6_value_X0_has
theorem dX6_value_0 : decode cX6_value 0 = .ok (.aload_n 0, 1) := by decide +kernel
theorem dX6_value_1 : decode cX6_value 1 = .ok (.getfield 23, 3) := by decide +kernel
theorem dX6_value_4 : decode cX6_value 4 = .ok (.iload_n 1, 1) := by decide +kernel
theorem dX6_value_5 : decode cX6_value 5 = .ok (.invokevirtual 88, 3) := by decide +kernel
theorem dX6_value_8 : decode cX6_value 8 = .ok (.ifCond .eq 12, 3) := by decide +kernel
theorem dX6_value_11 : decode cX6_value 11 = .ok (.aload_n 0, 1) := by decide +kernel
theorem dX6_value_12 : decode cX6_value 12 = .ok (.getfield 30, 3) := by decide +kernel
theorem dX6_value_15 : decode cX6_value 15 = .ok (.iload_n 1, 1) := by decide +kernel
theorem dX6_value_16 : decode cX6_value 16 = .ok (.iaload, 1) := by decide +kernel
theorem dX6_value_17 : decode cX6_value 17 = .ok (.goto 4, 3) := by decide +kernel
theorem dX6_value_20 : decode cX6_value 20 = .ok (.iconst (-1), 1) := by decide +kernel
theorem dX6_value_21 : decode cX6_value 21 = .ok (.ireturn, 1) := by decide +kernel
set_option maxRecDepth 20000 in
theorem ggX6_tick_X2_afterTick : GoodIn wsX6_tick wsX2_afterTick := goodIn_r _ [9, 10, 11, 12, 13, 14, 15, 16, 17, 8, 18, 19, 20, 21, 22, 23, 24, 73, 74, 75, 76, 77, 78, 79, 80, 81, 82, 83, 84, 85] (by decide +kernel) (by decide +kernel)
set_option maxRecDepth 20000 in
theorem gX6_tick_X2_afterTick : GoodIn wsX6_tick (va_wsS RX6 109 yX2_afterTick wsX2_afterTick) := goodIn_app (goodIn_of _ (by decide +kernel)) ggX6_tick_X2_afterTick
set_option maxRecDepth 20000 in
theorem ggX6_tick_X6_settleValues : GoodIn wsX6_tick wsX6_settleValues := goodIn_r _ [29, 1, 5, 30, 31, 32, 8, 33, 34, 35, 36, 37, 38, 39, 40, 41, 42, 43, 10, 11, 12, 13, 14, 15, 16, 17, 18, 19, 20, 21, 22, 23, 24, 44, 45, 46, 47, 48, 49, 50, 51, 52, 53, 54, 55, 56, 57, 58, 59, 60, 61, 62, 63, 64, 65, 66, 67, 68, 69, 70, 71, 72, 73, 74, 75, 76, 77, 78, 79, 80, 81, 82, 83, 84, 85] (by decide +kernel) (by decide +kernel)
set_option maxRecDepth 20000 in
theorem gX6_tick_X6_settleValues : GoodIn wsX6_tick (wsV RX6 73 RX6 yX6_settleValues wsX6_settleValues) := goodIn_app (goodIn_of _ (by decide +kernel)) ggX6_tick_X6_settleValues
theorem dX6_tick_0 : decode cX6_tick 0 = .ok (.iconst 0, 1) := by decide +kernel
theorem dX6_tick_1 : decode cX6_tick 1 = .ok (.istore_n 1, 1) := by decide +kernel
theorem dX6_tick_2 : decode cX6_tick 2 = .ok (.iload_n 1, 1) := by decide +kernel
theorem dX6_tick_3 : decode cX6_tick 3 = .ok (.aload_n 0, 1) := by decide +kernel
theorem dX6_tick_4 : decode cX6_tick 4 = .ok (.getfield 23, 3) := by decide +kernel
theorem dX6_tick_7 : decode cX6_tick 7 = .ok (.getfield 66, 3) := by decide +kernel
theorem dX6_tick_10 : decode cX6_tick 10 = .ok (.if_icmp .ge 49, 3) := by decide +kernel
theorem dX6_tick_13 : decode cX6_tick 13 = .ok (.aload_n 0, 1) := by decide +kernel
theorem dX6_tick_14 : decode cX6_tick 14 = .ok (.getfield 34, 3) := by decide +kernel
theorem dX6_tick_17 : decode cX6_tick 17 = .ok (.iload_n 1, 1) := by decide +kernel
theorem dX6_tick_18 : decode cX6_tick 18 = .ok (.aload_n 0, 1) := by decide +kernel
theorem dX6_tick_19 : decode cX6_tick 19 = .ok (.getfield 23, 3) := by decide +kernel
theorem dX6_tick_22 : decode cX6_tick 22 = .ok (.getfield 92, 3) := by decide +kernel
theorem dX6_tick_25 : decode cX6_tick 25 = .ok (.iload_n 1, 1) := by decide +kernel
theorem dX6_tick_26 : decode cX6_tick 26 = .ok (.iaload, 1) := by decide +kernel
theorem dX6_tick_27 : decode cX6_tick 27 = .ok (.iconst 3, 1) := by decide +kernel
theorem dX6_tick_28 : decode cX6_tick 28 = .ok (.if_icmp .ne 18, 3) := by decide +kernel
theorem dX6_tick_31 : decode cX6_tick 31 = .ok (.aload_n 0, 1) := by decide +kernel
theorem dX6_tick_32 : decode cX6_tick 32 = .ok (.getfield 23, 3) := by decide +kernel
theorem dX6_tick_35 : decode cX6_tick 35 = .ok (.iload_n 1, 1) := by decide +kernel
theorem dX6_tick_36 : decode cX6_tick 36 = .ok (.aload_n 0, 1) := by decide +kernel
theorem dX6_tick_37 : decode cX6_tick 37 = .ok (.getfield 30, 3) := by decide +kernel
theorem dX6_tick_40 : decode cX6_tick 40 = .ok (.invokestatic 109, 3) := by decide +kernel
theorem dX6_tick_43 : decode cX6_tick 43 = .ok (.goto 9, 3) := by decide +kernel
theorem dX6_tick_46 : decode cX6_tick 46 = .ok (.aload_n 0, 1) := by decide +kernel
theorem dX6_tick_47 : decode cX6_tick 47 = .ok (.getfield 30, 3) := by decide +kernel
theorem dX6_tick_50 : decode cX6_tick 50 = .ok (.iload_n 1, 1) := by decide +kernel
theorem dX6_tick_51 : decode cX6_tick 51 = .ok (.iaload, 1) := by decide +kernel
theorem dX6_tick_52 : decode cX6_tick 52 = .ok (.iastore, 1) := by decide +kernel
theorem dX6_tick_53 : decode cX6_tick 53 = .ok (.iinc 1 1, 3) := by decide +kernel
theorem dX6_tick_56 : decode cX6_tick 56 = .ok (.goto (-54), 3) := by decide +kernel
theorem dX6_tick_59 : decode cX6_tick 59 = .ok (.iconst 0, 1) := by decide +kernel
theorem dX6_tick_60 : decode cX6_tick 60 = .ok (.istore_n 1, 1) := by decide +kernel
theorem dX6_tick_61 : decode cX6_tick 61 = .ok (.iconst 0, 1) := by decide +kernel
theorem dX6_tick_62 : decode cX6_tick 62 = .ok (.istore_n 2, 1) := by decide +kernel
theorem dX6_tick_63 : decode cX6_tick 63 = .ok (.iload_n 2, 1) := by decide +kernel
theorem dX6_tick_64 : decode cX6_tick 64 = .ok (.aload_n 0, 1) := by decide +kernel
theorem dX6_tick_65 : decode cX6_tick 65 = .ok (.getfield 23, 3) := by decide +kernel
theorem dX6_tick_68 : decode cX6_tick 68 = .ok (.getfield 66, 3) := by decide +kernel
theorem dX6_tick_71 : decode cX6_tick 71 = .ok (.if_icmp .ge 39, 3) := by decide +kernel
theorem dX6_tick_74 : decode cX6_tick 74 = .ok (.aload_n 0, 1) := by decide +kernel
theorem dX6_tick_75 : decode cX6_tick 75 = .ok (.getfield 34, 3) := by decide +kernel
theorem dX6_tick_78 : decode cX6_tick 78 = .ok (.iload_n 2, 1) := by decide +kernel
theorem dX6_tick_79 : decode cX6_tick 79 = .ok (.iaload, 1) := by decide +kernel
theorem dX6_tick_80 : decode cX6_tick 80 = .ok (.aload_n 0, 1) := by decide +kernel
theorem dX6_tick_81 : decode cX6_tick 81 = .ok (.getfield 30, 3) := by decide +kernel
theorem dX6_tick_84 : decode cX6_tick 84 = .ok (.iload_n 2, 1) := by decide +kernel
theorem dX6_tick_85 : decode cX6_tick 85 = .ok (.iaload, 1) := by decide +kernel
theorem dX6_tick_86 : decode cX6_tick 86 = .ok (.if_icmp .eq 18, 3) := by decide +kernel
theorem dX6_tick_89 : decode cX6_tick 89 = .ok (.iinc 1 1, 3) := by decide +kernel
theorem dX6_tick_92 : decode cX6_tick 92 = .ok (.aload_n 0, 1) := by decide +kernel
theorem dX6_tick_93 : decode cX6_tick 93 = .ok (.getfield 30, 3) := by decide +kernel
theorem dX6_tick_96 : decode cX6_tick 96 = .ok (.iload_n 2, 1) := by decide +kernel
theorem dX6_tick_97 : decode cX6_tick 97 = .ok (.aload_n 0, 1) := by decide +kernel
theorem dX6_tick_98 : decode cX6_tick 98 = .ok (.getfield 34, 3) := by decide +kernel
theorem dX6_tick_101 : decode cX6_tick 101 = .ok (.iload_n 2, 1) := by decide +kernel
theorem dX6_tick_102 : decode cX6_tick 102 = .ok (.iaload, 1) := by decide +kernel
theorem dX6_tick_103 : decode cX6_tick 103 = .ok (.iastore, 1) := by decide +kernel
theorem dX6_tick_104 : decode cX6_tick 104 = .ok (.iinc 2 1, 3) := by decide +kernel
theorem dX6_tick_107 : decode cX6_tick 107 = .ok (.goto (-44), 3) := by decide +kernel
theorem dX6_tick_110 : decode cX6_tick 110 = .ok (.aload_n 0, 1) := by decide +kernel
theorem dX6_tick_111 : decode cX6_tick 111 = .ok (.invokevirtual 73, 3) := by decide +kernel
theorem dX6_tick_114 : decode cX6_tick 114 = .ok (.iload_n 1, 1) := by decide +kernel
theorem dX6_tick_115 : decode cX6_tick 115 = .ok (.ireturn, 1) := by decide +kernel
set_option maxRecDepth 20000 in
theorem ggX6_worlds_X6_countFree : GoodIn wsX6_worlds wsX6_countFree := goodIn_r _ [5, 6, 7, 8, 9, 10, 11, 12, 13, 14, 15, 16, 17, 18, 19, 20, 21, 22, 23, 24, 25, 26, 27, 28, 29, 30, 31, 32, 33, 34, 35, 36, 37, 38, 39, 40, 41, 42, 43, 44, 45, 46, 47, 48] (by decide +kernel) (by decide +kernel)
set_option maxRecDepth 20000 in
theorem gX6_worlds_X6_countFree : GoodIn wsX6_worlds (wsV RX6 115 RX6 yX6_countFree wsX6_countFree) := goodIn_app (goodIn_of _ (by decide +kernel)) ggX6_worlds_X6_countFree
theorem dX6_worlds_0 : decode cX6_worlds 0 = .ok (.aload_n 0, 1) := by decide +kernel
theorem dX6_worlds_1 : decode cX6_worlds 1 = .ok (.invokevirtual 115, 3) := by decide +kernel
theorem dX6_worlds_4 : decode cX6_worlds 4 = .ok (.istore_n 1, 1) := by decide +kernel
theorem dX6_worlds_5 : decode cX6_worlds 5 = .ok (.iload_n 1, 1) := by decide +kernel
theorem dX6_worlds_6 : decode cX6_worlds 6 = .ok (.bipush 12, 2) := by decide +kernel
theorem dX6_worlds_8 : decode cX6_worlds 8 = .ok (.if_icmp .le 8, 3) := by decide +kernel
theorem dX6_worlds_11 : decode cX6_worlds 11 = .ok (.bipush (-2), 2) := by decide +kernel
theorem dX6_worlds_13 : decode cX6_worlds 13 = .ok (.goto 6, 3) := by decide +kernel
theorem dX6_worlds_16 : decode cX6_worlds 16 = .ok (.iconst 1, 1) := by decide +kernel
theorem dX6_worlds_17 : decode cX6_worlds 17 = .ok (.iload_n 1, 1) := by decide +kernel
theorem dX6_worlds_18 : decode cX6_worlds 18 = .ok (.ishl, 1) := by decide +kernel
theorem dX6_worlds_19 : decode cX6_worlds 19 = .ok (.ireturn, 1) := by decide +kernel
set_option maxRecDepth 20000 in
theorem ggX6_legal_X6_goThroughWorlds : GoodIn wsX6_legal wsX6_goThroughWorlds := goodIn_r _ [7, 8, 1, 9, 10, 11, 12, 13, 6, 14, 15, 16, 17, 18, 19, 20, 21, 22, 23, 24, 25, 26, 27, 28, 29, 30, 31, 32, 33, 34, 35, 36, 37, 38, 39, 40, 41, 42, 43, 44, 45, 46, 47, 48, 49, 50, 51, 52, 53, 54, 55, 56, 57, 58, 59, 60, 61, 62, 63, 64, 65, 66, 67, 68, 69, 70, 71, 72, 73, 74, 75, 76, 77, 78, 79, 80, 81, 82, 83, 84, 85, 86, 87, 88, 89, 90, 91, 92, 93, 94, 95, 96, 97, 98, 99, 100, 101, 102, 103, 104, 105, 106, 107, 108, 109, 110, 111, 117, 118, 119, 120, 121, 122, 123, 124, 125, 126, 127, 128, 129, 112, 113, 114, 115, 116] (by decide +kernel) (by decide +kernel)
set_option maxRecDepth 20000 in
theorem gX6_legal_X6_goThroughWorlds : GoodIn wsX6_legal (wsV RX6 119 RX6 yX6_goThroughWorlds wsX6_goThroughWorlds) := goodIn_app (goodIn_of _ (by decide +kernel)) ggX6_legal_X6_goThroughWorlds
theorem dX6_legal_0 : decode cX6_legal 0 = .ok (.aload_n 0, 1) := by decide +kernel
theorem dX6_legal_1 : decode cX6_legal 1 = .ok (.invokevirtual 119, 3) := by decide +kernel
theorem dX6_legal_4 : decode cX6_legal 4 = .ok (.ifCond .eq 13, 3) := by decide +kernel
theorem dX6_legal_7 : decode cX6_legal 7 = .ok (.aload_n 0, 1) := by decide +kernel
theorem dX6_legal_8 : decode cX6_legal 8 = .ok (.getfield 43, 3) := by decide +kernel
theorem dX6_legal_11 : decode cX6_legal 11 = .ok (.getfield 123, 3) := by decide +kernel
theorem dX6_legal_14 : decode cX6_legal 14 = .ok (.goto 5, 3) := by decide +kernel
theorem dX6_legal_17 : decode cX6_legal 17 = .ok (.bipush (-2), 2) := by decide +kernel
theorem dX6_legal_19 : decode cX6_legal 19 = .ok (.ireturn, 1) := by decide +kernel
set_option maxRecDepth 20000 in
theorem ggX6_sharp_X6_goThroughWorlds : GoodIn wsX6_sharp wsX6_goThroughWorlds := goodIn_r _ [7, 8, 2, 1, 9, 10, 11, 12, 6, 13, 14, 15, 16, 17, 18, 19, 20, 21, 22, 23, 24, 25, 26, 27, 28, 29, 30, 31, 32, 33, 34, 35, 36, 37, 38, 39, 40, 41, 42, 43, 44, 45, 46, 47, 48, 49, 50, 51, 52, 53, 54, 55, 56, 57, 58, 59, 60, 61, 62, 63, 64, 65, 66, 67, 68, 69, 70, 71, 72, 73, 74, 75, 76, 77, 78, 79, 80, 81, 82, 83, 84, 85, 86, 87, 88, 89, 90, 91, 92, 93, 94, 95, 96, 97, 98, 108, 109, 110, 111, 112, 113, 114, 115, 116, 117, 118, 119, 120, 121, 122, 123, 124, 125, 126, 127, 128, 129, 130, 131, 132, 133, 134, 135, 136, 137] (by decide +kernel) (by decide +kernel)
set_option maxRecDepth 20000 in
theorem gX6_sharp_X6_goThroughWorlds : GoodIn wsX6_sharp (wsV RX6 119 RX6 yX6_goThroughWorlds wsX6_goThroughWorlds) := goodIn_app (goodIn_of _ (by decide +kernel)) ggX6_sharp_X6_goThroughWorlds
set_option maxRecDepth 20000 in
theorem ggX6_sharp_X0_has : GoodIn wsX6_sharp wsX0_has := goodIn_r _ [28, 29, 120, 121, 122, 123, 124, 125, 126, 127, 128, 129, 130, 131, 132] (by decide +kernel) (by decide +kernel)
set_option maxRecDepth 20000 in
theorem gX6_sharp_X0_has : GoodIn wsX6_sharp (wsV RX6 88 RX0 yX0_has wsX0_has) := goodIn_app (goodIn_of _ (by decide +kernel)) ggX6_sharp_X0_has
set_option maxRecDepth 20000 in
theorem ggX6_sharp_X5_sharpValue : GoodIn wsX6_sharp wsX5_sharpValue := goodIn_r _ [103, 35, 104, 105, 106, 33, 107, 36, 37, 133, 134, 135, 136, 137] (by decide +kernel) (by decide +kernel)
set_option maxRecDepth 20000 in
theorem gX6_sharp_X5_sharpValue : GoodIn wsX6_sharp (wsV RX6 126 RX5 yX5_sharpValue wsX5_sharpValue) := goodIn_app (goodIn_of _ (by decide +kernel)) ggX6_sharp_X5_sharpValue
theorem dX6_sharp_0 : decode cX6_sharp 0 = .ok (.aload_n 0, 1) := by decide +kernel
theorem dX6_sharp_1 : decode cX6_sharp 1 = .ok (.invokevirtual 119, 3) := by decide +kernel
theorem dX6_sharp_4 : decode cX6_sharp 4 = .ok (.ifCond .ne 6, 3) := by decide +kernel
theorem dX6_sharp_7 : decode cX6_sharp 7 = .ok (.bipush (-2), 2) := by decide +kernel
theorem dX6_sharp_9 : decode cX6_sharp 9 = .ok (.ireturn, 1) := by decide +kernel
theorem dX6_sharp_10 : decode cX6_sharp 10 = .ok (.aload_n 0, 1) := by decide +kernel
theorem dX6_sharp_11 : decode cX6_sharp 11 = .ok (.getfield 23, 3) := by decide +kernel
theorem dX6_sharp_14 : decode cX6_sharp 14 = .ok (.iload_n 1, 1) := by decide +kernel
theorem dX6_sharp_15 : decode cX6_sharp 15 = .ok (.invokevirtual 88, 3) := by decide +kernel
theorem dX6_sharp_18 : decode cX6_sharp 18 = .ok (.ifCond .eq 14, 3) := by decide +kernel
theorem dX6_sharp_21 : decode cX6_sharp 21 = .ok (.aload_n 0, 1) := by decide +kernel
theorem dX6_sharp_22 : decode cX6_sharp 22 = .ok (.getfield 43, 3) := by decide +kernel
theorem dX6_sharp_25 : decode cX6_sharp 25 = .ok (.iload_n 1, 1) := by decide +kernel
theorem dX6_sharp_26 : decode cX6_sharp 26 = .ok (.invokevirtual 126, 3) := by decide +kernel
theorem dX6_sharp_29 : decode cX6_sharp 29 = .ok (.goto 4, 3) := by decide +kernel
theorem dX6_sharp_32 : decode cX6_sharp 32 = .ok (.iconst (-1), 1) := by decide +kernel
theorem dX6_sharp_33 : decode cX6_sharp 33 = .ok (.ireturn, 1) := by decide +kernel
