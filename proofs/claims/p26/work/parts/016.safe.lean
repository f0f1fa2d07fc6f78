set_option maxRecDepth 20000 in
theorem ggX2_addToFlow_X4_indexOf : GoodIn wsX2_addToFlow wsX4_indexOf := (goodIn_ca (goodIn_ca (goodIn_r _ [10, 11, 12, 13] rfl (by decide +kernel)) (goodIn_sub (fun _ h => List.mem_cons_of_mem _ (List.mem_append_left _ (List.mem_append_left _ (List.mem_append_left _ (List.mem_append_left _ (List.mem_append_left _ (List.mem_append_left _ (List.mem_append_right _ h)))))))) gw_wsX40)) (goodIn_sub (fun _ h => List.mem_cons_of_mem _ (List.mem_append_left _ (List.mem_append_left _ (List.mem_append_left _ (List.mem_append_left _ (List.mem_append_left _ (List.mem_append_left _ (List.mem_append_left _ (List.mem_append_right _ h))))))))) gw_wsX30))
set_option maxRecDepth 20000 in
theorem gX2_addToFlow_X4_indexOf : GoodIn wsX2_addToFlow (wsV RX2 87 RX4 yX4_indexOf wsX4_indexOf) := goodIn_app (goodIn_m (mem_cA (List.mem_cons_of_mem _ (List.mem_append_left _ (List.mem_append_left _ (List.mem_append_left _ (List.mem_append_left _ (List.mem_append_left _ (List.mem_append_left _ (List.mem_append_left _ (List.mem_append_left _ (List.mem_append_left _ (List.mem_append_left _ (List.mem_of_getElem? (i := 5) rfl)))))))))))) (mem_cA (List.mem_cons_of_mem _ (List.mem_append_left _ (List.mem_append_left _ (List.mem_append_left _ (List.mem_append_left _ (List.mem_append_left _ (List.mem_append_left _ (List.mem_append_left _ (List.mem_append_left _ (List.mem_append_left _ (List.mem_append_left _ (List.mem_of_getElem? (i := 6) rfl)))))))))))) (mem_cA (List.mem_cons_of_mem _ (List.mem_append_left _ (List.mem_append_left _ (List.mem_append_left _ (List.mem_append_left _ (List.mem_append_left _ (List.mem_append_left _ (List.mem_append_left _ (List.mem_append_left _ (List.mem_append_left _ (List.mem_append_left _ (List.mem_of_getElem? (i := 7) rfl)))))))))))) (mem_cA (List.mem_cons_of_mem _ (List.mem_append_left _ (List.mem_append_left _ (List.mem_append_left _ (List.mem_append_left _ (List.mem_append_left _ (List.mem_append_left _ (List.mem_append_left _ (List.mem_append_left _ (List.mem_append_left _ (List.mem_append_left _ (List.mem_of_getElem? (i := 8) rfl)))))))))))) mem_cZ)))) (by decide +kernel)) ggX2_addToFlow_X4_indexOf
set_option maxRecDepth 20000 in
theorem ggX2_addToFlow_X4_isFull : GoodIn wsX2_addToFlow wsX4_isFull := (goodIn_ca (goodIn_r _ [17, 11, 12] rfl (by decide +kernel)) (goodIn_sub (fun _ h => List.mem_cons_of_mem _ (List.mem_append_left _ (List.mem_append_left _ (List.mem_append_left _ (List.mem_append_left _ (List.mem_append_left _ (List.mem_append_left _ (List.mem_append_right _ h)))))))) gw_wsX40))
set_option maxRecDepth 20000 in
theorem gX2_addToFlow_X4_isFull : GoodIn wsX2_addToFlow (wsV RX2 91 RX4 yX4_isFull wsX4_isFull) := goodIn_app (goodIn_m (mem_cA (List.mem_cons_of_mem _ (List.mem_append_left _ (List.mem_append_left _ (List.mem_append_left _ (List.mem_append_left _ (List.mem_append_left _ (List.mem_append_left _ (List.mem_append_left _ (List.mem_append_left _ (List.mem_append_left _ (List.mem_append_left _ (List.mem_of_getElem? (i := 13) rfl)))))))))))) (mem_cA (List.mem_cons_of_mem _ (List.mem_append_left _ (List.mem_append_left _ (List.mem_append_left _ (List.mem_append_left _ (List.mem_append_left _ (List.mem_append_left _ (List.mem_append_left _ (List.mem_append_left _ (List.mem_append_left _ (List.mem_append_left _ (List.mem_of_getElem? (i := 14) rfl)))))))))))) (mem_cA (List.mem_cons_of_mem _ (List.mem_append_left _ (List.mem_append_left _ (List.mem_append_left _ (List.mem_append_left _ (List.mem_append_left _ (List.mem_append_left _ (List.mem_append_left _ (List.mem_append_left _ (List.mem_append_left _ (List.mem_append_left _ (List.mem_of_getElem? (i := 15) rfl)))))))))))) (mem_cA (List.mem_cons_of_mem _ (List.mem_append_left _ (List.mem_append_left _ (List.mem_append_left _ (List.mem_append_left _ (List.mem_append_left _ (List.mem_append_left _ (List.mem_append_left _ (List.mem_append_left _ (List.mem_append_left _ (List.mem_append_left _ (List.mem_of_getElem? (i := 8) rfl)))))))))))) mem_cZ)))) (by decide +kernel)) ggX2_addToFlow_X4_isFull
set_option maxRecDepth 20000 in
theorem ggX2_addToFlow_X4_indexOfEarliestLast : GoodIn wsX2_addToFlow wsX4_indexOfEarliestLast := (goodIn_ca (goodIn_ca (goodIn_r _ [21, 11, 12, 22] rfl (by decide +kernel)) (goodIn_sub (fun _ h => List.mem_cons_of_mem _ (List.mem_append_left _ (List.mem_append_left _ (List.mem_append_left _ (List.mem_append_left _ (List.mem_append_left _ (List.mem_append_left _ (List.mem_append_right _ h)))))))) gw_wsX40)) (goodIn_sub (fun _ h => List.mem_cons_of_mem _ (List.mem_append_left _ (List.mem_append_left _ (List.mem_append_left _ (List.mem_append_left _ (List.mem_append_left _ (List.mem_append_left _ (List.mem_append_left _ (List.mem_append_right _ h))))))))) gw_wsX30))
set_option maxRecDepth 20000 in
theorem gX2_addToFlow_X4_indexOfEarliestLast : GoodIn wsX2_addToFlow (wsV RX2 116 RX4 yX4_indexOfEarliestLast wsX4_indexOfEarliestLast) := goodIn_app (goodIn_m (mem_cA (List.mem_cons_of_mem _ (List.mem_append_left _ (List.mem_append_left _ (List.mem_append_left _ (List.mem_append_left _ (List.mem_append_left _ (List.mem_append_left _ (List.mem_append_left _ (List.mem_append_left _ (List.mem_append_left _ (List.mem_append_left _ (List.mem_of_getElem? (i := 17) rfl)))))))))))) (mem_cA (List.mem_cons_of_mem _ (List.mem_append_left _ (List.mem_append_left _ (List.mem_append_left _ (List.mem_append_left _ (List.mem_append_left _ (List.mem_append_left _ (List.mem_append_left _ (List.mem_append_left _ (List.mem_append_left _ (List.mem_append_left _ (List.mem_of_getElem? (i := 18) rfl)))))))))))) (mem_cA (List.mem_cons_of_mem _ (List.mem_append_left _ (List.mem_append_left _ (List.mem_append_left _ (List.mem_append_left _ (List.mem_append_left _ (List.mem_append_left _ (List.mem_append_left _ (List.mem_append_left _ (List.mem_append_left _ (List.mem_append_left _ (List.mem_of_getElem? (i := 19) rfl)))))))))))) (mem_cA (List.mem_cons_of_mem _ (List.mem_append_left _ (List.mem_append_left _ (List.mem_append_left _ (List.mem_append_left _ (List.mem_append_left _ (List.mem_append_left _ (List.mem_append_left _ (List.mem_append_left _ (List.mem_append_left _ (List.mem_append_left _ (List.mem_of_getElem? (i := 8) rfl)))))))))))) mem_cZ)))) (by decide +kernel)) ggX2_addToFlow_X4_indexOfEarliestLast
set_option maxRecDepth 20000 in
theorem ggX2_addToFlow_X2_exportAt : GoodIn wsX2_addToFlow wsX2_exportAt := goodIn_ca (goodIn_ca ((goodIn_ca (goodIn_ca (goodIn_ca (goodIn_ca (goodIn_ca (goodIn_ca (goodIn_ca (goodIn_r _ [27, 1, 28, 29, 30, 31, 32, 33, 34, 35, 36, 37, 9, 38, 11, 12, 39, 40, 41, 42, 43, 44, 45, 46, 47, 48, 49, 50, 51, 52, 53, 54, 55, 56, 57, 58, 59, 60, 61, 26, 62, 63, 64, 65, 66, 67, 68, 69, 70, 71, 72, 73, 74, 75, 76, 77, 78, 79, 80, 81, 82, 83, 84, 85, 86, 87, 88, 89, 90, 91, 92, 93, 94, 95, 96, 97, 98, 99, 100, 101, 102, 103] rfl (by decide +kernel)) (goodIn_sub (fun _ h => List.mem_cons_of_mem _ (List.mem_append_left _ (List.mem_append_left _ (List.mem_append_left _ (List.mem_append_left _ (List.mem_append_left _ (List.mem_append_left _ (List.mem_append_left _ (List.mem_append_left _ (List.mem_append_right _ h)))))))))) gw_wsX20)) (goodIn_sub (fun _ h => List.mem_cons_of_mem _ (List.mem_append_left _ (List.mem_append_left _ (List.mem_append_left _ (List.mem_append_left _ (List.mem_append_left _ (List.mem_append_left _ (List.mem_append_left _ (List.mem_append_right _ h))))))))) gw_wsX30)) (goodIn_sub (fun _ h => List.mem_cons_of_mem _ (List.mem_append_left _ (List.mem_append_left _ (List.mem_append_left _ (List.mem_append_left _ (List.mem_append_left _ (List.mem_append_right _ h))))))) gw_wsX100)) (goodIn_sub (fun _ h => List.mem_cons_of_mem _ (List.mem_append_left _ (List.mem_append_left _ (List.mem_append_left _ (List.mem_append_left _ (List.mem_append_left _ (List.mem_append_left _ (List.mem_append_right _ h)))))))) gw_wsX40)) (goodIn_sub (fun _ h => List.mem_cons_of_mem _ (List.mem_append_left _ (List.mem_append_left _ (List.mem_append_left _ (List.mem_append_left _ (List.mem_append_right _ h)))))) gw_wsX10)) (goodIn_sub (fun _ h => List.mem_cons_of_mem _ (List.mem_append_left _ (List.mem_append_left _ (List.mem_append_left _ (List.mem_append_right _ h))))) gw_wsX80)) (goodIn_sub (fun _ h => List.mem_cons_of_mem _ (List.mem_append_left _ (List.mem_append_left _ (List.mem_append_right _ h)))) gw_wsX50))) (goodIn_sub (fun _ h => List.mem_cons_of_mem _ (List.mem_append_left _ (List.mem_append_right _ h))) (all_fg _))) (goodIn_sub (fun _ h => List.mem_cons_of_mem _ (List.mem_append_right _ h)) (all_fg _))
set_option maxRecDepth 20000 in
theorem gX2_addToFlow_X2_exportAt : GoodIn wsX2_addToFlow (wsV RX2 120 RX2 yX2_exportAt wsX2_exportAt) := goodIn_app (goodIn_m (mem_cA (List.mem_cons_of_mem _ (List.mem_append_left _ (List.mem_append_left _ (List.mem_append_left _ (List.mem_append_left _ (List.mem_append_left _ (List.mem_append_left _ (List.mem_append_left _ (List.mem_append_left _ (List.mem_append_left _ (List.mem_append_left _ (List.mem_of_getElem? (i := 22) rfl)))))))))))) (mem_cA (List.mem_cons_of_mem _ (List.mem_append_left _ (List.mem_append_left _ (List.mem_append_left _ (List.mem_append_left _ (List.mem_append_left _ (List.mem_append_left _ (List.mem_append_left _ (List.mem_append_left _ (List.mem_append_left _ (List.mem_append_left _ (List.mem_of_getElem? (i := 23) rfl)))))))))))) (mem_cA (List.mem_cons_of_mem _ (List.mem_append_left _ (List.mem_append_left _ (List.mem_append_left _ (List.mem_append_left _ (List.mem_append_left _ (List.mem_append_left _ (List.mem_append_left _ (List.mem_append_left _ (List.mem_append_left _ (List.mem_append_right _ (List.mem_append_left _ (List.mem_of_getElem? (i := 0) rfl))))))))))))) (mem_cA (List.mem_cons_of_mem _ (List.mem_append_left _ (List.mem_append_left _ (List.mem_append_left _ (List.mem_append_left _ (List.mem_append_left _ (List.mem_append_left _ (List.mem_append_left _ (List.mem_append_left _ (List.mem_append_left _ (List.mem_append_right _ (List.mem_append_left _ (List.mem_of_getElem? (i := 1) rfl))))))))))))) mem_cZ)))) (by decide +kernel)) ggX2_addToFlow_X2_exportAt
set_option maxRecDepth 20000 in
theorem ggX2_addToFlow_X4_addFlow : GoodIn wsX2_addToFlow wsX4_addFlow := (goodIn_ca (goodIn_ca (goodIn_r _ [107, 11, 12, 108, 109, 110, 111, 39, 40, 41, 9, 42, 112, 113, 114, 45, 115, 91, 87, 88, 89, 90] rfl (by decide +kernel)) (goodIn_sub (fun _ h => List.mem_cons_of_mem _ (List.mem_append_left _ (List.mem_append_left _ (List.mem_append_left _ (List.mem_append_left _ (List.mem_append_left _ (List.mem_append_left _ (List.mem_append_right _ h)))))))) gw_wsX40)) (goodIn_sub (fun _ h => List.mem_cons_of_mem _ (List.mem_append_left _ (List.mem_append_left _ (List.mem_append_left _ (List.mem_append_left _ (List.mem_append_left _ (List.mem_append_left _ (List.mem_append_left _ (List.mem_append_right _ h))))))))) gw_wsX30))
set_option maxRecDepth 20000 in
theorem gX2_addToFlow_X4_addFlow : GoodIn wsX2_addToFlow (wsV RX2 94 RX4 yX4_addFlow wsX4_addFlow) := goodIn_app (goodIn_m (mem_cA (List.mem_cons_of_mem _ (List.mem_append_left _ (List.mem_append_left _ (List.mem_append_left _ (List.mem_append_left _ (List.mem_append_left _ (List.mem_append_left _ (List.mem_append_left _ (List.mem_append_left _ (List.mem_append_left _ (List.mem_append_right _ (List.mem_append_right _ (List.mem_append_right _ (List.mem_append_right _ (List.mem_of_getElem? (i := 7) rfl))))))))))))))) (mem_cA (List.mem_cons_of_mem _ (List.mem_append_left _ (List.mem_append_left _ (List.mem_append_left _ (List.mem_append_left _ (List.mem_append_left _ (List.mem_append_left _ (List.mem_append_left _ (List.mem_append_left _ (List.mem_append_left _ (List.mem_append_right _ (List.mem_append_right _ (List.mem_append_right _ (List.mem_append_right _ (List.mem_of_getElem? (i := 8) rfl))))))))))))))) (mem_cA (List.mem_cons_of_mem _ (List.mem_append_left _ (List.mem_append_left _ (List.mem_append_left _ (List.mem_append_left _ (List.mem_append_left _ (List.mem_append_left _ (List.mem_append_left _ (List.mem_append_left _ (List.mem_append_left _ (List.mem_append_right _ (List.mem_append_right _ (List.mem_append_right _ (List.mem_append_right _ (List.mem_of_getElem? (i := 9) rfl))))))))))))))) (mem_cA (List.mem_cons_of_mem _ (List.mem_append_left _ (List.mem_append_left _ (List.mem_append_left _ (List.mem_append_left _ (List.mem_append_left _ (List.mem_append_left _ (List.mem_append_left _ (List.mem_append_left _ (List.mem_append_left _ (List.mem_append_left _ (List.mem_of_getElem? (i := 8) rfl)))))))))))) mem_cZ)))) (by decide +kernel)) ggX2_addToFlow_X4_addFlow
set_option maxRecDepth 20000 in
theorem ggX2_addToFlow_X4_flowAt : GoodIn wsX2_addToFlow wsX4_flowAt := (goodIn_ca (goodIn_r _ [42, 12] rfl (by decide +kernel)) (goodIn_sub (fun _ h => List.mem_cons_of_mem _ (List.mem_append_left _ (List.mem_append_left _ (List.mem_append_left _ (List.mem_append_left _ (List.mem_append_left _ (List.mem_append_left _ (List.mem_append_right _ h)))))))) gw_wsX40))
set_option maxRecDepth 20000 in
theorem gX2_addToFlow_X4_flowAt : GoodIn wsX2_addToFlow (wsV RX2 98 RX4 yX4_flowAt wsX4_flowAt) := goodIn_app (goodIn_m (mem_cA (List.mem_cons_of_mem _ (List.mem_append_left _ (List.mem_append_left _ (List.mem_append_left _ (List.mem_append_left _ (List.mem_append_left _ (List.mem_append_left _ (List.mem_append_left _ (List.mem_append_left _ (List.mem_append_left _ (List.mem_append_right _ (List.mem_append_right _ (List.mem_append_right _ (List.mem_append_right _ (List.mem_of_getElem? (i := 19) rfl))))))))))))))) (mem_cA (List.mem_cons_of_mem _ (List.mem_append_left _ (List.mem_append_left _ (List.mem_append_left _ (List.mem_append_left _ (List.mem_append_left _ (List.mem_append_left _ (List.mem_append_left _ (List.mem_append_left _ (List.mem_append_left _ (List.mem_append_right _ (List.mem_append_left _ (List.mem_of_getElem? (i := 15) rfl))))))))))))) (mem_cA (List.mem_cons_of_mem _ (List.mem_append_left _ (List.mem_append_left _ (List.mem_append_left _ (List.mem_append_left _ (List.mem_append_left _ (List.mem_append_left _ (List.mem_append_left _ (List.mem_append_left _ (List.mem_append_left _ (List.mem_append_right _ (List.mem_append_left _ (List.mem_of_getElem? (i := 16) rfl))))))))))))) (mem_cA (List.mem_cons_of_mem _ (List.mem_append_left _ (List.mem_append_left _ (List.mem_append_left _ (List.mem_append_left _ (List.mem_append_left _ (List.mem_append_left _ (List.mem_append_left _ (List.mem_append_left _ (List.mem_append_left _ (List.mem_append_left _ (List.mem_of_getElem? (i := 8) rfl)))))))))))) mem_cZ)))) (by decide +kernel)) ggX2_addToFlow_X4_flowAt
theorem dX2_addToFlow_0 : decode cX2_addToFlow 0 = .ok (.aload_n 0, 1) := by decide +kernel
theorem dX2_addToFlow_1 : decode cX2_addToFlow 1 = .ok (.getfield 14, 3) := by decide +kernel
theorem dX2_addToFlow_4 : decode cX2_addToFlow 4 = .ok (.lload_n 1, 1) := by decide +kernel
theorem dX2_addToFlow_5 : decode cX2_addToFlow 5 = .ok (.invokevirtual 87, 3) := by decide +kernel
theorem dX2_addToFlow_8 : decode cX2_addToFlow 8 = .ok (.istore 4, 2) := by decide +kernel
theorem dX2_addToFlow_10 : decode cX2_addToFlow 10 = .ok (.iload 4, 2) := by decide +kernel
theorem dX2_addToFlow_12 : decode cX2_addToFlow 12 = .ok (.iconst (-1), 1) := by decide +kernel
theorem dX2_addToFlow_13 : decode cX2_addToFlow 13 = .ok (.if_icmp .ne 24, 3) := by decide +kernel
theorem dX2_addToFlow_16 : decode cX2_addToFlow 16 = .ok (.aload_n 0, 1) := by decide +kernel
theorem dX2_addToFlow_17 : decode cX2_addToFlow 17 = .ok (.getfield 14, 3) := by decide +kernel
theorem dX2_addToFlow_20 : decode cX2_addToFlow 20 = .ok (.invokevirtual 91, 3) := by decide +kernel
theorem dX2_addToFlow_23 : decode cX2_addToFlow 23 = .ok (.ifCond .eq 14, 3) := by decide +kernel
theorem dX2_addToFlow_26 : decode cX2_addToFlow 26 = .ok (.aload_n 0, 1) := by decide +kernel
theorem dX2_addToFlow_27 : decode cX2_addToFlow 27 = .ok (.aload_n 0, 1) := by decide +kernel
theorem dX2_addToFlow_28 : decode cX2_addToFlow 28 = .ok (.getfield 14, 3) := by decide +kernel
theorem dX2_addToFlow_31 : decode cX2_addToFlow 31 = .ok (.invokevirtual 116, 3) := by decide +kernel
theorem dX2_addToFlow_34 : decode cX2_addToFlow 34 = .ok (.invokevirtual 120, 3) := by decide +kernel
theorem dX2_addToFlow_37 : decode cX2_addToFlow 37 = .ok (.iload 4, 2) := by decide +kernel
theorem dX2_addToFlow_39 : decode cX2_addToFlow 39 = .ok (.iconst (-1), 1) := by decide +kernel
theorem dX2_addToFlow_40 : decode cX2_addToFlow 40 = .ok (.if_icmp .ne 18, 3) := by decide +kernel
theorem dX2_addToFlow_43 : decode cX2_addToFlow 43 = .ok (.aload_n 0, 1) := by decide +kernel
theorem dX2_addToFlow_44 : decode cX2_addToFlow 44 = .ok (.getfield 14, 3) := by decide +kernel
theorem dX2_addToFlow_47 : decode cX2_addToFlow 47 = .ok (.lload_n 1, 1) := by decide +kernel
theorem dX2_addToFlow_48 : decode cX2_addToFlow 48 = .ok (.aload_n 0, 1) := by decide +kernel
theorem dX2_addToFlow_49 : decode cX2_addToFlow 49 = .ok (.getfield 23, 3) := by decide +kernel
theorem dX2_addToFlow_52 : decode cX2_addToFlow 52 = .ok (.invokevirtual 94, 3) := by decide +kernel
theorem dX2_addToFlow_55 : decode cX2_addToFlow 55 = .ok (.goto 12, 3) := by decide +kernel
theorem dX2_addToFlow_58 : decode cX2_addToFlow 58 = .ok (.aload_n 0, 1) := by decide +kernel
theorem dX2_addToFlow_59 : decode cX2_addToFlow 59 = .ok (.getfield 14, 3) := by decide +kernel
theorem dX2_addToFlow_62 : decode cX2_addToFlow 62 = .ok (.iload 4, 2) := by decide +kernel
theorem dX2_addToFlow_64 : decode cX2_addToFlow 64 = .ok (.invokevirtual 98, 3) := by decide +kernel
theorem dX2_addToFlow_67 : decode cX2_addToFlow 67 = .ok (.astore 5, 2) := by decide +kernel
theorem dX2_addToFlow_69 : decode cX2_addToFlow 69 = .ok (.aload 5, 2) := by decide +kernel
theorem dX2_addToFlow_71 : decode cX2_addToFlow 71 = .ok (.dup, 1) := by decide +kernel
theorem dX2_addToFlow_72 : decode cX2_addToFlow 72 = .ok (.getfield 102, 3) := by decide +kernel
theorem dX2_addToFlow_75 : decode cX2_addToFlow 75 = .ok (.lconst 1, 1) := by decide +kernel
theorem dX2_addToFlow_76 : decode cX2_addToFlow 76 = .ok (.ladd, 1) := by decide +kernel
theorem dX2_addToFlow_77 : decode cX2_addToFlow 77 = .ok (.putfield 102, 3) := by decide +kernel
theorem dX2_addToFlow_80 : decode cX2_addToFlow 80 = .ok (.aload 5, 2) := by decide +kernel
theorem dX2_addToFlow_82 : decode cX2_addToFlow 82 = .ok (.dup, 1) := by decide +kernel
theorem dX2_addToFlow_83 : decode cX2_addToFlow 83 = .ok (.getfield 107, 3) := by decide +kernel
theorem dX2_addToFlow_86 : decode cX2_addToFlow 86 = .ok (.iload_n 3, 1) := by decide +kernel
theorem dX2_addToFlow_87 : decode cX2_addToFlow 87 = .ok (.i2l, 1) := by decide +kernel
theorem dX2_addToFlow_88 : decode cX2_addToFlow 88 = .ok (.ladd, 1) := by decide +kernel
theorem dX2_addToFlow_89 : decode cX2_addToFlow 89 = .ok (.putfield 107, 3) := by decide +kernel
theorem dX2_addToFlow_92 : decode cX2_addToFlow 92 = .ok (.aload 5, 2) := by decide +kernel
theorem dX2_addToFlow_94 : decode cX2_addToFlow 94 = .ok (.aload_n 0, 1) := by decide +kernel
theorem dX2_addToFlow_95 : decode cX2_addToFlow 95 = .ok (.getfield 23, 3) := by decide +kernel
theorem dX2_addToFlow_98 : decode cX2_addToFlow 98 = .ok (.putfield 123, 3) := by decide +kernel
theorem dX2_addToFlow_101 : decode cX2_addToFlow 101 = .ok (.return_, 1) := by decide +kernel
set_option maxRecDepth 20000 in
theorem ggX2_exportAll_X2_exportAt : GoodIn wsX2_exportAll wsX2_exportAt := goodIn_ca (goodIn_ca ((goodIn_ca (goodIn_ca (goodIn_ca (goodIn_ca (goodIn_ca (goodIn_ca (goodIn_ca (goodIn_r _ [7, 1, 8, 9, 10, 11, 12, 13, 14, 15, 16, 17, 18, 19, 20, 21, 22, 23, 24, 25, 26, 27, 28, 29, 30, 31, 32, 33, 34, 35, 36, 37, 38, 39, 40, 41, 42, 43, 44, 6, 45, 46, 47, 48, 49, 50, 51, 52, 53, 54, 55, 56, 57, 58, 59, 60, 61, 62, 63, 64, 65, 66, 67, 68, 69, 70, 71, 72, 73, 74, 75, 76, 77, 78, 79, 80, 81, 82, 83, 84, 85, 86] rfl (by decide +kernel)) (goodIn_sub (fun _ h => List.mem_cons_of_mem _ (List.mem_append_left _ (List.mem_append_left _ (List.mem_append_left _ (List.mem_append_left _ (List.mem_append_left _ (List.mem_append_left _ (List.mem_append_left _ (List.mem_append_left _ (List.mem_append_right _ h)))))))))) gw_wsX20)) (goodIn_sub (fun _ h => List.mem_cons_of_mem _ (List.mem_append_left _ (List.mem_append_left _ (List.mem_append_left _ (List.mem_append_left _ (List.mem_append_left _ (List.mem_append_left _ (List.mem_append_right _ h)))))))) gw_wsX30)) (goodIn_sub (fun _ h => List.mem_cons_of_mem _ (List.mem_append_left _ (List.mem_append_left _ (List.mem_append_left _ (List.mem_append_left _ (List.mem_append_left _ (List.mem_append_right _ h))))))) gw_wsX100)) (goodIn_sub (fun _ h => List.mem_cons_of_mem _ (List.mem_append_left _ (List.mem_append_left _ (List.mem_append_left _ (List.mem_append_left _ (List.mem_append_left _ (List.mem_append_left _ (List.mem_append_left _ (List.mem_append_right _ h))))))))) gw_wsX40)) (goodIn_sub (fun _ h => List.mem_cons_of_mem _ (List.mem_append_left _ (List.mem_append_left _ (List.mem_append_left _ (List.mem_append_left _ (List.mem_append_right _ h)))))) gw_wsX10)) (goodIn_sub (fun _ h => List.mem_cons_of_mem _ (List.mem_append_left _ (List.mem_append_left _ (List.mem_append_left _ (List.mem_append_right _ h))))) gw_wsX80)) (goodIn_sub (fun _ h => List.mem_cons_of_mem _ (List.mem_append_left _ (List.mem_append_left _ (List.mem_append_right _ h)))) gw_wsX50))) (goodIn_sub (fun _ h => List.mem_cons_of_mem _ (List.mem_append_left _ (List.mem_append_right _ h))) (all_fg _))) (goodIn_sub (fun _ h => List.mem_cons_of_mem _ (List.mem_append_right _ h)) (all_fg _))
set_option maxRecDepth 20000 in
theorem gX2_exportAll_X2_exportAt : GoodIn wsX2_exportAll (wsV RX2 120 RX2 yX2_exportAt wsX2_exportAt) := goodIn_app (goodIn_m (mem_cA (List.mem_cons_of_mem _ (List.mem_append_left _ (List.mem_append_left _ (List.mem_append_left _ (List.mem_append_left _ (List.mem_append_left _ (List.mem_append_left _ (List.mem_append_left _ (List.mem_append_left _ (List.mem_append_left _ (List.mem_append_left _ (List.mem_of_getElem? (i := 2) rfl)))))))))))) (mem_cA (List.mem_cons_of_mem _ (List.mem_append_left _ (List.mem_append_left _ (List.mem_append_left _ (List.mem_append_left _ (List.mem_append_left _ (List.mem_append_left _ (List.mem_append_left _ (List.mem_append_left _ (List.mem_append_left _ (List.mem_append_left _ (List.mem_of_getElem? (i := 3) rfl)))))))))))) (mem_cA (List.mem_cons_of_mem _ (List.mem_append_left _ (List.mem_append_left _ (List.mem_append_left _ (List.mem_append_left _ (List.mem_append_left _ (List.mem_append_left _ (List.mem_append_left _ (List.mem_append_left _ (List.mem_append_left _ (List.mem_append_left _ (List.mem_of_getElem? (i := 4) rfl)))))))))))) (mem_cA (List.mem_cons_of_mem _ (List.mem_append_left _ (List.mem_append_left _ (List.mem_append_left _ (List.mem_append_left _ (List.mem_append_left _ (List.mem_append_left _ (List.mem_append_left _ (List.mem_append_left _ (List.mem_append_left _ (List.mem_append_left _ (List.mem_of_getElem? (i := 5) rfl)))))))))))) mem_cZ)))) (by decide +kernel)) ggX2_exportAll_X2_exportAt
theorem dX2_exportAll_0 : decode cX2_exportAll 0 = .ok (.aload_n 0, 1) := by decide +kernel
theorem dX2_exportAll_1 : decode cX2_exportAll 1 = .ok (.getfield 14, 3) := by decide +kernel
theorem dX2_exportAll_4 : decode cX2_exportAll 4 = .ok (.getfield 61, 3) := by decide +kernel
theorem dX2_exportAll_7 : decode cX2_exportAll 7 = .ok (.istore_n 1, 1) := by decide +kernel
theorem dX2_exportAll_8 : decode cX2_exportAll 8 = .ok (.iload_n 1, 1) := by decide +kernel
theorem dX2_exportAll_9 : decode cX2_exportAll 9 = .ok (.ifCond .le 14, 3) := by decide +kernel
theorem dX2_exportAll_12 : decode cX2_exportAll 12 = .ok (.aload_n 0, 1) := by decide +kernel
theorem dX2_exportAll_13 : decode cX2_exportAll 13 = .ok (.iconst 0, 1) := by decide +kernel
theorem dX2_exportAll_14 : decode cX2_exportAll 14 = .ok (.invokevirtual 120, 3) := by decide +kernel
theorem dX2_exportAll_17 : decode cX2_exportAll 17 = .ok (.iinc 1 (-1), 3) := by decide +kernel
theorem dX2_exportAll_20 : decode cX2_exportAll 20 = .ok (.goto (-12), 3) := by decide +kernel
theorem dX2_exportAll_23 : decode cX2_exportAll 23 = .ok (.return_, 1) := by decide +kernel
set_option maxRecDepth 20000 in
theorem ggX2_exportOld_X1_get : GoodIn wsX2_exportOld wsX1_get := goodIn_ca ((goodIn_ca (goodIn_r _ [11, 12] rfl (by decide +kernel)) (goodIn_sub (fun _ h => List.mem_cons_of_mem _ (List.mem_append_left _ (List.mem_append_left _ (List.mem_append_left _ (List.mem_append_left _ (List.mem_append_left _ (List.mem_append_right _ h))))))) gw_wsX10))) (goodIn_sub (fun _ h => List.mem_cons_of_mem _ (List.mem_append_left _ (List.mem_append_right _ h))) (all_fg _))
set_option maxRecDepth 20000 in
theorem gX2_exportOld_X1_get : GoodIn wsX2_exportOld (wsV RX2 64 RX1 yX1_get wsX1_get) := goodIn_app (goodIn_m (mem_cA (List.mem_cons_of_mem _ (List.mem_append_left _ (List.mem_append_left _ (List.mem_append_left _ (List.mem_append_left _ (List.mem_append_left _ (List.mem_append_left _ (List.mem_append_left _ (List.mem_append_left _ (List.mem_append_left _ (List.mem_append_left _ (List.mem_of_getElem? (i := 6) rfl)))))))))))) (mem_cA (List.mem_cons_of_mem _ (List.mem_append_left _ (List.mem_append_left _ (List.mem_append_left _ (List.mem_append_left _ (List.mem_append_left _ (List.mem_append_left _ (List.mem_append_left _ (List.mem_append_left _ (List.mem_append_left _ (List.mem_append_left _ (List.mem_of_getElem? (i := 7) rfl)))))))))))) (mem_cA (List.mem_cons_of_mem _ (List.mem_append_left _ (List.mem_append_left _ (List.mem_append_left _ (List.mem_append_left _ (List.mem_append_left _ (List.mem_append_left _ (List.mem_append_left _ (List.mem_append_left _ (List.mem_append_left _ (List.mem_append_left _ (List.mem_of_getElem? (i := 8) rfl)))))))))))) (mem_cA (List.mem_cons_of_mem _ (List.mem_append_left _ (List.mem_append_left _ (List.mem_append_left _ (List.mem_append_left _ (List.mem_append_left _ (List.mem_append_left _ (List.mem_append_left _ (List.mem_append_left _ (List.mem_append_left _ (List.mem_append_left _ (List.mem_of_getElem? (i := 9) rfl)))))))))))) mem_cZ)))) (by decide +kernel)) ggX2_exportOld_X1_get
set_option maxRecDepth 20000 in
theorem ggX2_exportOld_X4_flowAt : GoodIn wsX2_exportOld wsX4_flowAt := (goodIn_ca (goodIn_r _ [17, 18] rfl (by decide +kernel)) (goodIn_sub (fun _ h => List.mem_cons_of_mem _ (List.mem_append_left _ (List.mem_append_left _ (List.mem_append_left _ (List.mem_append_left _ (List.mem_append_left _ (List.mem_append_left _ (List.mem_append_left _ (List.mem_append_right _ h))))))))) gw_wsX40))
set_option maxRecDepth 20000 in
theorem gX2_exportOld_X4_flowAt : GoodIn wsX2_exportOld (wsV RX2 98 RX4 yX4_flowAt wsX4_flowAt) := goodIn_app (goodIn_m (mem_cA (List.mem_cons_of_mem _ (List.mem_append_left _ (List.mem_append_left _ (List.mem_append_left _ (List.mem_append_left _ (List.mem_append_left _ (List.mem_append_left _ (List.mem_append_left _ (List.mem_append_left _ (List.mem_append_left _ (List.mem_append_left _ (List.mem_of_getElem? (i := 12) rfl)))))))))))) (mem_cA (List.mem_cons_of_mem _ (List.mem_append_left _ (List.mem_append_left _ (List.mem_append_left _ (List.mem_append_left _ (List.mem_append_left _ (List.mem_append_left _ (List.mem_append_left _ (List.mem_append_left _ (List.mem_append_left _ (List.mem_append_left _ (List.mem_of_getElem? (i := 13) rfl)))))))))))) (mem_cA (List.mem_cons_of_mem _ (List.mem_append_left _ (List.mem_append_left _ (List.mem_append_left _ (List.mem_append_left _ (List.mem_append_left _ (List.mem_append_left _ (List.mem_append_left _ (List.mem_append_left _ (List.mem_append_left _ (List.mem_append_left _ (List.mem_of_getElem? (i := 14) rfl)))))))))))) (mem_cA (List.mem_cons_of_mem _ (List.mem_append_left _ (List.mem_append_left _ (List.mem_append_left _ (List.mem_append_left _ (List.mem_append_left _ (List.mem_append_left _ (List.mem_append_left _ (List.mem_append_left _ (List.mem_append_left _ (List.mem_append_left _ (List.mem_of_getElem? (i := 15) rfl)))))))))))) mem_cZ)))) (by decide +kernel)) ggX2_exportOld_X4_flowAt
set_option maxRecDepth 20000 in
theorem ggX2_exportOld_X2_exportAt : GoodIn wsX2_exportOld wsX2_exportAt := goodIn_ca (goodIn_ca ((goodIn_ca (goodIn_ca (goodIn_ca (goodIn_ca (goodIn_ca (goodIn_ca (goodIn_ca (goodIn_r _ [23, 2, 1, 24, 25, 26, 27, 28, 29, 30, 31, 32, 16, 33, 34, 18, 35, 14, 15, 17, 36, 37, 38, 39, 40, 41, 42, 43, 44, 10, 45, 46, 47, 48, 49, 50, 51, 52, 53, 22, 54, 55, 56, 57, 58, 59, 60, 61, 62, 63, 64, 65, 66, 67, 68, 69, 70, 71, 72, 73, 74, 75, 76, 77, 78, 79, 80, 81, 82, 83, 84, 85, 86, 87, 88, 89, 90, 91, 92, 93, 94, 95] rfl (by decide +kernel)) (goodIn_sub (fun _ h => List.mem_cons_of_mem _ (List.mem_append_left _ (List.mem_append_left _ (List.mem_append_left _ (List.mem_append_left _ (List.mem_append_left _ (List.mem_append_left _ (List.mem_append_left _ (List.mem_append_left _ (List.mem_append_right _ h)))))))))) gw_wsX20)) (goodIn_sub (fun _ h => List.mem_cons_of_mem _ (List.mem_append_left _ (List.mem_append_left _ (List.mem_append_left _ (List.mem_append_left _ (List.mem_append_left _ (List.mem_append_left _ (List.mem_append_right _ h)))))))) gw_wsX30)) (goodIn_sub (fun _ h => List.mem_cons_of_mem _ (List.mem_append_left _ (List.mem_append_left _ (List.mem_append_left _ (List.mem_append_left _ (List.mem_append_right _ h)))))) gw_wsX100)) (goodIn_sub (fun _ h => List.mem_cons_of_mem _ (List.mem_append_left _ (List.mem_append_left _ (List.mem_append_left _ (List.mem_append_left _ (List.mem_append_left _ (List.mem_append_left _ (List.mem_append_left _ (List.mem_append_right _ h))))))))) gw_wsX40)) (goodIn_sub (fun _ h => List.mem_cons_of_mem _ (List.mem_append_left _ (List.mem_append_left _ (List.mem_append_left _ (List.mem_append_left _ (List.mem_append_left _ (List.mem_append_right _ h))))))) gw_wsX10)) (goodIn_sub (fun _ h => List.mem_cons_of_mem _ (List.mem_append_left _ (List.mem_append_left _ (List.mem_append_left _ (List.mem_append_right _ h))))) gw_wsX80)) (goodIn_sub (fun _ h => List.mem_cons_of_mem _ (List.mem_append_left _ (List.mem_append_left _ (List.mem_append_right _ h)))) gw_wsX50))) (goodIn_sub (fun _ h => List.mem_cons_of_mem _ (List.mem_append_left _ (List.mem_append_right _ h))) (all_fg _))) (goodIn_sub (fun _ h => List.mem_cons_of_mem _ (List.mem_append_right _ h)) (all_fg _))
set_option maxRecDepth 20000 in
theorem gX2_exportOld_X2_exportAt : GoodIn wsX2_exportOld (wsV RX2 120 RX2 yX2_exportAt wsX2_exportAt) := goodIn_app (goodIn_m (mem_cA (List.mem_cons_of_mem _ (List.mem_append_left _ (List.mem_append_left _ (List.mem_append_left _ (List.mem_append_left _ (List.mem_append_left _ (List.mem_append_left _ (List.mem_append_left _ (List.mem_append_left _ (List.mem_append_left _ (List.mem_append_left _ (List.mem_of_getElem? (i := 18) rfl)))))))))))) (mem_cA (List.mem_cons_of_mem _ (List.mem_append_left _ (List.mem_append_left _ (List.mem_append_left _ (List.mem_append_left _ (List.mem_append_left _ (List.mem_append_left _ (List.mem_append_left _ (List.mem_append_left _ (List.mem_append_left _ (List.mem_append_left _ (List.mem_of_getElem? (i := 19) rfl)))))))))))) (mem_cA (List.mem_cons_of_mem _ (List.mem_append_left _ (List.mem_append_left _ (List.mem_append_left _ (List.mem_append_left _ (List.mem_append_left _ (List.mem_append_left _ (List.mem_append_left _ (List.mem_append_left _ (List.mem_append_left _ (List.mem_append_left _ (List.mem_of_getElem? (i := 20) rfl)))))))))))) (mem_cA (List.mem_cons_of_mem _ (List.mem_append_left _ (List.mem_append_left _ (List.mem_append_left _ (List.mem_append_left _ (List.mem_append_left _ (List.mem_append_left _ (List.mem_append_left _ (List.mem_append_left _ (List.mem_append_left _ (List.mem_append_left _ (List.mem_of_getElem? (i := 21) rfl)))))))))))) mem_cZ)))) (by decide +kernel)) ggX2_exportOld_X2_exportAt
theorem dX2_exportOld_0 : decode cX2_exportOld 0 = .ok (.aload_n 0, 1) := by decide +kernel
theorem dX2_exportOld_1 : decode cX2_exportOld 1 = .ok (.getfield 53, 3) := by decide +kernel
theorem dX2_exportOld_4 : decode cX2_exportOld 4 = .ok (.iconst 2, 1) := by decide +kernel
theorem dX2_exportOld_5 : decode cX2_exportOld 5 = .ok (.invokevirtual 64, 3) := by decide +kernel
theorem dX2_exportOld_8 : decode cX2_exportOld 8 = .ok (.istore_n 1, 1) := by decide +kernel
theorem dX2_exportOld_9 : decode cX2_exportOld 9 = .ok (.aload_n 0, 1) := by decide +kernel
theorem dX2_exportOld_10 : decode cX2_exportOld 10 = .ok (.getfield 53, 3) := by decide +kernel
theorem dX2_exportOld_13 : decode cX2_exportOld 13 = .ok (.iconst 3, 1) := by decide +kernel
theorem dX2_exportOld_14 : decode cX2_exportOld 14 = .ok (.invokevirtual 64, 3) := by decide +kernel
theorem dX2_exportOld_17 : decode cX2_exportOld 17 = .ok (.istore_n 2, 1) := by decide +kernel
theorem dX2_exportOld_18 : decode cX2_exportOld 18 = .ok (.iconst 0, 1) := by decide +kernel
theorem dX2_exportOld_19 : decode cX2_exportOld 19 = .ok (.istore_n 3, 1) := by decide +kernel
theorem dX2_exportOld_20 : decode cX2_exportOld 20 = .ok (.aload_n 0, 1) := by decide +kernel
theorem dX2_exportOld_21 : decode cX2_exportOld 21 = .ok (.getfield 14, 3) := by decide +kernel
theorem dX2_exportOld_24 : decode cX2_exportOld 24 = .ok (.getfield 61, 3) := by decide +kernel
theorem dX2_exportOld_27 : decode cX2_exportOld 27 = .ok (.istore 4, 2) := by decide +kernel
theorem dX2_exportOld_29 : decode cX2_exportOld 29 = .ok (.iload 4, 2) := by decide +kernel
theorem dX2_exportOld_31 : decode cX2_exportOld 31 = .ok (.ifCond .le 58, 3) := by decide +kernel
theorem dX2_exportOld_34 : decode cX2_exportOld 34 = .ok (.aload_n 0, 1) := by decide +kernel
theorem dX2_exportOld_35 : decode cX2_exportOld 35 = .ok (.getfield 14, 3) := by decide +kernel
theorem dX2_exportOld_38 : decode cX2_exportOld 38 = .ok (.iload_n 3, 1) := by decide +kernel
theorem dX2_exportOld_39 : decode cX2_exportOld 39 = .ok (.invokevirtual 98, 3) := by decide +kernel
theorem dX2_exportOld_42 : decode cX2_exportOld 42 = .ok (.astore 5, 2) := by decide +kernel
theorem dX2_exportOld_44 : decode cX2_exportOld 44 = .ok (.aload_n 0, 1) := by decide +kernel
theorem dX2_exportOld_45 : decode cX2_exportOld 45 = .ok (.getfield 23, 3) := by decide +kernel
theorem dX2_exportOld_48 : decode cX2_exportOld 48 = .ok (.aload 5, 2) := by decide +kernel
theorem dX2_exportOld_50 : decode cX2_exportOld 50 = .ok (.getfield 162, 3) := by decide +kernel
theorem dX2_exportOld_53 : decode cX2_exportOld 53 = .ok (.isub, 1) := by decide +kernel
theorem dX2_exportOld_54 : decode cX2_exportOld 54 = .ok (.iload_n 1, 1) := by decide +kernel
theorem dX2_exportOld_55 : decode cX2_exportOld 55 = .ok (.if_icmp .ge 17, 3) := by decide +kernel
theorem dX2_exportOld_58 : decode cX2_exportOld 58 = .ok (.aload_n 0, 1) := by decide +kernel
theorem dX2_exportOld_59 : decode cX2_exportOld 59 = .ok (.getfield 23, 3) := by decide +kernel
theorem dX2_exportOld_62 : decode cX2_exportOld 62 = .ok (.aload 5, 2) := by decide +kernel
theorem dX2_exportOld_64 : decode cX2_exportOld 64 = .ok (.getfield 123, 3) := by decide +kernel
theorem dX2_exportOld_67 : decode cX2_exportOld 67 = .ok (.isub, 1) := by decide +kernel
theorem dX2_exportOld_68 : decode cX2_exportOld 68 = .ok (.iload_n 2, 1) := by decide +kernel
theorem dX2_exportOld_69 : decode cX2_exportOld 69 = .ok (.if_icmp .lt 11, 3) := by decide +kernel
theorem dX2_exportOld_72 : decode cX2_exportOld 72 = .ok (.aload_n 0, 1) := by decide +kernel
theorem dX2_exportOld_73 : decode cX2_exportOld 73 = .ok (.iload_n 3, 1) := by decide +kernel
theorem dX2_exportOld_74 : decode cX2_exportOld 74 = .ok (.invokevirtual 120, 3) := by decide +kernel
theorem dX2_exportOld_77 : decode cX2_exportOld 77 = .ok (.goto 6, 3) := by decide +kernel
theorem dX2_exportOld_80 : decode cX2_exportOld 80 = .ok (.iinc 3 1, 3) := by decide +kernel
theorem dX2_exportOld_83 : decode cX2_exportOld 83 = .ok (.iinc 4 (-1), 3) := by decide +kernel
theorem dX2_exportOld_86 : decode cX2_exportOld 86 = .ok (.goto (-57), 3) := by decide +kernel
theorem dX2_exportOld_89 : decode cX2_exportOld 89 = .ok (.return_, 1) := by decide +kernel
set_option maxRecDepth 20000 in
theorem ggX2_endInterval_X1_get : GoodIn wsX2_endInterval wsX1_get := goodIn_ca ((goodIn_ca (goodIn_r _ [10, 11] rfl (by decide +kernel)) (goodIn_sub (fun _ h => List.mem_cons_of_mem _ (List.mem_append_left _ (List.mem_append_right _ h))) gw_wsX10))) (goodIn_sub (fun _ h => List.mem_cons_of_mem _ (List.mem_append_right _ h)) (all_fg _))
set_option maxRecDepth 20000 in
theorem gX2_endInterval_X1_get : GoodIn wsX2_endInterval (wsV RX2 64 RX1 yX1_get wsX1_get) := goodIn_app (goodIn_m (mem_cA (List.mem_cons_of_mem _ (List.mem_append_left _ (List.mem_append_left _ (List.mem_append_left _ (List.mem_of_getElem? (i := 5) rfl))))) (mem_cA (List.mem_cons_of_mem _ (List.mem_append_left _ (List.mem_append_left _ (List.mem_append_left _ (List.mem_of_getElem? (i := 6) rfl))))) (mem_cA (List.mem_cons_of_mem _ (List.mem_append_left _ (List.mem_append_left _ (List.mem_append_left _ (List.mem_of_getElem? (i := 7) rfl))))) (mem_cA (List.mem_cons_of_mem _ (List.mem_append_left _ (List.mem_append_left _ (List.mem_append_left _ (List.mem_of_getElem? (i := 8) rfl))))) mem_cZ)))) (by decide +kernel)) ggX2_endInterval_X1_get
theorem dX2_endInterval_0 : decode cX2_endInterval 0 = .ok (.aload_n 0, 1) := by decide +kernel
theorem dX2_endInterval_1 : decode cX2_endInterval 1 = .ok (.getfield 37, 3) := by decide +kernel
theorem dX2_endInterval_4 : decode cX2_endInterval 4 = .ok (.aload_n 0, 1) := by decide +kernel
theorem dX2_endInterval_5 : decode cX2_endInterval 5 = .ok (.getfield 40, 3) := by decide +kernel
theorem dX2_endInterval_8 : decode cX2_endInterval 8 = .ok (.isub, 1) := by decide +kernel
theorem dX2_endInterval_9 : decode cX2_endInterval 9 = .ok (.istore_n 1, 1) := by decide +kernel
theorem dX2_endInterval_10 : decode cX2_endInterval 10 = .ok (.aload_n 0, 1) := by decide +kernel
theorem dX2_endInterval_11 : decode cX2_endInterval 11 = .ok (.aload_n 0, 1) := by decide +kernel
theorem dX2_endInterval_12 : decode cX2_endInterval 12 = .ok (.getfield 37, 3) := by decide +kernel
theorem dX2_endInterval_15 : decode cX2_endInterval 15 = .ok (.putfield 40, 3) := by decide +kernel
theorem dX2_endInterval_18 : decode cX2_endInterval 18 = .ok (.aload_n 0, 1) := by decide +kernel
theorem dX2_endInterval_19 : decode cX2_endInterval 19 = .ok (.getfield 53, 3) := by decide +kernel
theorem dX2_endInterval_22 : decode cX2_endInterval 22 = .ok (.iconst 1, 1) := by decide +kernel
theorem dX2_endInterval_23 : decode cX2_endInterval 23 = .ok (.invokevirtual 64, 3) := by decide +kernel
theorem dX2_endInterval_26 : decode cX2_endInterval 26 = .ok (.istore_n 2, 1) := by decide +kernel
theorem dX2_endInterval_27 : decode cX2_endInterval 27 = .ok (.aload_n 0, 1) := by decide +kernel
theorem dX2_endInterval_28 : decode cX2_endInterval 28 = .ok (.getfield 33, 3) := by decide +kernel
theorem dX2_endInterval_31 : decode cX2_endInterval 31 = .ok (.ifCond .eq 25, 3) := by decide +kernel
theorem dX2_endInterval_34 : decode cX2_endInterval 34 = .ok (.iload_n 1, 1) := by decide +kernel
theorem dX2_endInterval_35 : decode cX2_endInterval 35 = .ok (.iload_n 2, 1) := by decide +kernel
theorem dX2_endInterval_36 : decode cX2_endInterval 36 = .ok (.if_icmp .le 20, 3) := by decide +kernel
theorem dX2_endInterval_39 : decode cX2_endInterval 39 = .ok (.aload_n 0, 1) := by decide +kernel
theorem dX2_endInterval_40 : decode cX2_endInterval 40 = .ok (.getfield 27, 3) := by decide +kernel
theorem dX2_endInterval_43 : decode cX2_endInterval 43 = .ok (.sipush 512, 3) := by decide +kernel
theorem dX2_endInterval_46 : decode cX2_endInterval 46 = .ok (.if_icmp .gt 10, 3) := by decide +kernel
theorem dX2_endInterval_49 : decode cX2_endInterval 49 = .ok (.iconst 2, 1) := by decide +kernel
theorem dX2_endInterval_50 : decode cX2_endInterval 50 = .ok (.aload_n 0, 1) := by decide +kernel
theorem dX2_endInterval_51 : decode cX2_endInterval 51 = .ok (.getfield 27, 3) := by decide +kernel
theorem dX2_endInterval_54 : decode cX2_endInterval 54 = .ok (.imul, 1) := by decide +kernel
theorem dX2_endInterval_55 : decode cX2_endInterval 55 = .ok (.ireturn, 1) := by decide +kernel
theorem dX2_endInterval_56 : decode cX2_endInterval 56 = .ok (.aload_n 0, 1) := by decide +kernel
theorem dX2_endInterval_57 : decode cX2_endInterval 57 = .ok (.getfield 33, 3) := by decide +kernel
theorem dX2_endInterval_60 : decode cX2_endInterval 60 = .ok (.ifCond .eq 25, 3) := by decide +kernel
theorem dX2_endInterval_63 : decode cX2_endInterval 63 = .ok (.iconst 2, 1) := by decide +kernel
theorem dX2_endInterval_64 : decode cX2_endInterval 64 = .ok (.iload_n 1, 1) := by decide +kernel
theorem dX2_endInterval_65 : decode cX2_endInterval 65 = .ok (.imul, 1) := by decide +kernel
theorem dX2_endInterval_66 : decode cX2_endInterval 66 = .ok (.iload_n 2, 1) := by decide +kernel
theorem dX2_endInterval_67 : decode cX2_endInterval 67 = .ok (.if_icmp .ge 18, 3) := by decide +kernel
theorem dX2_endInterval_70 : decode cX2_endInterval 70 = .ok (.aload_n 0, 1) := by decide +kernel
theorem dX2_endInterval_71 : decode cX2_endInterval 71 = .ok (.getfield 27, 3) := by decide +kernel
theorem dX2_endInterval_74 : decode cX2_endInterval 74 = .ok (.iconst 2, 1) := by decide +kernel
theorem dX2_endInterval_75 : decode cX2_endInterval 75 = .ok (.if_icmp .lt 10, 3) := by decide +kernel
theorem dX2_endInterval_78 : decode cX2_endInterval 78 = .ok (.aload_n 0, 1) := by decide +kernel
theorem dX2_endInterval_79 : decode cX2_endInterval 79 = .ok (.getfield 27, 3) := by decide +kernel
theorem dX2_endInterval_82 : decode cX2_endInterval 82 = .ok (.iconst 2, 1) := by decide +kernel
theorem dX2_endInterval_83 : decode cX2_endInterval 83 = .ok (.idiv, 1) := by decide +kernel
theorem dX2_endInterval_84 : decode cX2_endInterval 84 = .ok (.ireturn, 1) := by decide +kernel
theorem dX2_endInterval_85 : decode cX2_endInterval 85 = .ok (.aload_n 0, 1) := by decide +kernel
theorem dX2_endInterval_86 : decode cX2_endInterval 86 = .ok (.getfield 27, 3) := by decide +kernel
theorem dX2_endInterval_89 : decode cX2_endInterval 89 = .ok (.ireturn, 1) := by decide +kernel
set_option maxHeartbeats 4000000 in
set_option maxRecDepth 100000 in
theorem s_X2_addToFlow (G : EnvG) (l : Launch) (Φ : Hm) (sz x ca : Nat) (nw : Int32) (rt : Int32) (dw : Int32) (aq : Int32) (xp : Int32) (xb : Int32) (ob : Int64) (sm : Int64) (un : Int64) (a : Int64) (b : Int32) (hx : G.2.2.2 ≤ x) (hI : In G x ca Φ) (hc0 : Φ (x + 80) = some (o_ 4 [.ref (x + 3), .ref (x + 74), .ref (x + 81), .ref (x + 95), .int nw, .int rt, .int dw, .int aq, .int xp, .int xb, .long ob, .long sm, .long un])) (had : aq = 0 ∨ aq = 1) : Ct G l yX2_addToFlow wsX2_addToFlow ({ frames := 4, cells := 0, slots := 0, locals := 94 }) 0 0 [.ref (x + 80), .long a, .int b] Φ sz (fun v Φ1 sz1 => ((v = none) ∧ ∃ xp8 : Int32, ∃ un8 : Int64, Φ1 (x + 80) = some (o_ 4 [.ref (x + 3), .ref (x + 74), .ref (x + 81), .ref (x + 95), .int nw, .int rt, .int dw, .int aq, .int xp8, .int xb, .long ob, .long sm, .long un8])) ∧ sz1 = sz ∧ In G x (ca) Φ1 ∧ Fr x (fun j9 => 74 ≤ j9 ∧ j9 < 95) Φ Φ1) := by
  refine Ct.of (cc := cX2_addToFlow) (maxL := 6) (ret := none) (by decide) rfl (Nat.le_of_ble_eq_true rfl) ?_
  intro p9 e9 s9 m9 w9 t9 k9 B
  show Z p9 l e9 _ s9 m9 _ w9 t9 k9 _ G 6 0 [(0, .ref (x + 80)), (1, .long a), (3, .int b)] [] Φ sz 0 0
  refine z_aload_n B dX2_addToFlow_0 rfl 0 rfl ?_
  refine z_get (ref := "FlowExporter$Exporter") (C := RX2) (T := TX2) (N := 13) (ci := 4) (v := .ref (x + 81)) B hu_X2_addToFlow_X2 rfl 2 (Nat.le_of_ble_eq_true rfl) hv_X2_addToFlow_14 rfl hc0 rfl dX2_addToFlow_1 ?_
  refine z_lload_n B dX2_addToFlow_4 rfl 1 rfl ?_
  obtain ⟨n_1, h_1, b_1⟩ := in17 (k := 81) hI rfl
  replace b_1 : n_1 ≤ 12 := b_1
  have h_2 : Φ (x + 81) = some (o_ 6 [.ref (x + 82), .int (nI n_1)]) := h_1
  refine z_callV (As := [.long a]) (rest := []) B (s_X4_indexOf G l Φ sz x (ca) 81 a hx hI rfl) (cwV 1 B.1.2.2.2.2 gX2_addToFlow_X4_indexOf rfl rfl rfl (by decide +kernel) ⟨Nat.le_of_ble_eq_true rfl, Nat.le_of_ble_eq_true rfl⟩) h_2 rfl rfl rfl rfl (Nat.le_of_ble_eq_true rfl) dX2_addToFlow_5 ⟨Nat.le_of_ble_eq_true rfl, Nat.le_of_ble_eq_true rfl⟩ (fun r_1 Φ1 sz1 st1 hp1 hs1 => ?_)
  obtain ⟨⟨v_1, rfl⟩, hq1, hI1, hF1⟩ := hp1
  subst sz1
  replace hs1 : st1 = [.int v_1] := hs1
  subst st1
  replace hI1 : In G x (ca) Φ1 := hI1
  refine z_istore (lv' := [(4, .int v_1), (0, .ref (x + 80)), (1, .long a), (3, .int b)]) B dX2_addToFlow_8 (Nat.le_of_ble_eq_true rfl) rfl ?_
  refine z_iload B dX2_addToFlow_10 0 rfl ?_
  refine z_iconst (v := (-1)) B dX2_addToFlow_12 rfl ?_
  refine z_icmp_ne (tgt := 37) B dX2_addToFlow_13 rfl (fun c_1 => ?_) (fun c_1 => ?_)
  · refine z_iload B dX2_addToFlow_37 0 rfl ?_
    refine z_iconst (v := (-1)) B dX2_addToFlow_39 rfl ?_
    refine z_icmp_ne (tgt := 58) B dX2_addToFlow_40 rfl (fun c_2 => ?_) (fun c_2 => ?_)
    · refine z_aload_n B dX2_addToFlow_58 rfl 1 rfl ?_
      have h_3 : Φ1 (x + 80) = some (o_ 4 [.ref (x + 3), .ref (x + 74), .ref (x + 81), .ref (x + 95), .int nw, .int rt, .int dw, .int aq, .int xp, .int xb, .long ob, .long sm, .long un]) := ((hF1 (x + 80) (fun j9 h8 h7 => (show False from h7).elim)).trans hc0)
      refine z_get (ref := "FlowExporter$Exporter") (C := RX2) (T := TX2) (N := 13) (ci := 4) (v := .ref (x + 81)) B hu_X2_addToFlow_X2 rfl 2 (Nat.le_of_ble_eq_true rfl) hv_X2_addToFlow_14 rfl h_3 rfl dX2_addToFlow_59 ?_
      refine z_iload B dX2_addToFlow_62 0 rfl ?_
      have h_4 : Φ1 (x + 81) = some (o_ 6 [.ref (x + 82), .int (nI n_1)]) := ((hF1 (x + 81) (fun j9 h8 h7 => (show False from h7).elim)).trans h_2)
      refine z_callV (As := [.int v_1]) (rest := []) B (s_X4_flowAt G l Φ1 sz x (ca) 81 v_1 hx hI1 rfl) (cwV 1 B.1.2.2.2.2 gX2_addToFlow_X4_flowAt rfl rfl rfl (by decide +kernel) ⟨Nat.le_of_ble_eq_true rfl, Nat.le_of_ble_eq_true rfl⟩) h_4 rfl rfl rfl rfl (Nat.le_of_ble_eq_true rfl) dX2_addToFlow_64 ⟨Nat.le_of_ble_eq_true rfl, Nat.le_of_ble_eq_true rfl⟩ (fun r_2 Φ2 sz2 st2 hp2 hs2 => ?_)
      obtain ⟨⟨m_1, hm_1, rfl⟩, hq2, hI2, hF2⟩ := hp2
      subst sz2
      replace hs2 : st2 = [.ref (x + (81 + 2 + m_1))] := hs2
      subst st2
      replace hI2 : In G x (ca) Φ2 := hI2
      replace hm_1 : m_1 < 12 := hm_1
      refine z_astore (lv' := [(5, .ref (x + (81 + 2 + m_1))), (4, .int v_1), (0, .ref (x + 80)), (1, .long a), (3, .int b)]) B dX2_addToFlow_67 (Nat.le_of_ble_eq_true rfl) rfl ?_
      refine z_aload B dX2_addToFlow_69 0 rfl ?_
      refine z_dup B dX2_addToFlow_71 rfl ?_
      obtain ⟨v_2, v_3, v_4, v_5, v_6, h_5⟩ := in19 (k := 81 + 2 + m_1) hI2 (kd_f (kd_r rfl) hm_1)
      have h_6 : Φ2 (x + (81 + 2 + m_1)) = some (o_ 5 [.long v_2, .long v_3, .long v_4, .int v_5, .int v_6]) := h_5
      refine z_get (ref := "FlowExporter$Flow") (C := RX3) (T := TX3) (N := 5) (ci := 5) (v := .long v_3) B hu_X2_addToFlow_X3 rfl 1 (Nat.le_of_ble_eq_true rfl) hv_X2_addToFlow_102 rfl h_6 rfl dX2_addToFlow_72 ?_
      refine z_lconst (v := 1) B dX2_addToFlow_75 rfl ?_
      refine z_ladd B dX2_addToFlow_76 ?_
      refine z_fl (fun v_7 => ?_)
      refine z_put (ref := "FlowExporter$Flow") (C := RX3) (T := TX3) (N := 5) (ci := 5) (v := .long v_7) B hu_X2_addToFlow_X3 tyX3 tyX3_ok nmX3 rfl 1 (Nat.le_of_ble_eq_true rfl) hv_X2_addToFlow_102 rfl (Or.inl rfl) h_6 (by omega) rfl rfl (Nat.le_of_ble_eq_true rfl) dX2_addToFlow_77 (fun Φ3 hΦ1 => ?_)
      have h_7 : Φ3 (x + (81 + 2 + m_1)) = some (o_ 5 [.long v_2, .long v_7, .long v_4, .int v_5, .int v_6]) := fset_at hΦ1
      have hI3 : In G x (ca) Φ3 := In.put (k := 81 + 2 + m_1) hI2 hΦ1 (ok19 (k := 81 + 2 + m_1) (kd_f (kd_r rfl) hm_1) ⟨v_2, v_7, v_4, v_5, v_6, rfl⟩)
      refine z_aload B dX2_addToFlow_80 0 rfl ?_
      refine z_dup B dX2_addToFlow_82 rfl ?_
      refine z_get (ref := "FlowExporter$Flow") (C := RX3) (T := TX3) (N := 5) (ci := 5) (v := .long v_4) B hu_X2_addToFlow_X3 rfl 2 (Nat.le_of_ble_eq_true rfl) hv_X2_addToFlow_107 rfl h_7 rfl dX2_addToFlow_83 ?_
      refine z_iload_n B dX2_addToFlow_86 rfl 4 rfl ?_
      refine z_i2l (v := b.toInt64) B dX2_addToFlow_87 rfl ?_
      refine z_fl (fun v_8 => ?_)
      refine z_ladd B dX2_addToFlow_88 ?_
      refine z_fl (fun v_9 => ?_)
      refine z_put (ref := "FlowExporter$Flow") (C := RX3) (T := TX3) (N := 5) (ci := 5) (v := .long v_9) B hu_X2_addToFlow_X3 tyX3 tyX3_ok nmX3 rfl 2 (Nat.le_of_ble_eq_true rfl) hv_X2_addToFlow_107 rfl (Or.inl rfl) h_7 (by omega) rfl rfl (Nat.le_of_ble_eq_true rfl) dX2_addToFlow_89 (fun Φ4 hΦ2 => ?_)
      have h_8 : Φ4 (x + (81 + 2 + m_1)) = some (o_ 5 [.long v_2, .long v_7, .long v_9, .int v_5, .int v_6]) := fset_at hΦ2
      have hI4 : In G x (ca) Φ4 := In.put (k := 81 + 2 + m_1) hI3 hΦ2 (ok19 (k := 81 + 2 + m_1) (kd_f (kd_r rfl) hm_1) ⟨v_2, v_7, v_9, v_5, v_6, rfl⟩)
      refine z_aload B dX2_addToFlow_92 0 rfl ?_
      refine z_aload_n B dX2_addToFlow_94 rfl 2 rfl ?_
      have h_9 : Φ4 (x + 80) = some (o_ 4 [.ref (x + 3), .ref (x + 74), .ref (x + 81), .ref (x + 95), .int nw, .int rt, .int dw, .int aq, .int xp, .int xb, .long ob, .long sm, .long un]) := ((fset_fr hΦ2 (by omega)).trans ((fset_fr hΦ1 (by omega)).trans ((hF2 (x + 80) (fun j9 h8 h7 => (show False from h7).elim)).trans h_3)))
      refine z_get (ref := "FlowExporter$Exporter") (C := RX2) (T := TX2) (N := 13) (ci := 4) (v := .int nw) B hu_X2_addToFlow_X2 rfl 4 (Nat.le_of_ble_eq_true rfl) hv_X2_addToFlow_23 rfl h_9 rfl dX2_addToFlow_95 ?_
      refine z_put (ref := "FlowExporter$Flow") (C := RX3) (T := TX3) (N := 5) (ci := 5) (v := .int nw) B hu_X2_addToFlow_X3 tyX3 tyX3_ok nmX3 rfl 4 (Nat.le_of_ble_eq_true rfl) hv_X2_addToFlow_123 rfl (Or.inl rfl) h_8 (by omega) rfl rfl (Nat.le_of_ble_eq_true rfl) dX2_addToFlow_98 (fun Φ5 hΦ3 => ?_)
      have h_10 : Φ5 (x + (81 + 2 + m_1)) = some (o_ 5 [.long v_2, .long v_7, .long v_9, .int v_5, .int nw]) := fset_at hΦ3
      have hI5 : In G x (ca) Φ5 := In.put (k := 81 + 2 + m_1) hI4 hΦ3 (ok19 (k := 81 + 2 + m_1) (kd_f (kd_r rfl) hm_1) ⟨v_2, v_7, v_9, v_5, nw, rfl⟩)
      have h_11 : Φ5 (x + 80) = some (o_ 4 [.ref (x + 3), .ref (x + 74), .ref (x + 81), .ref (x + 95), .int nw, .int rt, .int dw, .int aq, .int xp, .int xb, .long ob, .long sm, .long un]) := ((fset_fr hΦ3 (by omega)).trans h_9)
      exact z_ret_v B dX2_addToFlow_101 ⟨⟨rfl, xp, un, h_11⟩, rfl, hI5, (fun b9 h9 => ((fset_fr hΦ3 (fun h8 => h9 (81 + 2 + m_1) h8 (show 74 ≤ (81 + 2 + m_1) ∧ (81 + 2 + m_1) < 95 by omega))).trans ((fset_fr hΦ2 (fun h8 => h9 (81 + 2 + m_1) h8 (show 74 ≤ (81 + 2 + m_1) ∧ (81 + 2 + m_1) < 95 by omega))).trans ((fset_fr hΦ1 (fun h8 => h9 (81 + 2 + m_1) h8 (show 74 ≤ (81 + 2 + m_1) ∧ (81 + 2 + m_1) < 95 by omega))).trans ((hF2 b9 (fun j9 h8 h7 => (show False from h7).elim)).trans ((hF1 b9 (fun j9 h8 h7 => (show False from h7).elim)).trans rfl))))))⟩
    · refine z_aload_n B dX2_addToFlow_43 rfl 1 rfl ?_
      have h_12 : Φ1 (x + 80) = some (o_ 4 [.ref (x + 3), .ref (x + 74), .ref (x + 81), .ref (x + 95), .int nw, .int rt, .int dw, .int aq, .int xp, .int xb, .long ob, .long sm, .long un]) := ((hF1 (x + 80) (fun j9 h8 h7 => (show False from h7).elim)).trans hc0)
      refine z_get (ref := "FlowExporter$Exporter") (C := RX2) (T := TX2) (N := 13) (ci := 4) (v := .ref (x + 81)) B hu_X2_addToFlow_X2 rfl 2 (Nat.le_of_ble_eq_true rfl) hv_X2_addToFlow_14 rfl h_12 rfl dX2_addToFlow_44 ?_
      refine z_lload_n B dX2_addToFlow_47 rfl 2 rfl ?_
      refine z_aload_n B dX2_addToFlow_48 rfl 1 rfl ?_
      refine z_get (ref := "FlowExporter$Exporter") (C := RX2) (T := TX2) (N := 13) (ci := 4) (v := .int nw) B hu_X2_addToFlow_X2 rfl 4 (Nat.le_of_ble_eq_true rfl) hv_X2_addToFlow_23 rfl h_12 rfl dX2_addToFlow_49 ?_
      have h_13 : Φ1 (x + 81) = some (o_ 6 [.ref (x + 82), .int (nI n_1)]) := ((hF1 (x + 81) (fun j9 h8 h7 => (show False from h7).elim)).trans h_2)
      refine z_callV (As := [.long a, .int nw]) (rest := []) B (s_X4_addFlow G l Φ1 sz x (ca) 81 a nw hx hI1 rfl) (cwV 2 B.1.2.2.2.2 gX2_addToFlow_X4_addFlow rfl rfl rfl (by decide +kernel) ⟨Nat.le_of_ble_eq_true rfl, Nat.le_of_ble_eq_true rfl⟩) h_13 rfl rfl rfl rfl (Nat.le_of_ble_eq_true rfl) dX2_addToFlow_52 ⟨Nat.le_of_ble_eq_true rfl, Nat.le_of_ble_eq_true rfl⟩ (fun r_3 Φ6 sz3 st3 hp3 hs3 => ?_)
      obtain ⟨⟨m_2, hm_2, rfl⟩, hq3, hI6, hF3⟩ := hp3
      subst sz3
      replace hs3 : st3 = [.ref (x + (81 + 2 + m_2))] := hs3
      subst st3
      replace hI6 : In G x (ca) Φ6 := hI6
      replace hm_2 : m_2 < 12 := hm_2
      refine z_goto (tgt := 67) B dX2_addToFlow_55 rfl ?_
      refine z_astore (lv' := [(5, .ref (x + (81 + 2 + m_2))), (4, .int v_1), (0, .ref (x + 80)), (1, .long a), (3, .int b)]) B dX2_addToFlow_67 (Nat.le_of_ble_eq_true rfl) rfl ?_
      refine z_aload B dX2_addToFlow_69 0 rfl ?_
      refine z_dup B dX2_addToFlow_71 rfl ?_
      obtain ⟨v_10, v_11, v_12, v_13, v_14, h_14⟩ := in19 (k := 81 + 2 + m_2) hI6 (kd_f (kd_r rfl) hm_2)
      have h_15 : Φ6 (x + (81 + 2 + m_2)) = some (o_ 5 [.long v_10, .long v_11, .long v_12, .int v_13, .int v_14]) := h_14
      refine z_get (ref := "FlowExporter$Flow") (C := RX3) (T := TX3) (N := 5) (ci := 5) (v := .long v_11) B hu_X2_addToFlow_X3 rfl 1 (Nat.le_of_ble_eq_true rfl) hv_X2_addToFlow_102 rfl h_15 rfl dX2_addToFlow_72 ?_
      refine z_lconst (v := 1) B dX2_addToFlow_75 rfl ?_
      refine z_ladd B dX2_addToFlow_76 ?_
      refine z_fl (fun v_15 => ?_)
      refine z_put (ref := "FlowExporter$Flow") (C := RX3) (T := TX3) (N := 5) (ci := 5) (v := .long v_15) B hu_X2_addToFlow_X3 tyX3 tyX3_ok nmX3 rfl 1 (Nat.le_of_ble_eq_true rfl) hv_X2_addToFlow_102 rfl (Or.inl rfl) h_15 (by omega) rfl rfl (Nat.le_of_ble_eq_true rfl) dX2_addToFlow_77 (fun Φ7 hΦ4 => ?_)
      have h_16 : Φ7 (x + (81 + 2 + m_2)) = some (o_ 5 [.long v_10, .long v_15, .long v_12, .int v_13, .int v_14]) := fset_at hΦ4
      have hI7 : In G x (ca) Φ7 := In.put (k := 81 + 2 + m_2) hI6 hΦ4 (ok19 (k := 81 + 2 + m_2) (kd_f (kd_r rfl) hm_2) ⟨v_10, v_15, v_12, v_13, v_14, rfl⟩)
      refine z_aload B dX2_addToFlow_80 0 rfl ?_
      refine z_dup B dX2_addToFlow_82 rfl ?_
      refine z_get (ref := "FlowExporter$Flow") (C := RX3) (T := TX3) (N := 5) (ci := 5) (v := .long v_12) B hu_X2_addToFlow_X3 rfl 2 (Nat.le_of_ble_eq_true rfl) hv_X2_addToFlow_107 rfl h_16 rfl dX2_addToFlow_83 ?_
      refine z_iload_n B dX2_addToFlow_86 rfl 4 rfl ?_
      refine z_i2l (v := b.toInt64) B dX2_addToFlow_87 rfl ?_
      refine z_fl (fun v_16 => ?_)
      refine z_ladd B dX2_addToFlow_88 ?_
      refine z_fl (fun v_17 => ?_)
      refine z_put (ref := "FlowExporter$Flow") (C := RX3) (T := TX3) (N := 5) (ci := 5) (v := .long v_17) B hu_X2_addToFlow_X3 tyX3 tyX3_ok nmX3 rfl 2 (Nat.le_of_ble_eq_true rfl) hv_X2_addToFlow_107 rfl (Or.inl rfl) h_16 (by omega) rfl rfl (Nat.le_of_ble_eq_true rfl) dX2_addToFlow_89 (fun Φ8 hΦ5 => ?_)
      have h_17 : Φ8 (x + (81 + 2 + m_2)) = some (o_ 5 [.long v_10, .long v_15, .long v_17, .int v_13, .int v_14]) := fset_at hΦ5
      have hI8 : In G x (ca) Φ8 := In.put (k := 81 + 2 + m_2) hI7 hΦ5 (ok19 (k := 81 + 2 + m_2) (kd_f (kd_r rfl) hm_2) ⟨v_10, v_15, v_17, v_13, v_14, rfl⟩)
      refine z_aload B dX2_addToFlow_92 0 rfl ?_
      refine z_aload_n B dX2_addToFlow_94 rfl 2 rfl ?_
      have h_18 : Φ8 (x + 80) = some (o_ 4 [.ref (x + 3), .ref (x + 74), .ref (x + 81), .ref (x + 95), .int nw, .int rt, .int dw, .int aq, .int xp, .int xb, .long ob, .long sm, .long un]) := ((fset_fr hΦ5 (by omega)).trans ((fset_fr hΦ4 (by omega)).trans ((hF3 (x + 80) fq_233).trans h_12)))
      refine z_get (ref := "FlowExporter$Exporter") (C := RX2) (T := TX2) (N := 13) (ci := 4) (v := .int nw) B hu_X2_addToFlow_X2 rfl 4 (Nat.le_of_ble_eq_true rfl) hv_X2_addToFlow_23 rfl h_18 rfl dX2_addToFlow_95 ?_
      refine z_put (ref := "FlowExporter$Flow") (C := RX3) (T := TX3) (N := 5) (ci := 5) (v := .int nw) B hu_X2_addToFlow_X3 tyX3 tyX3_ok nmX3 rfl 4 (Nat.le_of_ble_eq_true rfl) hv_X2_addToFlow_123 rfl (Or.inl rfl) h_17 (by omega) rfl rfl (Nat.le_of_ble_eq_true rfl) dX2_addToFlow_98 (fun Φ9 hΦ6 => ?_)
      have h_19 : Φ9 (x + (81 + 2 + m_2)) = some (o_ 5 [.long v_10, .long v_15, .long v_17, .int v_13, .int nw]) := fset_at hΦ6
      have hI9 : In G x (ca) Φ9 := In.put (k := 81 + 2 + m_2) hI8 hΦ6 (ok19 (k := 81 + 2 + m_2) (kd_f (kd_r rfl) hm_2) ⟨v_10, v_15, v_17, v_13, nw, rfl⟩)
      have h_20 : Φ9 (x + 80) = some (o_ 4 [.ref (x + 3), .ref (x + 74), .ref (x + 81), .ref (x + 95), .int nw, .int rt, .int dw, .int aq, .int xp, .int xb, .long ob, .long sm, .long un]) := ((fset_fr hΦ6 (by omega)).trans h_18)
      exact z_ret_v B dX2_addToFlow_101 ⟨⟨rfl, xp, un, h_20⟩, rfl, hI9, (fun b9 h9 => ((fset_fr hΦ6 (fun h8 => h9 (81 + 2 + m_2) h8 (show 74 ≤ (81 + 2 + m_2) ∧ (81 + 2 + m_2) < 95 by omega))).trans ((fset_fr hΦ5 (fun h8 => h9 (81 + 2 + m_2) h8 (show 74 ≤ (81 + 2 + m_2) ∧ (81 + 2 + m_2) < 95 by omega))).trans ((fset_fr hΦ4 (fun h8 => h9 (81 + 2 + m_2) h8 (show 74 ≤ (81 + 2 + m_2) ∧ (81 + 2 + m_2) < 95 by omega))).trans ((hF3 b9 (fun j9 h8 h7 => h9 j9 h8 (fq_234 j9 h7))).trans ((hF1 b9 (fun j9 h8 h7 => (show False from h7).elim)).trans rfl))))))⟩
  · refine z_aload_n B dX2_addToFlow_16 rfl 1 rfl ?_
    have h_21 : Φ1 (x + 80) = some (o_ 4 [.ref (x + 3), .ref (x + 74), .ref (x + 81), .ref (x + 95), .int nw, .int rt, .int dw, .int aq, .int xp, .int xb, .long ob, .long sm, .long un]) := ((hF1 (x + 80) (fun j9 h8 h7 => (show False from h7).elim)).trans hc0)
    refine z_get (ref := "FlowExporter$Exporter") (C := RX2) (T := TX2) (N := 13) (ci := 4) (v := .ref (x + 81)) B hu_X2_addToFlow_X2 rfl 2 (Nat.le_of_ble_eq_true rfl) hv_X2_addToFlow_14 rfl h_21 rfl dX2_addToFlow_17 ?_
    have h_22 : Φ1 (x + 81) = some (o_ 6 [.ref (x + 82), .int (nI n_1)]) := ((hF1 (x + 81) (fun j9 h8 h7 => (show False from h7).elim)).trans h_2)
    refine z_callV (As := []) (rest := []) B (s_X4_isFull G l Φ1 sz x (ca) 81 hx hI1 rfl) (cwV 0 B.1.2.2.2.2 gX2_addToFlow_X4_isFull rfl rfl rfl (by decide +kernel) ⟨Nat.le_of_ble_eq_true rfl, Nat.le_of_ble_eq_true rfl⟩) h_22 rfl rfl rfl rfl (Nat.le_of_ble_eq_true rfl) dX2_addToFlow_20 ⟨Nat.le_of_ble_eq_true rfl, Nat.le_of_ble_eq_true rfl⟩ (fun r_4 Φ10 sz4 st4 hp4 hs4 => ?_)
    obtain ⟨⟨v_18, rfl, b_2⟩, hq4, hI10, hF4⟩ := hp4
    subst sz4
    replace hs4 : st4 = [.int v_18] := hs4
    subst st4
    replace hI10 : In G x (ca) Φ10 := hI10
    refine z_if_eq (tgt := 37) B dX2_addToFlow_23 rfl (fun c_3 => ?_) (fun c_3 => ?_)
    · refine z_iload B dX2_addToFlow_37 0 rfl ?_
      refine z_iconst (v := (-1)) B dX2_addToFlow_39 rfl ?_
      refine z_icmp_ne (tgt := 58) B dX2_addToFlow_40 rfl (fun c_4 => ?_) (fun c_4 => ?_)
      · refine z_aload_n B dX2_addToFlow_58 rfl 1 rfl ?_
        have h_23 : Φ10 (x + 80) = some (o_ 4 [.ref (x + 3), .ref (x + 74), .ref (x + 81), .ref (x + 95), .int nw, .int rt, .int dw, .int aq, .int xp, .int xb, .long ob, .long sm, .long un]) := ((hF4 (x + 80) (fun j9 h8 h7 => (show False from h7).elim)).trans h_21)
        refine z_get (ref := "FlowExporter$Exporter") (C := RX2) (T := TX2) (N := 13) (ci := 4) (v := .ref (x + 81)) B hu_X2_addToFlow_X2 rfl 2 (Nat.le_of_ble_eq_true rfl) hv_X2_addToFlow_14 rfl h_23 rfl dX2_addToFlow_59 ?_
        refine z_iload B dX2_addToFlow_62 0 rfl ?_
        have h_24 : Φ10 (x + 81) = some (o_ 6 [.ref (x + 82), .int (nI n_1)]) := ((hF4 (x + 81) (fun j9 h8 h7 => (show False from h7).elim)).trans h_22)
        refine z_callV (As := [.int v_1]) (rest := []) B (s_X4_flowAt G l Φ10 sz x (ca) 81 v_1 hx hI10 rfl) (cwV 1 B.1.2.2.2.2 gX2_addToFlow_X4_flowAt rfl rfl rfl (by decide +kernel) ⟨Nat.le_of_ble_eq_true rfl, Nat.le_of_ble_eq_true rfl⟩) h_24 rfl rfl rfl rfl (Nat.le_of_ble_eq_true rfl) dX2_addToFlow_64 ⟨Nat.le_of_ble_eq_true rfl, Nat.le_of_ble_eq_true rfl⟩ (fun r_5 Φ11 sz5 st5 hp5 hs5 => ?_)
        obtain ⟨⟨m_3, hm_3, rfl⟩, hq5, hI11, hF5⟩ := hp5
        subst sz5
        replace hs5 : st5 = [.ref (x + (81 + 2 + m_3))] := hs5
        subst st5
        replace hI11 : In G x (ca) Φ11 := hI11
        replace hm_3 : m_3 < 12 := hm_3
        refine z_astore (lv' := [(5, .ref (x + (81 + 2 + m_3))), (4, .int v_1), (0, .ref (x + 80)), (1, .long a), (3, .int b)]) B dX2_addToFlow_67 (Nat.le_of_ble_eq_true rfl) rfl ?_
        refine z_aload B dX2_addToFlow_69 0 rfl ?_
        refine z_dup B dX2_addToFlow_71 rfl ?_
        obtain ⟨v_19, v_20, v_21, v_22, v_23, h_25⟩ := in19 (k := 81 + 2 + m_3) hI11 (kd_f (kd_r rfl) hm_3)
        have h_26 : Φ11 (x + (81 + 2 + m_3)) = some (o_ 5 [.long v_19, .long v_20, .long v_21, .int v_22, .int v_23]) := h_25
        refine z_get (ref := "FlowExporter$Flow") (C := RX3) (T := TX3) (N := 5) (ci := 5) (v := .long v_20) B hu_X2_addToFlow_X3 rfl 1 (Nat.le_of_ble_eq_true rfl) hv_X2_addToFlow_102 rfl h_26 rfl dX2_addToFlow_72 ?_
        refine z_lconst (v := 1) B dX2_addToFlow_75 rfl ?_
        refine z_ladd B dX2_addToFlow_76 ?_
        refine z_fl (fun v_24 => ?_)
        refine z_put (ref := "FlowExporter$Flow") (C := RX3) (T := TX3) (N := 5) (ci := 5) (v := .long v_24) B hu_X2_addToFlow_X3 tyX3 tyX3_ok nmX3 rfl 1 (Nat.le_of_ble_eq_true rfl) hv_X2_addToFlow_102 rfl (Or.inl rfl) h_26 (by omega) rfl rfl (Nat.le_of_ble_eq_true rfl) dX2_addToFlow_77 (fun Φ12 hΦ7 => ?_)
        have h_27 : Φ12 (x + (81 + 2 + m_3)) = some (o_ 5 [.long v_19, .long v_24, .long v_21, .int v_22, .int v_23]) := fset_at hΦ7
        have hI12 : In G x (ca) Φ12 := In.put (k := 81 + 2 + m_3) hI11 hΦ7 (ok19 (k := 81 + 2 + m_3) (kd_f (kd_r rfl) hm_3) ⟨v_19, v_24, v_21, v_22, v_23, rfl⟩)
        refine z_aload B dX2_addToFlow_80 0 rfl ?_
        refine z_dup B dX2_addToFlow_82 rfl ?_
        refine z_get (ref := "FlowExporter$Flow") (C := RX3) (T := TX3) (N := 5) (ci := 5) (v := .long v_21) B hu_X2_addToFlow_X3 rfl 2 (Nat.le_of_ble_eq_true rfl) hv_X2_addToFlow_107 rfl h_27 rfl dX2_addToFlow_83 ?_
        refine z_iload_n B dX2_addToFlow_86 rfl 4 rfl ?_
        refine z_i2l (v := b.toInt64) B dX2_addToFlow_87 rfl ?_
        refine z_fl (fun v_25 => ?_)
        refine z_ladd B dX2_addToFlow_88 ?_
        refine z_fl (fun v_26 => ?_)
        refine z_put (ref := "FlowExporter$Flow") (C := RX3) (T := TX3) (N := 5) (ci := 5) (v := .long v_26) B hu_X2_addToFlow_X3 tyX3 tyX3_ok nmX3 rfl 2 (Nat.le_of_ble_eq_true rfl) hv_X2_addToFlow_107 rfl (Or.inl rfl) h_27 (by omega) rfl rfl (Nat.le_of_ble_eq_true rfl) dX2_addToFlow_89 (fun Φ13 hΦ8 => ?_)
        have h_28 : Φ13 (x + (81 + 2 + m_3)) = some (o_ 5 [.long v_19, .long v_24, .long v_26, .int v_22, .int v_23]) := fset_at hΦ8
        have hI13 : In G x (ca) Φ13 := In.put (k := 81 + 2 + m_3) hI12 hΦ8 (ok19 (k := 81 + 2 + m_3) (kd_f (kd_r rfl) hm_3) ⟨v_19, v_24, v_26, v_22, v_23, rfl⟩)
        refine z_aload B dX2_addToFlow_92 0 rfl ?_
        refine z_aload_n B dX2_addToFlow_94 rfl 2 rfl ?_
        have h_29 : Φ13 (x + 80) = some (o_ 4 [.ref (x + 3), .ref (x + 74), .ref (x + 81), .ref (x + 95), .int nw, .int rt, .int dw, .int aq, .int xp, .int xb, .long ob, .long sm, .long un]) := ((fset_fr hΦ8 (by omega)).trans ((fset_fr hΦ7 (by omega)).trans ((hF5 (x + 80) (fun j9 h8 h7 => (show False from h7).elim)).trans h_23)))
        refine z_get (ref := "FlowExporter$Exporter") (C := RX2) (T := TX2) (N := 13) (ci := 4) (v := .int nw) B hu_X2_addToFlow_X2 rfl 4 (Nat.le_of_ble_eq_true rfl) hv_X2_addToFlow_23 rfl h_29 rfl dX2_addToFlow_95 ?_
        refine z_put (ref := "FlowExporter$Flow") (C := RX3) (T := TX3) (N := 5) (ci := 5) (v := .int nw) B hu_X2_addToFlow_X3 tyX3 tyX3_ok nmX3 rfl 4 (Nat.le_of_ble_eq_true rfl) hv_X2_addToFlow_123 rfl (Or.inl rfl) h_28 (by omega) rfl rfl (Nat.le_of_ble_eq_true rfl) dX2_addToFlow_98 (fun Φ14 hΦ9 => ?_)
        have h_30 : Φ14 (x + (81 + 2 + m_3)) = some (o_ 5 [.long v_19, .long v_24, .long v_26, .int v_22, .int nw]) := fset_at hΦ9
        have hI14 : In G x (ca) Φ14 := In.put (k := 81 + 2 + m_3) hI13 hΦ9 (ok19 (k := 81 + 2 + m_3) (kd_f (kd_r rfl) hm_3) ⟨v_19, v_24, v_26, v_22, nw, rfl⟩)
        have h_31 : Φ14 (x + 80) = some (o_ 4 [.ref (x + 3), .ref (x + 74), .ref (x + 81), .ref (x + 95), .int nw, .int rt, .int dw, .int aq, .int xp, .int xb, .long ob, .long sm, .long un]) := ((fset_fr hΦ9 (by omega)).trans h_29)
        exact z_ret_v B dX2_addToFlow_101 ⟨⟨rfl, xp, un, h_31⟩, rfl, hI14, (fun b9 h9 => ((fset_fr hΦ9 (fun h8 => h9 (81 + 2 + m_3) h8 (show 74 ≤ (81 + 2 + m_3) ∧ (81 + 2 + m_3) < 95 by omega))).trans ((fset_fr hΦ8 (fun h8 => h9 (81 + 2 + m_3) h8 (show 74 ≤ (81 + 2 + m_3) ∧ (81 + 2 + m_3) < 95 by omega))).trans ((fset_fr hΦ7 (fun h8 => h9 (81 + 2 + m_3) h8 (show 74 ≤ (81 + 2 + m_3) ∧ (81 + 2 + m_3) < 95 by omega))).trans ((hF5 b9 (fun j9 h8 h7 => (show False from h7).elim)).trans ((hF4 b9 (fun j9 h8 h7 => (show False from h7).elim)).trans ((hF1 b9 (fun j9 h8 h7 => (show False from h7).elim)).trans rfl)))))))⟩
      · refine z_aload_n B dX2_addToFlow_43 rfl 1 rfl ?_
        have h_32 : Φ10 (x + 80) = some (o_ 4 [.ref (x + 3), .ref (x + 74), .ref (x + 81), .ref (x + 95), .int nw, .int rt, .int dw, .int aq, .int xp, .int xb, .long ob, .long sm, .long un]) := ((hF4 (x + 80) (fun j9 h8 h7 => (show False from h7).elim)).trans h_21)
        refine z_get (ref := "FlowExporter$Exporter") (C := RX2) (T := TX2) (N := 13) (ci := 4) (v := .ref (x + 81)) B hu_X2_addToFlow_X2 rfl 2 (Nat.le_of_ble_eq_true rfl) hv_X2_addToFlow_14 rfl h_32 rfl dX2_addToFlow_44 ?_
        refine z_lload_n B dX2_addToFlow_47 rfl 2 rfl ?_
        refine z_aload_n B dX2_addToFlow_48 rfl 1 rfl ?_
        refine z_get (ref := "FlowExporter$Exporter") (C := RX2) (T := TX2) (N := 13) (ci := 4) (v := .int nw) B hu_X2_addToFlow_X2 rfl 4 (Nat.le_of_ble_eq_true rfl) hv_X2_addToFlow_23 rfl h_32 rfl dX2_addToFlow_49 ?_
        have h_33 : Φ10 (x + 81) = some (o_ 6 [.ref (x + 82), .int (nI n_1)]) := ((hF4 (x + 81) (fun j9 h8 h7 => (show False from h7).elim)).trans h_22)
        refine z_callV (As := [.long a, .int nw]) (rest := []) B (s_X4_addFlow G l Φ10 sz x (ca) 81 a nw hx hI10 rfl) (cwV 2 B.1.2.2.2.2 gX2_addToFlow_X4_addFlow rfl rfl rfl (by decide +kernel) ⟨Nat.le_of_ble_eq_true rfl, Nat.le_of_ble_eq_true rfl⟩) h_33 rfl rfl rfl rfl (Nat.le_of_ble_eq_true rfl) dX2_addToFlow_52 ⟨Nat.le_of_ble_eq_true rfl, Nat.le_of_ble_eq_true rfl⟩ (fun r_6 Φ15 sz6 st6 hp6 hs6 => ?_)
        obtain ⟨⟨m_4, hm_4, rfl⟩, hq6, hI15, hF6⟩ := hp6
        subst sz6
        replace hs6 : st6 = [.ref (x + (81 + 2 + m_4))] := hs6
        subst st6
        replace hI15 : In G x (ca) Φ15 := hI15
        replace hm_4 : m_4 < 12 := hm_4
        refine z_goto (tgt := 67) B dX2_addToFlow_55 rfl ?_
        refine z_astore (lv' := [(5, .ref (x + (81 + 2 + m_4))), (4, .int v_1), (0, .ref (x + 80)), (1, .long a), (3, .int b)]) B dX2_addToFlow_67 (Nat.le_of_ble_eq_true rfl) rfl ?_
        refine z_aload B dX2_addToFlow_69 0 rfl ?_
        refine z_dup B dX2_addToFlow_71 rfl ?_
        obtain ⟨v_27, v_28, v_29, v_30, v_31, h_34⟩ := in19 (k := 81 + 2 + m_4) hI15 (kd_f (kd_r rfl) hm_4)
        have h_35 : Φ15 (x + (81 + 2 + m_4)) = some (o_ 5 [.long v_27, .long v_28, .long v_29, .int v_30, .int v_31]) := h_34
        refine z_get (ref := "FlowExporter$Flow") (C := RX3) (T := TX3) (N := 5) (ci := 5) (v := .long v_28) B hu_X2_addToFlow_X3 rfl 1 (Nat.le_of_ble_eq_true rfl) hv_X2_addToFlow_102 rfl h_35 rfl dX2_addToFlow_72 ?_
        refine z_lconst (v := 1) B dX2_addToFlow_75 rfl ?_
        refine z_ladd B dX2_addToFlow_76 ?_
        refine z_fl (fun v_32 => ?_)
        refine z_put (ref := "FlowExporter$Flow") (C := RX3) (T := TX3) (N := 5) (ci := 5) (v := .long v_32) B hu_X2_addToFlow_X3 tyX3 tyX3_ok nmX3 rfl 1 (Nat.le_of_ble_eq_true rfl) hv_X2_addToFlow_102 rfl (Or.inl rfl) h_35 (by omega) rfl rfl (Nat.le_of_ble_eq_true rfl) dX2_addToFlow_77 (fun Φ16 hΦ10 => ?_)
        have h_36 : Φ16 (x + (81 + 2 + m_4)) = some (o_ 5 [.long v_27, .long v_32, .long v_29, .int v_30, .int v_31]) := fset_at hΦ10
        have hI16 : In G x (ca) Φ16 := In.put (k := 81 + 2 + m_4) hI15 hΦ10 (ok19 (k := 81 + 2 + m_4) (kd_f (kd_r rfl) hm_4) ⟨v_27, v_32, v_29, v_30, v_31, rfl⟩)
        refine z_aload B dX2_addToFlow_80 0 rfl ?_
        refine z_dup B dX2_addToFlow_82 rfl ?_
        refine z_get (ref := "FlowExporter$Flow") (C := RX3) (T := TX3) (N := 5) (ci := 5) (v := .long v_29) B hu_X2_addToFlow_X3 rfl 2 (Nat.le_of_ble_eq_true rfl) hv_X2_addToFlow_107 rfl h_36 rfl dX2_addToFlow_83 ?_
        refine z_iload_n B dX2_addToFlow_86 rfl 4 rfl ?_
        refine z_i2l (v := b.toInt64) B dX2_addToFlow_87 rfl ?_
        refine z_fl (fun v_33 => ?_)
        refine z_ladd B dX2_addToFlow_88 ?_
        refine z_fl (fun v_34 => ?_)
        refine z_put (ref := "FlowExporter$Flow") (C := RX3) (T := TX3) (N := 5) (ci := 5) (v := .long v_34) B hu_X2_addToFlow_X3 tyX3 tyX3_ok nmX3 rfl 2 (Nat.le_of_ble_eq_true rfl) hv_X2_addToFlow_107 rfl (Or.inl rfl) h_36 (by omega) rfl rfl (Nat.le_of_ble_eq_true rfl) dX2_addToFlow_89 (fun Φ17 hΦ11 => ?_)
        have h_37 : Φ17 (x + (81 + 2 + m_4)) = some (o_ 5 [.long v_27, .long v_32, .long v_34, .int v_30, .int v_31]) := fset_at hΦ11
        have hI17 : In G x (ca) Φ17 := In.put (k := 81 + 2 + m_4) hI16 hΦ11 (ok19 (k := 81 + 2 + m_4) (kd_f (kd_r rfl) hm_4) ⟨v_27, v_32, v_34, v_30, v_31, rfl⟩)
        refine z_aload B dX2_addToFlow_92 0 rfl ?_
        refine z_aload_n B dX2_addToFlow_94 rfl 2 rfl ?_
        have h_38 : Φ17 (x + 80) = some (o_ 4 [.ref (x + 3), .ref (x + 74), .ref (x + 81), .ref (x + 95), .int nw, .int rt, .int dw, .int aq, .int xp, .int xb, .long ob, .long sm, .long un]) := ((fset_fr hΦ11 (by omega)).trans ((fset_fr hΦ10 (by omega)).trans ((hF6 (x + 80) fq_233).trans h_32)))
        refine z_get (ref := "FlowExporter$Exporter") (C := RX2) (T := TX2) (N := 13) (ci := 4) (v := .int nw) B hu_X2_addToFlow_X2 rfl 4 (Nat.le_of_ble_eq_true rfl) hv_X2_addToFlow_23 rfl h_38 rfl dX2_addToFlow_95 ?_
        refine z_put (ref := "FlowExporter$Flow") (C := RX3) (T := TX3) (N := 5) (ci := 5) (v := .int nw) B hu_X2_addToFlow_X3 tyX3 tyX3_ok nmX3 rfl 4 (Nat.le_of_ble_eq_true rfl) hv_X2_addToFlow_123 rfl (Or.inl rfl) h_37 (by omega) rfl rfl (Nat.le_of_ble_eq_true rfl) dX2_addToFlow_98 (fun Φ18 hΦ12 => ?_)
        have h_39 : Φ18 (x + (81 + 2 + m_4)) = some (o_ 5 [.long v_27, .long v_32, .long v_34, .int v_30, .int nw]) := fset_at hΦ12
        have hI18 : In G x (ca) Φ18 := In.put (k := 81 + 2 + m_4) hI17 hΦ12 (ok19 (k := 81 + 2 + m_4) (kd_f (kd_r rfl) hm_4) ⟨v_27, v_32, v_34, v_30, nw, rfl⟩)
        have h_40 : Φ18 (x + 80) = some (o_ 4 [.ref (x + 3), .ref (x + 74), .ref (x + 81), .ref (x + 95), .int nw, .int rt, .int dw, .int aq, .int xp, .int xb, .long ob, .long sm, .long un]) := ((fset_fr hΦ12 (by omega)).trans h_38)
        exact z_ret_v B dX2_addToFlow_101 ⟨⟨rfl, xp, un, h_40⟩, rfl, hI18, (fun b9 h9 => ((fset_fr hΦ12 (fun h8 => h9 (81 + 2 + m_4) h8 (show 74 ≤ (81 + 2 + m_4) ∧ (81 + 2 + m_4) < 95 by omega))).trans ((fset_fr hΦ11 (fun h8 => h9 (81 + 2 + m_4) h8 (show 74 ≤ (81 + 2 + m_4) ∧ (81 + 2 + m_4) < 95 by omega))).trans ((fset_fr hΦ10 (fun h8 => h9 (81 + 2 + m_4) h8 (show 74 ≤ (81 + 2 + m_4) ∧ (81 + 2 + m_4) < 95 by omega))).trans ((hF6 b9 (fun j9 h8 h7 => h9 j9 h8 (fq_234 j9 h7))).trans ((hF4 b9 (fun j9 h8 h7 => (show False from h7).elim)).trans ((hF1 b9 (fun j9 h8 h7 => (show False from h7).elim)).trans rfl)))))))⟩
    · refine z_aload_n B dX2_addToFlow_26 rfl 1 rfl ?_
      refine z_aload_n B dX2_addToFlow_27 rfl 1 rfl ?_
      have h_41 : Φ10 (x + 80) = some (o_ 4 [.ref (x + 3), .ref (x + 74), .ref (x + 81), .ref (x + 95), .int nw, .int rt, .int dw, .int aq, .int xp, .int xb, .long ob, .long sm, .long un]) := ((hF4 (x + 80) (fun j9 h8 h7 => (show False from h7).elim)).trans h_21)
      refine z_get (ref := "FlowExporter$Exporter") (C := RX2) (T := TX2) (N := 13) (ci := 4) (v := .ref (x + 81)) B hu_X2_addToFlow_X2 rfl 2 (Nat.le_of_ble_eq_true rfl) hv_X2_addToFlow_14 rfl h_41 rfl dX2_addToFlow_28 ?_
      have h_42 : Φ10 (x + 81) = some (o_ 6 [.ref (x + 82), .int (nI n_1)]) := ((hF4 (x + 81) (fun j9 h8 h7 => (show False from h7).elim)).trans h_22)
      refine z_callV (As := []) (rest := [.ref (x + 80)]) B (s_X4_indexOfEarliestLast G l Φ10 sz x (ca) 81 hx hI10 rfl) (cwV 0 B.1.2.2.2.2 gX2_addToFlow_X4_indexOfEarliestLast rfl rfl rfl (by decide +kernel) ⟨Nat.le_of_ble_eq_true rfl, Nat.le_of_ble_eq_true rfl⟩) h_42 rfl rfl rfl rfl (Nat.le_of_ble_eq_true rfl) dX2_addToFlow_31 ⟨Nat.le_of_ble_eq_true rfl, Nat.le_of_ble_eq_true rfl⟩ (fun r_7 Φ19 sz7 st7 hp7 hs7 => ?_)
      obtain ⟨⟨v_35, rfl⟩, hq7, hI19, hF7⟩ := hp7
      subst sz7
      replace hs7 : st7 = [.int v_35, .ref (x + 80)] := hs7
      subst st7
      replace hI19 : In G x (ca) Φ19 := hI19
      have h_43 : Φ19 (x + 80) = some (o_ 4 [.ref (x + 3), .ref (x + 74), .ref (x + 81), .ref (x + 95), .int nw, .int rt, .int dw, .int aq, .int xp, .int xb, .long ob, .long sm, .long un]) := ((hF7 (x + 80) (fun j9 h8 h7 => (show False from h7).elim)).trans h_41)
      refine z_callV (As := [.int v_35]) (rest := []) B (s_X2_exportAt G l Φ19 sz x (ca) nw rt dw aq xp xb ob sm un v_35 hx hI19 h_43 had) (cwV 1 B.1.2.2.2.2 gX2_addToFlow_X2_exportAt rfl rfl rfl (by decide +kernel) ⟨Nat.le_of_ble_eq_true rfl, Nat.le_of_ble_eq_true rfl⟩) h_43 rfl rfl rfl rfl (Nat.le_of_ble_eq_true rfl) dX2_addToFlow_34 ⟨Nat.le_of_ble_eq_true rfl, Nat.le_of_ble_eq_true rfl⟩ (fun r_8 Φ20 sz8 st8 hp8 hs8 => ?_)
      obtain ⟨⟨rfl, v_36, v_37, h_44⟩, hq8, hI20, hF8⟩ := hp8
      subst sz8
      replace hs8 : st8 = [] := hs8
      subst st8
      replace hI20 : In G x (ca) Φ20 := hI20
      refine z_iload B dX2_addToFlow_37 0 rfl ?_
      refine z_iconst (v := (-1)) B dX2_addToFlow_39 rfl ?_
      refine z_icmp_ne (tgt := 58) B dX2_addToFlow_40 rfl (fun c_5 => ?_) (fun c_5 => ?_)
      · refine z_aload_n B dX2_addToFlow_58 rfl 1 rfl ?_
        refine z_get (ref := "FlowExporter$Exporter") (C := RX2) (T := TX2) (N := 13) (ci := 4) (v := .ref (x + 81)) B hu_X2_addToFlow_X2 rfl 2 (Nat.le_of_ble_eq_true rfl) hv_X2_addToFlow_14 rfl h_44 rfl dX2_addToFlow_59 ?_
        refine z_iload B dX2_addToFlow_62 0 rfl ?_
        obtain ⟨n_2, h_45, b_3⟩ := in17 (k := 81) hI20 rfl
        replace b_3 : n_2 ≤ 12 := b_3
        have h_46 : Φ20 (x + 81) = some (o_ 6 [.ref (x + 82), .int (nI n_2)]) := h_45
        refine z_callV (As := [.int v_1]) (rest := []) B (s_X4_flowAt G l Φ20 sz x (ca) 81 v_1 hx hI20 rfl) (cwV 1 B.1.2.2.2.2 gX2_addToFlow_X4_flowAt rfl rfl rfl (by decide +kernel) ⟨Nat.le_of_ble_eq_true rfl, Nat.le_of_ble_eq_true rfl⟩) h_46 rfl rfl rfl rfl (Nat.le_of_ble_eq_true rfl) dX2_addToFlow_64 ⟨Nat.le_of_ble_eq_true rfl, Nat.le_of_ble_eq_true rfl⟩ (fun r_9 Φ21 sz9 st9 hp9 hs9 => ?_)
        obtain ⟨⟨m_5, hm_5, rfl⟩, hq9, hI21, hF9⟩ := hp9
        subst sz9
        replace hs9 : st9 = [.ref (x + (81 + 2 + m_5))] := hs9
        subst st9
        replace hI21 : In G x (ca) Φ21 := hI21
        replace hm_5 : m_5 < 12 := hm_5
        refine z_astore (lv' := [(5, .ref (x + (81 + 2 + m_5))), (4, .int v_1), (0, .ref (x + 80)), (1, .long a), (3, .int b)]) B dX2_addToFlow_67 (Nat.le_of_ble_eq_true rfl) rfl ?_
        refine z_aload B dX2_addToFlow_69 0 rfl ?_
        refine z_dup B dX2_addToFlow_71 rfl ?_
        obtain ⟨v_38, v_39, v_40, v_41, v_42, h_47⟩ := in19 (k := 81 + 2 + m_5) hI21 (kd_f (kd_r rfl) hm_5)
        have h_48 : Φ21 (x + (81 + 2 + m_5)) = some (o_ 5 [.long v_38, .long v_39, .long v_40, .int v_41, .int v_42]) := h_47
        refine z_get (ref := "FlowExporter$Flow") (C := RX3) (T := TX3) (N := 5) (ci := 5) (v := .long v_39) B hu_X2_addToFlow_X3 rfl 1 (Nat.le_of_ble_eq_true rfl) hv_X2_addToFlow_102 rfl h_48 rfl dX2_addToFlow_72 ?_
        refine z_lconst (v := 1) B dX2_addToFlow_75 rfl ?_
        refine z_ladd B dX2_addToFlow_76 ?_
        refine z_fl (fun v_43 => ?_)
        refine z_put (ref := "FlowExporter$Flow") (C := RX3) (T := TX3) (N := 5) (ci := 5) (v := .long v_43) B hu_X2_addToFlow_X3 tyX3 tyX3_ok nmX3 rfl 1 (Nat.le_of_ble_eq_true rfl) hv_X2_addToFlow_102 rfl (Or.inl rfl) h_48 (by omega) rfl rfl (Nat.le_of_ble_eq_true rfl) dX2_addToFlow_77 (fun Φ22 hΦ13 => ?_)
        have h_49 : Φ22 (x + (81 + 2 + m_5)) = some (o_ 5 [.long v_38, .long v_43, .long v_40, .int v_41, .int v_42]) := fset_at hΦ13
        have hI22 : In G x (ca) Φ22 := In.put (k := 81 + 2 + m_5) hI21 hΦ13 (ok19 (k := 81 + 2 + m_5) (kd_f (kd_r rfl) hm_5) ⟨v_38, v_43, v_40, v_41, v_42, rfl⟩)
        refine z_aload B dX2_addToFlow_80 0 rfl ?_
        refine z_dup B dX2_addToFlow_82 rfl ?_
        refine z_get (ref := "FlowExporter$Flow") (C := RX3) (T := TX3) (N := 5) (ci := 5) (v := .long v_40) B hu_X2_addToFlow_X3 rfl 2 (Nat.le_of_ble_eq_true rfl) hv_X2_addToFlow_107 rfl h_49 rfl dX2_addToFlow_83 ?_
        refine z_iload_n B dX2_addToFlow_86 rfl 4 rfl ?_
        refine z_i2l (v := b.toInt64) B dX2_addToFlow_87 rfl ?_
        refine z_fl (fun v_44 => ?_)
        refine z_ladd B dX2_addToFlow_88 ?_
        refine z_fl (fun v_45 => ?_)
        refine z_put (ref := "FlowExporter$Flow") (C := RX3) (T := TX3) (N := 5) (ci := 5) (v := .long v_45) B hu_X2_addToFlow_X3 tyX3 tyX3_ok nmX3 rfl 2 (Nat.le_of_ble_eq_true rfl) hv_X2_addToFlow_107 rfl (Or.inl rfl) h_49 (by omega) rfl rfl (Nat.le_of_ble_eq_true rfl) dX2_addToFlow_89 (fun Φ23 hΦ14 => ?_)
        have h_50 : Φ23 (x + (81 + 2 + m_5)) = some (o_ 5 [.long v_38, .long v_43, .long v_45, .int v_41, .int v_42]) := fset_at hΦ14
        have hI23 : In G x (ca) Φ23 := In.put (k := 81 + 2 + m_5) hI22 hΦ14 (ok19 (k := 81 + 2 + m_5) (kd_f (kd_r rfl) hm_5) ⟨v_38, v_43, v_45, v_41, v_42, rfl⟩)
        refine z_aload B dX2_addToFlow_92 0 rfl ?_
        refine z_aload_n B dX2_addToFlow_94 rfl 2 rfl ?_
        have h_51 : Φ23 (x + 80) = some (o_ 4 [.ref (x + 3), .ref (x + 74), .ref (x + 81), .ref (x + 95), .int nw, .int rt, .int dw, .int aq, .int v_36, .int xb, .long ob, .long sm, .long v_37]) := ((fset_fr hΦ14 (by omega)).trans ((fset_fr hΦ13 (by omega)).trans ((hF9 (x + 80) (fun j9 h8 h7 => (show False from h7).elim)).trans h_44)))
        refine z_get (ref := "FlowExporter$Exporter") (C := RX2) (T := TX2) (N := 13) (ci := 4) (v := .int nw) B hu_X2_addToFlow_X2 rfl 4 (Nat.le_of_ble_eq_true rfl) hv_X2_addToFlow_23 rfl h_51 rfl dX2_addToFlow_95 ?_
        refine z_put (ref := "FlowExporter$Flow") (C := RX3) (T := TX3) (N := 5) (ci := 5) (v := .int nw) B hu_X2_addToFlow_X3 tyX3 tyX3_ok nmX3 rfl 4 (Nat.le_of_ble_eq_true rfl) hv_X2_addToFlow_123 rfl (Or.inl rfl) h_50 (by omega) rfl rfl (Nat.le_of_ble_eq_true rfl) dX2_addToFlow_98 (fun Φ24 hΦ15 => ?_)
        have h_52 : Φ24 (x + (81 + 2 + m_5)) = some (o_ 5 [.long v_38, .long v_43, .long v_45, .int v_41, .int nw]) := fset_at hΦ15
        have hI24 : In G x (ca) Φ24 := In.put (k := 81 + 2 + m_5) hI23 hΦ15 (ok19 (k := 81 + 2 + m_5) (kd_f (kd_r rfl) hm_5) ⟨v_38, v_43, v_45, v_41, nw, rfl⟩)
        have h_53 : Φ24 (x + 80) = some (o_ 4 [.ref (x + 3), .ref (x + 74), .ref (x + 81), .ref (x + 95), .int nw, .int rt, .int dw, .int aq, .int v_36, .int xb, .long ob, .long sm, .long v_37]) := ((fset_fr hΦ15 (by omega)).trans h_51)
        exact z_ret_v B dX2_addToFlow_101 ⟨⟨rfl, v_36, v_37, h_53⟩, rfl, hI24, (fun b9 h9 => ((fset_fr hΦ15 (fun h8 => h9 (81 + 2 + m_5) h8 (show 74 ≤ (81 + 2 + m_5) ∧ (81 + 2 + m_5) < 95 by omega))).trans ((fset_fr hΦ14 (fun h8 => h9 (81 + 2 + m_5) h8 (show 74 ≤ (81 + 2 + m_5) ∧ (81 + 2 + m_5) < 95 by omega))).trans ((fset_fr hΦ13 (fun h8 => h9 (81 + 2 + m_5) h8 (show 74 ≤ (81 + 2 + m_5) ∧ (81 + 2 + m_5) < 95 by omega))).trans ((hF9 b9 (fun j9 h8 h7 => (show False from h7).elim)).trans ((hF8 b9 h9).trans ((hF7 b9 (fun j9 h8 h7 => (show False from h7).elim)).trans ((hF4 b9 (fun j9 h8 h7 => (show False from h7).elim)).trans ((hF1 b9 (fun j9 h8 h7 => (show False from h7).elim)).trans rfl)))))))))⟩
      · refine z_aload_n B dX2_addToFlow_43 rfl 1 rfl ?_
        refine z_get (ref := "FlowExporter$Exporter") (C := RX2) (T := TX2) (N := 13) (ci := 4) (v := .ref (x + 81)) B hu_X2_addToFlow_X2 rfl 2 (Nat.le_of_ble_eq_true rfl) hv_X2_addToFlow_14 rfl h_44 rfl dX2_addToFlow_44 ?_
        refine z_lload_n B dX2_addToFlow_47 rfl 2 rfl ?_
        refine z_aload_n B dX2_addToFlow_48 rfl 1 rfl ?_
        refine z_get (ref := "FlowExporter$Exporter") (C := RX2) (T := TX2) (N := 13) (ci := 4) (v := .int nw) B hu_X2_addToFlow_X2 rfl 4 (Nat.le_of_ble_eq_true rfl) hv_X2_addToFlow_23 rfl h_44 rfl dX2_addToFlow_49 ?_
        obtain ⟨n_3, h_54, b_4⟩ := in17 (k := 81) hI20 rfl
        replace b_4 : n_3 ≤ 12 := b_4
        have h_55 : Φ20 (x + 81) = some (o_ 6 [.ref (x + 82), .int (nI n_3)]) := h_54
        refine z_callV (As := [.long a, .int nw]) (rest := []) B (s_X4_addFlow G l Φ20 sz x (ca) 81 a nw hx hI20 rfl) (cwV 2 B.1.2.2.2.2 gX2_addToFlow_X4_addFlow rfl rfl rfl (by decide +kernel) ⟨Nat.le_of_ble_eq_true rfl, Nat.le_of_ble_eq_true rfl⟩) h_55 rfl rfl rfl rfl (Nat.le_of_ble_eq_true rfl) dX2_addToFlow_52 ⟨Nat.le_of_ble_eq_true rfl, Nat.le_of_ble_eq_true rfl⟩ (fun r_10 Φ25 sz10 st10 hp10 hs10 => ?_)
        obtain ⟨⟨m_6, hm_6, rfl⟩, hq10, hI25, hF10⟩ := hp10
        subst sz10
        replace hs10 : st10 = [.ref (x + (81 + 2 + m_6))] := hs10
        subst st10
        replace hI25 : In G x (ca) Φ25 := hI25
        replace hm_6 : m_6 < 12 := hm_6
        refine z_goto (tgt := 67) B dX2_addToFlow_55 rfl ?_
        refine z_astore (lv' := [(5, .ref (x + (81 + 2 + m_6))), (4, .int v_1), (0, .ref (x + 80)), (1, .long a), (3, .int b)]) B dX2_addToFlow_67 (Nat.le_of_ble_eq_true rfl) rfl ?_
        refine z_aload B dX2_addToFlow_69 0 rfl ?_
        refine z_dup B dX2_addToFlow_71 rfl ?_
        obtain ⟨v_46, v_47, v_48, v_49, v_50, h_56⟩ := in19 (k := 81 + 2 + m_6) hI25 (kd_f (kd_r rfl) hm_6)
        have h_57 : Φ25 (x + (81 + 2 + m_6)) = some (o_ 5 [.long v_46, .long v_47, .long v_48, .int v_49, .int v_50]) := h_56
        refine z_get (ref := "FlowExporter$Flow") (C := RX3) (T := TX3) (N := 5) (ci := 5) (v := .long v_47) B hu_X2_addToFlow_X3 rfl 1 (Nat.le_of_ble_eq_true rfl) hv_X2_addToFlow_102 rfl h_57 rfl dX2_addToFlow_72 ?_
        refine z_lconst (v := 1) B dX2_addToFlow_75 rfl ?_
        refine z_ladd B dX2_addToFlow_76 ?_
        refine z_fl (fun v_51 => ?_)
        refine z_put (ref := "FlowExporter$Flow") (C := RX3) (T := TX3) (N := 5) (ci := 5) (v := .long v_51) B hu_X2_addToFlow_X3 tyX3 tyX3_ok nmX3 rfl 1 (Nat.le_of_ble_eq_true rfl) hv_X2_addToFlow_102 rfl (Or.inl rfl) h_57 (by omega) rfl rfl (Nat.le_of_ble_eq_true rfl) dX2_addToFlow_77 (fun Φ26 hΦ16 => ?_)
        have h_58 : Φ26 (x + (81 + 2 + m_6)) = some (o_ 5 [.long v_46, .long v_51, .long v_48, .int v_49, .int v_50]) := fset_at hΦ16
        have hI26 : In G x (ca) Φ26 := In.put (k := 81 + 2 + m_6) hI25 hΦ16 (ok19 (k := 81 + 2 + m_6) (kd_f (kd_r rfl) hm_6) ⟨v_46, v_51, v_48, v_49, v_50, rfl⟩)
        refine z_aload B dX2_addToFlow_80 0 rfl ?_
        refine z_dup B dX2_addToFlow_82 rfl ?_
        refine z_get (ref := "FlowExporter$Flow") (C := RX3) (T := TX3) (N := 5) (ci := 5) (v := .long v_48) B hu_X2_addToFlow_X3 rfl 2 (Nat.le_of_ble_eq_true rfl) hv_X2_addToFlow_107 rfl h_58 rfl dX2_addToFlow_83 ?_
        refine z_iload_n B dX2_addToFlow_86 rfl 4 rfl ?_
        refine z_i2l (v := b.toInt64) B dX2_addToFlow_87 rfl ?_
        refine z_fl (fun v_52 => ?_)
        refine z_ladd B dX2_addToFlow_88 ?_
        refine z_fl (fun v_53 => ?_)
        refine z_put (ref := "FlowExporter$Flow") (C := RX3) (T := TX3) (N := 5) (ci := 5) (v := .long v_53) B hu_X2_addToFlow_X3 tyX3 tyX3_ok nmX3 rfl 2 (Nat.le_of_ble_eq_true rfl) hv_X2_addToFlow_107 rfl (Or.inl rfl) h_58 (by omega) rfl rfl (Nat.le_of_ble_eq_true rfl) dX2_addToFlow_89 (fun Φ27 hΦ17 => ?_)
        have h_59 : Φ27 (x + (81 + 2 + m_6)) = some (o_ 5 [.long v_46, .long v_51, .long v_53, .int v_49, .int v_50]) := fset_at hΦ17
        have hI27 : In G x (ca) Φ27 := In.put (k := 81 + 2 + m_6) hI26 hΦ17 (ok19 (k := 81 + 2 + m_6) (kd_f (kd_r rfl) hm_6) ⟨v_46, v_51, v_53, v_49, v_50, rfl⟩)
        refine z_aload B dX2_addToFlow_92 0 rfl ?_
        refine z_aload_n B dX2_addToFlow_94 rfl 2 rfl ?_
        have h_60 : Φ27 (x + 80) = some (o_ 4 [.ref (x + 3), .ref (x + 74), .ref (x + 81), .ref (x + 95), .int nw, .int rt, .int dw, .int aq, .int v_36, .int xb, .long ob, .long sm, .long v_37]) := ((fset_fr hΦ17 (by omega)).trans ((fset_fr hΦ16 (by omega)).trans ((hF10 (x + 80) fq_233).trans h_44)))
        refine z_get (ref := "FlowExporter$Exporter") (C := RX2) (T := TX2) (N := 13) (ci := 4) (v := .int nw) B hu_X2_addToFlow_X2 rfl 4 (Nat.le_of_ble_eq_true rfl) hv_X2_addToFlow_23 rfl h_60 rfl dX2_addToFlow_95 ?_
        refine z_put (ref := "FlowExporter$Flow") (C := RX3) (T := TX3) (N := 5) (ci := 5) (v := .int nw) B hu_X2_addToFlow_X3 tyX3 tyX3_ok nmX3 rfl 4 (Nat.le_of_ble_eq_true rfl) hv_X2_addToFlow_123 rfl (Or.inl rfl) h_59 (by omega) rfl rfl (Nat.le_of_ble_eq_true rfl) dX2_addToFlow_98 (fun Φ28 hΦ18 => ?_)
        have h_61 : Φ28 (x + (81 + 2 + m_6)) = some (o_ 5 [.long v_46, .long v_51, .long v_53, .int v_49, .int nw]) := fset_at hΦ18
        have hI28 : In G x (ca) Φ28 := In.put (k := 81 + 2 + m_6) hI27 hΦ18 (ok19 (k := 81 + 2 + m_6) (kd_f (kd_r rfl) hm_6) ⟨v_46, v_51, v_53, v_49, nw, rfl⟩)
        have h_62 : Φ28 (x + 80) = some (o_ 4 [.ref (x + 3), .ref (x + 74), .ref (x + 81), .ref (x + 95), .int nw, .int rt, .int dw, .int aq, .int v_36, .int xb, .long ob, .long sm, .long v_37]) := ((fset_fr hΦ18 (by omega)).trans h_60)
        exact z_ret_v B dX2_addToFlow_101 ⟨⟨rfl, v_36, v_37, h_62⟩, rfl, hI28, (fun b9 h9 => ((fset_fr hΦ18 (fun h8 => h9 (81 + 2 + m_6) h8 (show 74 ≤ (81 + 2 + m_6) ∧ (81 + 2 + m_6) < 95 by omega))).trans ((fset_fr hΦ17 (fun h8 => h9 (81 + 2 + m_6) h8 (show 74 ≤ (81 + 2 + m_6) ∧ (81 + 2 + m_6) < 95 by omega))).trans ((fset_fr hΦ16 (fun h8 => h9 (81 + 2 + m_6) h8 (show 74 ≤ (81 + 2 + m_6) ∧ (81 + 2 + m_6) < 95 by omega))).trans ((hF10 b9 (fun j9 h8 h7 => h9 j9 h8 (fq_234 j9 h7))).trans ((hF8 b9 h9).trans ((hF7 b9 (fun j9 h8 h7 => (show False from h7).elim)).trans ((hF4 b9 (fun j9 h8 h7 => (show False from h7).elim)).trans ((hF1 b9 (fun j9 h8 h7 => (show False from h7).elim)).trans rfl)))))))))⟩

theorem hu_X2_exportAll_X2 : ∀ w ∈ u_ws RX2 TX2 13, w ∈ wsX2_exportAll := fun _ h => List.mem_cons_of_mem _ (List.mem_append_left _ (List.mem_append_left _ (List.mem_append_left _ (List.mem_append_left _ (List.mem_append_left _ (List.mem_append_left _ (List.mem_append_left _ (List.mem_append_left _ (List.mem_append_right _ (h))))))))))

theorem hv_X2_exportAll_14 : Cond.fieldLink RX2 14 "FlowExporter$Exporter" (TX2 2).2.1 (TX2 2).2.2.1 ∈ wsX2_exportAll := List.mem_cons_of_mem _ (List.mem_append_left _ (List.mem_append_left _ (List.mem_append_left _ (List.mem_append_left _ (List.mem_append_left _ (List.mem_append_left _ (List.mem_append_left _ (List.mem_append_left _ (List.mem_append_left _ (List.mem_append_left _ (List.mem_of_getElem? (i := 0) rfl)))))))))))

theorem hu_X2_exportAll_X4 : ∀ w ∈ u_ws RX4 TX4 2, w ∈ wsX2_exportAll := fun _ h => List.mem_cons_of_mem _ (List.mem_append_left _ (List.mem_append_left _ (List.mem_append_left _ (List.mem_append_left _ (List.mem_append_left _ (List.mem_append_left _ (List.mem_append_left _ (List.mem_append_right _ (h)))))))))

theorem hv_X2_exportAll_61 : Cond.fieldLink RX2 61 "FlowExporter$FlowTable" (TX4 1).2.1 (TX4 1).2.2.1 ∈ wsX2_exportAll := List.mem_cons_of_mem _ (List.mem_append_left _ (List.mem_append_left _ (List.mem_append_left _ (List.mem_append_left _ (List.mem_append_left _ (List.mem_append_left _ (List.mem_append_left _ (List.mem_append_left _ (List.mem_append_left _ (List.mem_append_left _ (List.mem_of_getElem? (i := 1) rfl)))))))))))

set_option maxHeartbeats 4000000 in
set_option maxRecDepth 100000 in
theorem s_X2_exportAll (G : EnvG) (l : Launch) (Φ : Hm) (sz x ca : Nat) (nw : Int32) (rt : Int32) (dw : Int32) (aq : Int32) (xp : Int32) (xb : Int32) (ob : Int64) (sm : Int64) (un : Int64) (hx : G.2.2.2 ≤ x) (hI : In G x ca Φ) (hc0 : Φ (x + 80) = some (o_ 4 [.ref (x + 3), .ref (x + 74), .ref (x + 81), .ref (x + 95), .int nw, .int rt, .int dw, .int aq, .int xp, .int xb, .long ob, .long sm, .long un])) (had : aq = 0 ∨ aq = 1) : Ct G l yX2_exportAll wsX2_exportAll ({ frames := 4, cells := 0, slots := 0, locals := 94 }) 0 0 [.ref (x + 80)] Φ sz (fun v Φ1 sz1 => ((v = none) ∧ ∃ xp8 : Int32, ∃ un8 : Int64, Φ1 (x + 80) = some (o_ 4 [.ref (x + 3), .ref (x + 74), .ref (x + 81), .ref (x + 95), .int nw, .int rt, .int dw, .int aq, .int xp8, .int xb, .long ob, .long sm, .long un8])) ∧ sz1 = sz ∧ In G x (ca) Φ1 ∧ Fr x (fun j9 => 74 ≤ j9 ∧ j9 < 95) Φ Φ1) := by
  refine Ct.of (cc := cX2_exportAll) (maxL := 2) (ret := none) (by decide) rfl (Nat.le_of_ble_eq_true rfl) ?_
  intro p9 e9 s9 m9 w9 t9 k9 B
  show Z p9 l e9 _ s9 m9 _ w9 t9 k9 _ G 2 0 [(0, .ref (x + 80))] [] Φ sz 0 0
  refine z_aload_n B dX2_exportAll_0 rfl 0 rfl ?_
  refine z_get (ref := "FlowExporter$Exporter") (C := RX2) (T := TX2) (N := 13) (ci := 4) (v := .ref (x + 81)) B hu_X2_exportAll_X2 rfl 2 (Nat.le_of_ble_eq_true rfl) hv_X2_exportAll_14 rfl hc0 rfl dX2_exportAll_1 ?_
  obtain ⟨n_1, h_1, b_1⟩ := in17 (k := 81) hI rfl
  replace b_1 : n_1 ≤ 12 := b_1
  have h_2 : Φ (x + 81) = some (o_ 6 [.ref (x + 82), .int (nI n_1)]) := h_1
  refine z_get (ref := "FlowExporter$FlowTable") (C := RX4) (T := TX4) (N := 2) (ci := 6) (v := .int (nI n_1)) B hu_X2_exportAll_X4 rfl 1 (Nat.le_of_ble_eq_true rfl) hv_X2_exportAll_61 rfl h_2 rfl dX2_exportAll_4 ?_
  refine z_istore_n (lv' := [(1, .int (nI n_1)), (0, .ref (x + 80))]) B dX2_exportAll_7 rfl (Nat.le_of_ble_eq_true rfl) rfl ?_
  refine z_lv [0, 1] rfl ?_
  refine z_loop (α := Nat × Int32 × Int64) (fun (a9 : Nat × Int32 × Int64) Φi => In G x (ca) Φi ∧ Fr x (fun j9 => 74 ≤ j9 ∧ j9 < 95) Φ Φi ∧ (a9.1 ≤ 12) ∧ (Φi (x + 80) = some (o_ 4 [.ref (x + 3), .ref (x + 74), .ref (x + 81), .ref (x + 95), .int nw, .int rt, .int dw, .int aq, .int a9.2.1, .int xb, .long ob, .long sm, .long a9.2.2])) ∧ True) (fun a9 => [(1, .int (nI (a9.1))), (0, .ref (x + 80))]) (fun a9 => a9.1) ?_ (n_1, xp, un) ⟨hI, fun _ _ => rfl, (show n_1 ≤ 12 by omega), hc0, trivial⟩
  rintro ⟨i_1, i_2, i_3⟩ Φl1 ⟨hI1, hF1, b_2, b_3, -⟩ ih1
  replace hI1 : In G x (ca) Φl1 := hI1
  replace b_2 : i_1 ≤ 12 := b_2
  replace b_3 : Φl1 (x + 80) = some (o_ 4 [.ref (x + 3), .ref (x + 74), .ref (x + 81), .ref (x + 95), .int nw, .int rt, .int dw, .int aq, .int i_2, .int xb, .long ob, .long sm, .long i_3]) := b_3
  show Z p9 l e9 _ s9 m9 _ w9 t9 k9 _ G 2 8 [(1, .int (nI i_1)), (0, .ref (x + 80))] [] Φl1 _ _ _
  refine z_iload_n B dX2_exportAll_8 rfl 0 rfl ?_
  refine z_if_le (tgt := 23) B dX2_exportAll_9 rfl (fun c_1 => ?_) (fun c_1 => ?_)
  · have e_1 : i_1 ≤ 0 := (nI_leI (a := i_1) (b := 0) (by omega) (by omega)).mp c_1
    exact z_ret_v B dX2_exportAll_23 ⟨⟨rfl, i_2, i_3, b_3⟩, rfl, hI1, (fun b9 h9 => ((hF1 b9 h9).trans rfl))⟩
  · have e_2 : ¬ (i_1 ≤ 0) := fun h9 => c_1 ((nI_leI (a := i_1) (b := 0) (by omega) (by omega)).mpr h9)
    refine z_aload_n B dX2_exportAll_12 rfl 1 rfl ?_
    refine z_iconst (v := 0) B dX2_exportAll_13 rfl ?_
    refine z_callV (As := [.int 0]) (rest := []) B (s_X2_exportAt G l Φl1 sz x (ca) nw rt dw aq i_2 xb ob sm i_3 0 hx hI1 b_3 had) (cwV 1 B.1.2.2.2.2 gX2_exportAll_X2_exportAt rfl rfl rfl (by decide +kernel) ⟨Nat.le_of_ble_eq_true rfl, Nat.le_of_ble_eq_true rfl⟩) b_3 rfl rfl rfl rfl (Nat.le_of_ble_eq_true rfl) dX2_exportAll_14 ⟨Nat.le_of_ble_eq_true rfl, Nat.le_of_ble_eq_true rfl⟩ (fun r_1 Φ1 sz1 st1 hp1 hs1 => ?_)
    obtain ⟨⟨rfl, v_1, v_2, h_3⟩, hq1, hI2, hF2⟩ := hp1
    subst sz1
    replace hs1 : st1 = [] := hs1
    subst st1
    replace hI2 : In G x (ca) Φ1 := hI2
    refine z_iinc (k := 0) (v := nI (i_1 - 1)) (lv' := [(1, .int (nI (i_1 - 1))), (0, .ref (x + 80))]) B dX2_exportAll_17 rfl (nI_m1 (show 1 ≤ i_1 by omega)) (Nat.le_of_ble_eq_true rfl) rfl ?_
    refine z_goto (tgt := 8) B dX2_exportAll_20 rfl ?_
    refine z_lv [0, 1] rfl ?_
    exact ih1 (i_1 - 1, v_1, v_2) Φ1 (show (i_1 - 1) < i_1 by omega) ⟨hI2, (fun b9 h9 => ((hF2 b9 h9).trans ((hF1 b9 h9).trans rfl))), (show (i_1 - 1) ≤ 12 by omega), h_3, trivial⟩

theorem hu_X2_exportOld_X2 : ∀ w ∈ u_ws RX2 TX2 13, w ∈ wsX2_exportOld := fun _ h => List.mem_cons_of_mem _ (List.mem_append_left _ (List.mem_append_left _ (List.mem_append_left _ (List.mem_append_left _ (List.mem_append_left _ (List.mem_append_left _ (List.mem_append_left _ (List.mem_append_left _ (List.mem_append_right _ (h))))))))))

theorem hv_X2_exportOld_53 : Cond.fieldLink RX2 53 "FlowExporter$Exporter" (TX2 0).2.1 (TX2 0).2.2.1 ∈ wsX2_exportOld := List.mem_cons_of_mem _ (List.mem_append_left _ (List.mem_append_left _ (List.mem_append_left _ (List.mem_append_left _ (List.mem_append_left _ (List.mem_append_left _ (List.mem_append_left _ (List.mem_append_left _ (List.mem_append_left _ (List.mem_append_left _ (List.mem_of_getElem? (i := 0) rfl)))))))))))

theorem hv_X2_exportOld_14 : Cond.fieldLink RX2 14 "FlowExporter$Exporter" (TX2 2).2.1 (TX2 2).2.2.1 ∈ wsX2_exportOld := List.mem_cons_of_mem _ (List.mem_append_left _ (List.mem_append_left _ (List.mem_append_left _ (List.mem_append_left _ (List.mem_append_left _ (List.mem_append_left _ (List.mem_append_left _ (List.mem_append_left _ (List.mem_append_left _ (List.mem_append_left _ (List.mem_of_getElem? (i := 1) rfl)))))))))))

theorem hu_X2_exportOld_X4 : ∀ w ∈ u_ws RX4 TX4 2, w ∈ wsX2_exportOld := fun _ h => List.mem_cons_of_mem _ (List.mem_append_left _ (List.mem_append_left _ (List.mem_append_left _ (List.mem_append_left _ (List.mem_append_left _ (List.mem_append_left _ (List.mem_append_left _ (List.mem_append_right _ (h)))))))))

theorem hv_X2_exportOld_61 : Cond.fieldLink RX2 61 "FlowExporter$FlowTable" (TX4 1).2.1 (TX4 1).2.2.1 ∈ wsX2_exportOld := List.mem_cons_of_mem _ (List.mem_append_left _ (List.mem_append_left _ (List.mem_append_left _ (List.mem_append_left _ (List.mem_append_left _ (List.mem_append_left _ (List.mem_append_left _ (List.mem_append_left _ (List.mem_append_left _ (List.mem_append_left _ (List.mem_of_getElem? (i := 2) rfl)))))))))))

theorem hv_X2_exportOld_23 : Cond.fieldLink RX2 23 "FlowExporter$Exporter" (TX2 4).2.1 (TX2 4).2.2.1 ∈ wsX2_exportOld := List.mem_cons_of_mem _ (List.mem_append_left _ (List.mem_append_left _ (List.mem_append_left _ (List.mem_append_left _ (List.mem_append_left _ (List.mem_append_left _ (List.mem_append_left _ (List.mem_append_left _ (List.mem_append_left _ (List.mem_append_left _ (List.mem_of_getElem? (i := 3) rfl)))))))))))

theorem hu_X2_exportOld_X3 : ∀ w ∈ u_ws RX3 TX3 5, w ∈ wsX2_exportOld := fun _ h => List.mem_cons_of_mem _ (List.mem_append_left _ (List.mem_append_left _ (List.mem_append_left _ (List.mem_append_left _ (List.mem_append_left _ (List.mem_append_left _ (List.mem_append_right _ (h))))))))

theorem hv_X2_exportOld_162 : Cond.fieldLink RX2 162 "FlowExporter$Flow" (TX3 3).2.1 (TX3 3).2.2.1 ∈ wsX2_exportOld := List.mem_cons_of_mem _ (List.mem_append_left _ (List.mem_append_left _ (List.mem_append_left _ (List.mem_append_left _ (List.mem_append_left _ (List.mem_append_left _ (List.mem_append_left _ (List.mem_append_left _ (List.mem_append_left _ (List.mem_append_left _ (List.mem_of_getElem? (i := 4) rfl)))))))))))

theorem hv_X2_exportOld_123 : Cond.fieldLink RX2 123 "FlowExporter$Flow" (TX3 4).2.1 (TX3 4).2.2.1 ∈ wsX2_exportOld := List.mem_cons_of_mem _ (List.mem_append_left _ (List.mem_append_left _ (List.mem_append_left _ (List.mem_append_left _ (List.mem_append_left _ (List.mem_append_left _ (List.mem_append_left _ (List.mem_append_left _ (List.mem_append_left _ (List.mem_append_left _ (List.mem_of_getElem? (i := 5) rfl)))))))))))

set_option maxHeartbeats 4000000 in
set_option maxRecDepth 100000 in
theorem s_X2_exportOld (G : EnvG) (l : Launch) (Φ : Hm) (sz x ca : Nat) (nw : Int32) (rt : Int32) (dw : Int32) (aq : Int32) (xp : Int32) (xb : Int32) (ob : Int64) (sm : Int64) (un : Int64) (hx : G.2.2.2 ≤ x) (hI : In G x ca Φ) (hc0 : Φ (x + 80) = some (o_ 4 [.ref (x + 3), .ref (x + 74), .ref (x + 81), .ref (x + 95), .int nw, .int rt, .int dw, .int aq, .int xp, .int xb, .long ob, .long sm, .long un])) (had : aq = 0 ∨ aq = 1) : Ct G l yX2_exportOld wsX2_exportOld ({ frames := 4, cells := 0, slots := 0, locals := 94 }) 0 0 [.ref (x + 80)] Φ sz (fun v Φ1 sz1 => ((v = none) ∧ ∃ xp8 : Int32, ∃ un8 : Int64, Φ1 (x + 80) = some (o_ 4 [.ref (x + 3), .ref (x + 74), .ref (x + 81), .ref (x + 95), .int nw, .int rt, .int dw, .int aq, .int xp8, .int xb, .long ob, .long sm, .long un8])) ∧ sz1 = sz ∧ In G x (ca) Φ1 ∧ Fr x (fun j9 => 74 ≤ j9 ∧ j9 < 95) Φ Φ1) := by
  refine Ct.of (cc := cX2_exportOld) (maxL := 6) (ret := none) (by decide) rfl (Nat.le_of_ble_eq_true rfl) ?_
  intro p9 e9 s9 m9 w9 t9 k9 B
  show Z p9 l e9 _ s9 m9 _ w9 t9 k9 _ G 6 0 [(0, .ref (x + 80))] [] Φ sz 0 0
  refine z_aload_n B dX2_exportOld_0 rfl 0 rfl ?_
  refine z_get (ref := "FlowExporter$Exporter") (C := RX2) (T := TX2) (N := 13) (ci := 4) (v := .ref (x + 3)) B hu_X2_exportOld_X2 rfl 0 (Nat.le_of_ble_eq_true rfl) hv_X2_exportOld_53 rfl hc0 rfl dX2_exportOld_1 ?_
  refine z_iconst (v := 2) B dX2_exportOld_4 rfl ?_
  obtain ⟨v_1, v_2, h_1⟩ := in3 (k := 3) hI rfl
  have h_2 : Φ (x + 3) = some (o_ 3 [.ref (x + 4), .ref (x + 5), .ref (x + 6), .ref (x + 7), .int v_1, .int v_2]) := h_1
  refine z_callV (As := [.int 2]) (rest := []) B (s_X1_get G l Φ sz x (ca) 3 2 hx hI rfl) (cwV 1 B.1.2.2.2.2 gX2_exportOld_X1_get rfl rfl rfl (by decide +kernel) ⟨Nat.le_of_ble_eq_true rfl, Nat.le_of_ble_eq_true rfl⟩) h_2 rfl rfl rfl rfl (Nat.le_of_ble_eq_true rfl) dX2_exportOld_5 ⟨Nat.le_of_ble_eq_true rfl, Nat.le_of_ble_eq_true rfl⟩ (fun r_1 Φ1 sz1 st1 hp1 hs1 => ?_)
  obtain ⟨⟨n_1, rfl, b_1⟩, hq1, hI1, hF1⟩ := hp1
  subst sz1
  replace hs1 : st1 = [.int (nI n_1)] := hs1
  subst st1
  replace hI1 : In G x (ca) Φ1 := hI1
  replace b_1 : n_1 < 2 ^ 31 := b_1
  refine z_istore_n (lv' := [(1, .int (nI n_1)), (0, .ref (x + 80))]) B dX2_exportOld_8 rfl (Nat.le_of_ble_eq_true rfl) rfl ?_
  refine z_aload_n B dX2_exportOld_9 rfl 1 rfl ?_
  have h_3 : Φ1 (x + 80) = some (o_ 4 [.ref (x + 3), .ref (x + 74), .ref (x + 81), .ref (x + 95), .int nw, .int rt, .int dw, .int aq, .int xp, .int xb, .long ob, .long sm, .long un]) := ((hF1 (x + 80) (fun j9 h8 h7 => (show False from h7).elim)).trans hc0)
  refine z_get (ref := "FlowExporter$Exporter") (C := RX2) (T := TX2) (N := 13) (ci := 4) (v := .ref (x + 3)) B hu_X2_exportOld_X2 rfl 0 (Nat.le_of_ble_eq_true rfl) hv_X2_exportOld_53 rfl h_3 rfl dX2_exportOld_10 ?_
  refine z_iconst (v := 3) B dX2_exportOld_13 rfl ?_
  have h_4 : Φ1 (x + 3) = some (o_ 3 [.ref (x + 4), .ref (x + 5), .ref (x + 6), .ref (x + 7), .int v_1, .int v_2]) := ((hF1 (x + 3) (fun j9 h8 h7 => (show False from h7).elim)).trans h_2)
  refine z_callV (As := [.int 3]) (rest := []) B (s_X1_get G l Φ1 sz x (ca) 3 3 hx hI1 rfl) (cwV 1 B.1.2.2.2.2 gX2_exportOld_X1_get rfl rfl rfl (by decide +kernel) ⟨Nat.le_of_ble_eq_true rfl, Nat.le_of_ble_eq_true rfl⟩) h_4 rfl rfl rfl rfl (Nat.le_of_ble_eq_true rfl) dX2_exportOld_14 ⟨Nat.le_of_ble_eq_true rfl, Nat.le_of_ble_eq_true rfl⟩ (fun r_2 Φ2 sz2 st2 hp2 hs2 => ?_)
  obtain ⟨⟨n_2, rfl, b_2⟩, hq2, hI2, hF2⟩ := hp2
  subst sz2
  replace hs2 : st2 = [.int (nI n_2)] := hs2
  subst st2
  replace hI2 : In G x (ca) Φ2 := hI2
  replace b_2 : n_2 < 2 ^ 31 := b_2
  refine z_istore_n (lv' := [(2, .int (nI n_2)), (1, .int (nI n_1)), (0, .ref (x + 80))]) B dX2_exportOld_17 rfl (Nat.le_of_ble_eq_true rfl) rfl ?_
  refine z_iconst (v := 0) B dX2_exportOld_18 rfl ?_
  refine z_istore_n (lv' := [(3, .int 0), (2, .int (nI n_2)), (1, .int (nI n_1)), (0, .ref (x + 80))]) B dX2_exportOld_19 rfl (Nat.le_of_ble_eq_true rfl) rfl ?_
  refine z_aload_n B dX2_exportOld_20 rfl 3 rfl ?_
  have h_5 : Φ2 (x + 80) = some (o_ 4 [.ref (x + 3), .ref (x + 74), .ref (x + 81), .ref (x + 95), .int nw, .int rt, .int dw, .int aq, .int xp, .int xb, .long ob, .long sm, .long un]) := ((hF2 (x + 80) (fun j9 h8 h7 => (show False from h7).elim)).trans h_3)
  refine z_get (ref := "FlowExporter$Exporter") (C := RX2) (T := TX2) (N := 13) (ci := 4) (v := .ref (x + 81)) B hu_X2_exportOld_X2 rfl 2 (Nat.le_of_ble_eq_true rfl) hv_X2_exportOld_14 rfl h_5 rfl dX2_exportOld_21 ?_
  obtain ⟨n_3, h_6, b_3⟩ := in17 (k := 81) hI2 rfl
  replace b_3 : n_3 ≤ 12 := b_3
  have h_7 : Φ2 (x + 81) = some (o_ 6 [.ref (x + 82), .int (nI n_3)]) := h_6
  refine z_get (ref := "FlowExporter$FlowTable") (C := RX4) (T := TX4) (N := 2) (ci := 6) (v := .int (nI n_3)) B hu_X2_exportOld_X4 rfl 1 (Nat.le_of_ble_eq_true rfl) hv_X2_exportOld_61 rfl h_7 rfl dX2_exportOld_24 ?_
  refine z_istore (lv' := [(4, .int (nI n_3)), (3, .int 0), (2, .int (nI n_2)), (1, .int (nI n_1)), (0, .ref (x + 80))]) B dX2_exportOld_27 (Nat.le_of_ble_eq_true rfl) rfl ?_
  refine z_lv [0, 1, 2, 3, 4] rfl ?_
  refine z_loop (α := Nat × Int32 × Int32 × Int64) (fun (a9 : Nat × Int32 × Int32 × Int64) Φi => In G x (ca) Φi ∧ Fr x (fun j9 => 74 ≤ j9 ∧ j9 < 95) Φ2 Φi ∧ (a9.1 ≤ 12) ∧ (Φi (x + 80) = some (o_ 4 [.ref (x + 3), .ref (x + 74), .ref (x + 81), .ref (x + 95), .int nw, .int rt, .int dw, .int aq, .int a9.2.2.1, .int xb, .long ob, .long sm, .long a9.2.2.2])) ∧ True) (fun a9 => [(4, .int (nI (a9.1))), (3, .int a9.2.1), (2, .int (nI n_2)), (1, .int (nI n_1)), (0, .ref (x + 80))]) (fun a9 => a9.1) ?_ (n_3, 0, xp, un) ⟨hI2, fun _ _ => rfl, (show n_3 ≤ 12 by omega), h_5, trivial⟩
  rintro ⟨i_1, i_2, i_3, i_4⟩ Φl1 ⟨hI3, hF3, b_4, b_5, -⟩ ih1
  replace hI3 : In G x (ca) Φl1 := hI3
  replace b_4 : i_1 ≤ 12 := b_4
  replace b_5 : Φl1 (x + 80) = some (o_ 4 [.ref (x + 3), .ref (x + 74), .ref (x + 81), .ref (x + 95), .int nw, .int rt, .int dw, .int aq, .int i_3, .int xb, .long ob, .long sm, .long i_4]) := b_5
  show Z p9 l e9 _ s9 m9 _ w9 t9 k9 _ G 6 29 [(4, .int (nI i_1)), (3, .int i_2), (2, .int (nI n_2)), (1, .int (nI n_1)), (0, .ref (x + 80))] [] Φl1 _ _ _
  refine z_iload B dX2_exportOld_29 0 rfl ?_
  refine z_if_le (tgt := 89) B dX2_exportOld_31 rfl (fun c_1 => ?_) (fun c_1 => ?_)
  · have e_1 : i_1 ≤ 0 := (nI_leI (a := i_1) (b := 0) (by omega) (by omega)).mp c_1
    exact z_ret_v B dX2_exportOld_89 ⟨⟨rfl, i_3, i_4, b_5⟩, rfl, hI3, (fun b9 h9 => ((hF3 b9 h9).trans ((hF2 b9 (fun j9 h8 h7 => (show False from h7).elim)).trans ((hF1 b9 (fun j9 h8 h7 => (show False from h7).elim)).trans rfl))))⟩
  · have e_2 : ¬ (i_1 ≤ 0) := fun h9 => c_1 ((nI_leI (a := i_1) (b := 0) (by omega) (by omega)).mpr h9)
    refine z_aload_n B dX2_exportOld_34 rfl 4 rfl ?_
    refine z_get (ref := "FlowExporter$Exporter") (C := RX2) (T := TX2) (N := 13) (ci := 4) (v := .ref (x + 81)) B hu_X2_exportOld_X2 rfl 2 (Nat.le_of_ble_eq_true rfl) hv_X2_exportOld_14 rfl b_5 rfl dX2_exportOld_35 ?_
    refine z_iload_n B dX2_exportOld_38 rfl 1 rfl ?_
    obtain ⟨n_4, h_8, b_6⟩ := in17 (k := 81) hI3 rfl
    replace b_6 : n_4 ≤ 12 := b_6
    have h_9 : Φl1 (x + 81) = some (o_ 6 [.ref (x + 82), .int (nI n_4)]) := h_8
    refine z_callV (As := [.int i_2]) (rest := []) B (s_X4_flowAt G l Φl1 sz x (ca) 81 i_2 hx hI3 rfl) (cwV 1 B.1.2.2.2.2 gX2_exportOld_X4_flowAt rfl rfl rfl (by decide +kernel) ⟨Nat.le_of_ble_eq_true rfl, Nat.le_of_ble_eq_true rfl⟩) h_9 rfl rfl rfl rfl (Nat.le_of_ble_eq_true rfl) dX2_exportOld_39 ⟨Nat.le_of_ble_eq_true rfl, Nat.le_of_ble_eq_true rfl⟩ (fun r_3 Φ3 sz3 st3 hp3 hs3 => ?_)
    obtain ⟨⟨m_1, hm_1, rfl⟩, hq3, hI4, hF4⟩ := hp3
    subst sz3
    replace hs3 : st3 = [.ref (x + (81 + 2 + m_1))] := hs3
    subst st3
    replace hI4 : In G x (ca) Φ3 := hI4
    replace hm_1 : m_1 < 12 := hm_1
    refine z_astore (lv' := [(5, .ref (x + (81 + 2 + m_1))), (4, .int (nI i_1)), (3, .int i_2), (2, .int (nI n_2)), (1, .int (nI n_1)), (0, .ref (x + 80))]) B dX2_exportOld_42 (Nat.le_of_ble_eq_true rfl) rfl ?_
    refine z_aload_n B dX2_exportOld_44 rfl 5 rfl ?_
    have h_10 : Φ3 (x + 80) = some (o_ 4 [.ref (x + 3), .ref (x + 74), .ref (x + 81), .ref (x + 95), .int nw, .int rt, .int dw, .int aq, .int i_3, .int xb, .long ob, .long sm, .long i_4]) := ((hF4 (x + 80) (fun j9 h8 h7 => (show False from h7).elim)).trans b_5)
    refine z_get (ref := "FlowExporter$Exporter") (C := RX2) (T := TX2) (N := 13) (ci := 4) (v := .int nw) B hu_X2_exportOld_X2 rfl 4 (Nat.le_of_ble_eq_true rfl) hv_X2_exportOld_23 rfl h_10 rfl dX2_exportOld_45 ?_
    refine z_aload B dX2_exportOld_48 0 rfl ?_
    obtain ⟨v_3, v_4, v_5, v_6, v_7, h_11⟩ := in19 (k := 81 + 2 + m_1) hI4 (kd_f (kd_r rfl) hm_1)
    have h_12 : Φ3 (x + (81 + 2 + m_1)) = some (o_ 5 [.long v_3, .long v_4, .long v_5, .int v_6, .int v_7]) := h_11
    refine z_get (ref := "FlowExporter$Flow") (C := RX3) (T := TX3) (N := 5) (ci := 5) (v := .int v_6) B hu_X2_exportOld_X3 rfl 3 (Nat.le_of_ble_eq_true rfl) hv_X2_exportOld_162 rfl h_12 rfl dX2_exportOld_50 ?_
    refine z_isub B dX2_exportOld_53 ?_
    refine z_fi (fun v_8 => ?_)
    refine z_iload_n B dX2_exportOld_54 rfl 4 rfl ?_
    refine z_icmp_ge (tgt := 72) B dX2_exportOld_55 rfl (fun c_2 => ?_) (fun c_2 => ?_)
    · obtain ⟨n_5, e_4, e_3, rfl⟩ := nI_ofge (c := n_1) (by omega) (Int32.not_lt.mpr c_2)
      refine z_aload_n B dX2_exportOld_72 rfl 5 rfl ?_
      refine z_iload_n B dX2_exportOld_73 rfl 2 rfl ?_
      refine z_callV (As := [.int i_2]) (rest := []) B (s_X2_exportAt G l Φ3 sz x (ca) nw rt dw aq i_3 xb ob sm i_4 i_2 hx hI4 h_10 had) (cwV 1 B.1.2.2.2.2 gX2_exportOld_X2_exportAt rfl rfl rfl (by decide +kernel) ⟨Nat.le_of_ble_eq_true rfl, Nat.le_of_ble_eq_true rfl⟩) h_10 rfl rfl rfl rfl (Nat.le_of_ble_eq_true rfl) dX2_exportOld_74 ⟨Nat.le_of_ble_eq_true rfl, Nat.le_of_ble_eq_true rfl⟩ (fun r_4 Φ4 sz4 st4 hp4 hs4 => ?_)
      obtain ⟨⟨rfl, v_9, v_10, h_13⟩, hq4, hI5, hF5⟩ := hp4
      subst sz4
      replace hs4 : st4 = [] := hs4
      subst st4
      replace hI5 : In G x (ca) Φ4 := hI5
      refine z_goto (tgt := 83) B dX2_exportOld_77 rfl ?_
      refine z_iinc (k := 1) (v := nI (i_1 - 1)) (lv' := [(4, .int (nI (i_1 - 1))), (5, .ref (x + (81 + 2 + m_1))), (3, .int i_2), (2, .int (nI n_2)), (1, .int (nI n_1)), (0, .ref (x + 80))]) B dX2_exportOld_83 rfl (nI_m1 (show 1 ≤ i_1 by omega)) (Nat.le_of_ble_eq_true rfl) rfl ?_
      refine z_goto (tgt := 29) B dX2_exportOld_86 rfl ?_
      refine z_lv [0, 2, 3, 4, 5] rfl ?_
      exact ih1 (i_1 - 1, i_2, v_9, v_10) Φ4 (show (i_1 - 1) < i_1 by omega) ⟨hI5, (fun b9 h9 => ((hF5 b9 h9).trans ((hF4 b9 (fun j9 h8 h7 => (show False from h7).elim)).trans ((hF3 b9 h9).trans rfl)))), (show (i_1 - 1) ≤ 12 by omega), h_13, trivial⟩
    · refine z_aload_n B dX2_exportOld_58 rfl 5 rfl ?_
      refine z_get (ref := "FlowExporter$Exporter") (C := RX2) (T := TX2) (N := 13) (ci := 4) (v := .int nw) B hu_X2_exportOld_X2 rfl 4 (Nat.le_of_ble_eq_true rfl) hv_X2_exportOld_23 rfl h_10 rfl dX2_exportOld_59 ?_
      refine z_aload B dX2_exportOld_62 0 rfl ?_
      refine z_get (ref := "FlowExporter$Flow") (C := RX3) (T := TX3) (N := 5) (ci := 5) (v := .int v_7) B hu_X2_exportOld_X3 rfl 4 (Nat.le_of_ble_eq_true rfl) hv_X2_exportOld_123 rfl h_12 rfl dX2_exportOld_64 ?_
      refine z_isub B dX2_exportOld_67 ?_
      refine z_fi (fun v_11 => ?_)
      refine z_iload_n B dX2_exportOld_68 rfl 3 rfl ?_
      refine z_icmp_lt (tgt := 80) B dX2_exportOld_69 rfl (fun c_3 => ?_) (fun c_3 => ?_)
      · refine z_iinc (k := 2) (v := i_2 + 1) (lv' := [(3, .int (i_2 + 1)), (5, .ref (x + (81 + 2 + m_1))), (4, .int (nI i_1)), (2, .int (nI n_2)), (1, .int (nI n_1)), (0, .ref (x + 80))]) B dX2_exportOld_80 rfl rfl (Nat.le_of_ble_eq_true rfl) rfl ?_
        refine z_iinc (k := 2) (v := nI (i_1 - 1)) (lv' := [(4, .int (nI (i_1 - 1))), (3, .int (i_2 + 1)), (5, .ref (x + (81 + 2 + m_1))), (2, .int (nI n_2)), (1, .int (nI n_1)), (0, .ref (x + 80))]) B dX2_exportOld_83 rfl (nI_m1 (show 1 ≤ i_1 by omega)) (Nat.le_of_ble_eq_true rfl) rfl ?_
        refine z_goto (tgt := 29) B dX2_exportOld_86 rfl ?_
        refine z_lv [0, 1, 3, 4, 5] rfl ?_
        exact ih1 (i_1 - 1, i_2 + 1, i_3, i_4) Φ3 (show (i_1 - 1) < i_1 by omega) ⟨hI4, (fun b9 h9 => ((hF4 b9 (fun j9 h8 h7 => (show False from h7).elim)).trans ((hF3 b9 h9).trans rfl))), (show (i_1 - 1) ≤ 12 by omega), h_10, trivial⟩
      · obtain ⟨n_6, e_6, e_5, rfl⟩ := nI_ofge (c := n_2) (by omega) c_3
        refine z_aload_n B dX2_exportOld_72 rfl 5 rfl ?_
        refine z_iload_n B dX2_exportOld_73 rfl 2 rfl ?_
        refine z_callV (As := [.int i_2]) (rest := []) B (s_X2_exportAt G l Φ3 sz x (ca) nw rt dw aq i_3 xb ob sm i_4 i_2 hx hI4 h_10 had) (cwV 1 B.1.2.2.2.2 gX2_exportOld_X2_exportAt rfl rfl rfl (by decide +kernel) ⟨Nat.le_of_ble_eq_true rfl, Nat.le_of_ble_eq_true rfl⟩) h_10 rfl rfl rfl rfl (Nat.le_of_ble_eq_true rfl) dX2_exportOld_74 ⟨Nat.le_of_ble_eq_true rfl, Nat.le_of_ble_eq_true rfl⟩ (fun r_5 Φ5 sz5 st5 hp5 hs5 => ?_)
        obtain ⟨⟨rfl, v_12, v_13, h_14⟩, hq5, hI6, hF6⟩ := hp5
        subst sz5
        replace hs5 : st5 = [] := hs5
        subst st5
        replace hI6 : In G x (ca) Φ5 := hI6
        refine z_goto (tgt := 83) B dX2_exportOld_77 rfl ?_
        refine z_iinc (k := 1) (v := nI (i_1 - 1)) (lv' := [(4, .int (nI (i_1 - 1))), (5, .ref (x + (81 + 2 + m_1))), (3, .int i_2), (2, .int (nI n_2)), (1, .int (nI n_1)), (0, .ref (x + 80))]) B dX2_exportOld_83 rfl (nI_m1 (show 1 ≤ i_1 by omega)) (Nat.le_of_ble_eq_true rfl) rfl ?_
        refine z_goto (tgt := 29) B dX2_exportOld_86 rfl ?_
        refine z_lv [0, 2, 3, 4, 5] rfl ?_
        exact ih1 (i_1 - 1, i_2, v_12, v_13) Φ5 (show (i_1 - 1) < i_1 by omega) ⟨hI6, (fun b9 h9 => ((hF6 b9 h9).trans ((hF4 b9 (fun j9 h8 h7 => (show False from h7).elim)).trans ((hF3 b9 h9).trans rfl)))), (show (i_1 - 1) ≤ 12 by omega), h_14, trivial⟩

theorem hu_X2_endInterval_X2 : ∀ w ∈ u_ws RX2 TX2 13, w ∈ wsX2_endInterval := fun _ h => List.mem_cons_of_mem _ (List.mem_append_left _ (List.mem_append_left _ (List.mem_append_right _ (h))))

theorem hv_X2_endInterval_37 : Cond.fieldLink RX2 37 "FlowExporter$Exporter" (TX2 8).2.1 (TX2 8).2.2.1 ∈ wsX2_endInterval := List.mem_cons_of_mem _ (List.mem_append_left _ (List.mem_append_left _ (List.mem_append_left _ (List.mem_of_getElem? (i := 0) rfl))))

theorem hv_X2_endInterval_40 : Cond.fieldLink RX2 40 "FlowExporter$Exporter" (TX2 9).2.1 (TX2 9).2.2.1 ∈ wsX2_endInterval := List.mem_cons_of_mem _ (List.mem_append_left _ (List.mem_append_left _ (List.mem_append_left _ (List.mem_of_getElem? (i := 1) rfl))))

theorem hv_X2_endInterval_53 : Cond.fieldLink RX2 53 "FlowExporter$Exporter" (TX2 0).2.1 (TX2 0).2.2.1 ∈ wsX2_endInterval := List.mem_cons_of_mem _ (List.mem_append_left _ (List.mem_append_left _ (List.mem_append_left _ (List.mem_of_getElem? (i := 2) rfl))))

theorem hv_X2_endInterval_33 : Cond.fieldLink RX2 33 "FlowExporter$Exporter" (TX2 7).2.1 (TX2 7).2.2.1 ∈ wsX2_endInterval := List.mem_cons_of_mem _ (List.mem_append_left _ (List.mem_append_left _ (List.mem_append_left _ (List.mem_of_getElem? (i := 3) rfl))))

theorem hv_X2_endInterval_27 : Cond.fieldLink RX2 27 "FlowExporter$Exporter" (TX2 5).2.1 (TX2 5).2.2.1 ∈ wsX2_endInterval := List.mem_cons_of_mem _ (List.mem_append_left _ (List.mem_append_left _ (List.mem_append_left _ (List.mem_of_getElem? (i := 4) rfl))))

set_option maxHeartbeats 4000000 in
set_option maxRecDepth 100000 in
theorem s_X2_endInterval (G : EnvG) (l : Launch) (Φ : Hm) (sz x ca : Nat) (nw : Int32) (rt : Int32) (dw : Int32) (aq : Int32) (xp : Int32) (xb : Int32) (ob : Int64) (sm : Int64) (un : Int64) (hx : G.2.2.2 ≤ x) (hI : In G x ca Φ) (hc0 : Φ (x + 80) = some (o_ 4 [.ref (x + 3), .ref (x + 74), .ref (x + 81), .ref (x + 95), .int nw, .int rt, .int dw, .int aq, .int xp, .int xb, .long ob, .long sm, .long un])) (had : aq = 0 ∨ aq = 1) : Ct G l yX2_endInterval wsX2_endInterval ({ frames := 1, cells := 0, slots := 0, locals := 21 }) 0 0 [.ref (x + 80)] Φ sz (fun v Φ1 sz1 => ((∃ r9 : Int32, v = some (.int r9)) ∧ ∃ xb8 : Int32, Φ1 (x + 80) = some (o_ 4 [.ref (x + 3), .ref (x + 74), .ref (x + 81), .ref (x + 95), .int nw, .int rt, .int dw, .int aq, .int xp, .int xb8, .long ob, .long sm, .long un])) ∧ sz1 = sz ∧ In G x (ca) Φ1 ∧ Fr x (fun j9 => j9 = 80) Φ Φ1) := by
  refine Ct.of (cc := cX2_endInterval) (maxL := 3) (ret := (some .int)) (by decide) rfl (Nat.le_of_ble_eq_true rfl) ?_
  intro p9 e9 s9 m9 w9 t9 k9 B
  show Z p9 l e9 _ s9 m9 _ w9 t9 k9 _ G 3 0 [(0, .ref (x + 80))] [] Φ sz 0 0
  refine z_aload_n B dX2_endInterval_0 rfl 0 rfl ?_
  refine z_get (ref := "FlowExporter$Exporter") (C := RX2) (T := TX2) (N := 13) (ci := 4) (v := .int xp) B hu_X2_endInterval_X2 rfl 8 (Nat.le_of_ble_eq_true rfl) hv_X2_endInterval_37 rfl hc0 rfl dX2_endInterval_1 ?_
  refine z_aload_n B dX2_endInterval_4 rfl 0 rfl ?_
  refine z_get (ref := "FlowExporter$Exporter") (C := RX2) (T := TX2) (N := 13) (ci := 4) (v := .int xb) B hu_X2_endInterval_X2 rfl 9 (Nat.le_of_ble_eq_true rfl) hv_X2_endInterval_40 rfl hc0 rfl dX2_endInterval_5 ?_
  refine z_isub B dX2_endInterval_8 ?_
  refine z_fi (fun v_1 => ?_)
  refine z_istore_n (lv' := [(1, .int v_1), (0, .ref (x + 80))]) B dX2_endInterval_9 rfl (Nat.le_of_ble_eq_true rfl) rfl ?_
  refine z_aload_n B dX2_endInterval_10 rfl 1 rfl ?_
  refine z_aload_n B dX2_endInterval_11 rfl 1 rfl ?_
  refine z_get (ref := "FlowExporter$Exporter") (C := RX2) (T := TX2) (N := 13) (ci := 4) (v := .int xp) B hu_X2_endInterval_X2 rfl 8 (Nat.le_of_ble_eq_true rfl) hv_X2_endInterval_37 rfl hc0 rfl dX2_endInterval_12 ?_
  refine z_put (ref := "FlowExporter$Exporter") (C := RX2) (T := TX2) (N := 13) (ci := 4) (v := .int xp) B hu_X2_endInterval_X2 tyX2 tyX2_ok nmX2 rfl 9 (Nat.le_of_ble_eq_true rfl) hv_X2_endInterval_40 rfl (Or.inl rfl) hc0 (Nat.le_trans hx (Nat.le_add_right x 80)) rfl rfl (Nat.le_of_ble_eq_true rfl) dX2_endInterval_15 (fun Φ1 hΦ1 => ?_)
  have h_1 : Φ1 (x + 80) = some (o_ 4 [.ref (x + 3), .ref (x + 74), .ref (x + 81), .ref (x + 95), .int nw, .int rt, .int dw, .int aq, .int xp, .int xp, .long ob, .long sm, .long un]) := fset_at hΦ1
  have hI1 : In G x (ca) Φ1 := In.put (k := 80) hI hΦ1 (ok16 (k := 80) rfl ⟨nw, rt, dw, aq, xp, xp, ob, sm, un, rfl, had⟩)
  refine z_aload_n B dX2_endInterval_18 rfl 1 rfl ?_
  refine z_get (ref := "FlowExporter$Exporter") (C := RX2) (T := TX2) (N := 13) (ci := 4) (v := .ref (x + 3)) B hu_X2_endInterval_X2 rfl 0 (Nat.le_of_ble_eq_true rfl) hv_X2_endInterval_53 rfl h_1 rfl dX2_endInterval_19 ?_
  refine z_iconst (v := 1) B dX2_endInterval_22 rfl ?_
  obtain ⟨v_2, v_3, h_2⟩ := in3 (k := 3) hI1 rfl
  have h_3 : Φ1 (x + 3) = some (o_ 3 [.ref (x + 4), .ref (x + 5), .ref (x + 6), .ref (x + 7), .int v_2, .int v_3]) := h_2
  refine z_callV (As := [.int 1]) (rest := []) B (s_X1_get G l Φ1 sz x (ca) 3 1 hx hI1 rfl) (cwV 1 B.1.2.2.2.2 gX2_endInterval_X1_get rfl rfl rfl (by decide +kernel) ⟨Nat.le_of_ble_eq_true rfl, Nat.le_of_ble_eq_true rfl⟩) h_3 rfl rfl rfl rfl (Nat.le_of_ble_eq_true rfl) dX2_endInterval_23 ⟨Nat.le_of_ble_eq_true rfl, Nat.le_of_ble_eq_true rfl⟩ (fun r_1 Φ2 sz1 st1 hp1 hs1 => ?_)
  obtain ⟨⟨n_1, rfl, b_1⟩, hq1, hI2, hF1⟩ := hp1
  subst sz1
  replace hs1 : st1 = [.int (nI n_1)] := hs1
  subst st1
  replace hI2 : In G x (ca) Φ2 := hI2
  replace b_1 : n_1 < 2 ^ 31 := b_1
  refine z_istore_n (lv' := [(2, .int (nI n_1)), (1, .int v_1), (0, .ref (x + 80))]) B dX2_endInterval_26 rfl (Nat.le_of_ble_eq_true rfl) rfl ?_
  refine z_aload_n B dX2_endInterval_27 rfl 2 rfl ?_
  have h_4 : Φ2 (x + 80) = some (o_ 4 [.ref (x + 3), .ref (x + 74), .ref (x + 81), .ref (x + 95), .int nw, .int rt, .int dw, .int aq, .int xp, .int xp, .long ob, .long sm, .long un]) := ((hF1 (x + 80) (fun j9 h8 h7 => (show False from h7).elim)).trans h_1)
  refine z_get (ref := "FlowExporter$Exporter") (C := RX2) (T := TX2) (N := 13) (ci := 4) (v := .int aq) B hu_X2_endInterval_X2 rfl 7 (Nat.le_of_ble_eq_true rfl) hv_X2_endInterval_33 rfl h_4 rfl dX2_endInterval_28 ?_
  refine z_if_eq (tgt := 56) B dX2_endInterval_31 rfl (fun c_1 => ?_) (fun c_1 => ?_)
  · refine z_aload_n B dX2_endInterval_56 rfl 2 rfl ?_
    refine z_get (ref := "FlowExporter$Exporter") (C := RX2) (T := TX2) (N := 13) (ci := 4) (v := .int aq) B hu_X2_endInterval_X2 rfl 7 (Nat.le_of_ble_eq_true rfl) hv_X2_endInterval_33 rfl h_4 rfl dX2_endInterval_57 ?_
    refine z_if_eq (tgt := 85) B dX2_endInterval_60 rfl (fun c_2 => ?_) (fun c_2 => ?_)
    · refine z_aload_n B dX2_endInterval_85 rfl 2 rfl ?_
      refine z_get (ref := "FlowExporter$Exporter") (C := RX2) (T := TX2) (N := 13) (ci := 4) (v := .int rt) B hu_X2_endInterval_X2 rfl 5 (Nat.le_of_ble_eq_true rfl) hv_X2_endInterval_27 rfl h_4 rfl dX2_endInterval_86 ?_
      exact z_ret_i B dX2_endInterval_89 ⟨⟨⟨_, rfl⟩, xp, h_4⟩, rfl, hI2, (fun b9 h9 => ((hF1 b9 (fun j9 h8 h7 => (show False from h7).elim)).trans ((fset_fr hΦ1 (fun h8 => h9 (80) h8 (show 80 = 80 by decide))).trans rfl)))⟩
    · refine z_iconst (v := 2) B dX2_endInterval_63 rfl ?_
      refine z_iload_n B dX2_endInterval_64 rfl 1 rfl ?_
      refine z_imul B dX2_endInterval_65 ?_
      refine z_fi (fun v_4 => ?_)
      refine z_iload_n B dX2_endInterval_66 rfl 0 rfl ?_
      refine z_icmp_ge (tgt := 85) B dX2_endInterval_67 rfl (fun c_3 => ?_) (fun c_3 => ?_)
      · obtain ⟨n_2, e_2, e_1, rfl⟩ := nI_ofge (c := n_1) (by omega) (Int32.not_lt.mpr c_3)
        refine z_aload_n B dX2_endInterval_85 rfl 2 rfl ?_
        refine z_get (ref := "FlowExporter$Exporter") (C := RX2) (T := TX2) (N := 13) (ci := 4) (v := .int rt) B hu_X2_endInterval_X2 rfl 5 (Nat.le_of_ble_eq_true rfl) hv_X2_endInterval_27 rfl h_4 rfl dX2_endInterval_86 ?_
        exact z_ret_i B dX2_endInterval_89 ⟨⟨⟨_, rfl⟩, xp, h_4⟩, rfl, hI2, (fun b9 h9 => ((hF1 b9 (fun j9 h8 h7 => (show False from h7).elim)).trans ((fset_fr hΦ1 (fun h8 => h9 (80) h8 (show 80 = 80 by decide))).trans rfl)))⟩
      · refine z_aload_n B dX2_endInterval_70 rfl 2 rfl ?_
        refine z_get (ref := "FlowExporter$Exporter") (C := RX2) (T := TX2) (N := 13) (ci := 4) (v := .int rt) B hu_X2_endInterval_X2 rfl 5 (Nat.le_of_ble_eq_true rfl) hv_X2_endInterval_27 rfl h_4 rfl dX2_endInterval_71 ?_
        refine z_iconst (v := 2) B dX2_endInterval_74 rfl ?_
        refine z_icmp_lt (tgt := 85) B dX2_endInterval_75 rfl (fun c_4 => ?_) (fun c_4 => ?_)
        · refine z_aload_n B dX2_endInterval_85 rfl 2 rfl ?_
          refine z_get (ref := "FlowExporter$Exporter") (C := RX2) (T := TX2) (N := 13) (ci := 4) (v := .int rt) B hu_X2_endInterval_X2 rfl 5 (Nat.le_of_ble_eq_true rfl) hv_X2_endInterval_27 rfl h_4 rfl dX2_endInterval_86 ?_
          exact z_ret_i B dX2_endInterval_89 ⟨⟨⟨_, rfl⟩, xp, h_4⟩, rfl, hI2, (fun b9 h9 => ((hF1 b9 (fun j9 h8 h7 => (show False from h7).elim)).trans ((fset_fr hΦ1 (fun h8 => h9 (80) h8 (show 80 = 80 by decide))).trans rfl)))⟩
        · obtain ⟨n_3, e_4, e_3, rfl⟩ := nI_ofge (c := 2) (by omega) c_4
          refine z_aload_n B dX2_endInterval_78 rfl 2 rfl ?_
          refine z_get (ref := "FlowExporter$Exporter") (C := RX2) (T := TX2) (N := 13) (ci := 4) (v := .int (nI n_3)) B hu_X2_endInterval_X2 rfl 5 (Nat.le_of_ble_eq_true rfl) hv_X2_endInterval_27 rfl h_4 rfl dX2_endInterval_79 ?_
          refine z_iconst (v := 2) B dX2_endInterval_82 rfl ?_
          refine z_idiv B dX2_endInterval_83 (by decide) ?_
          refine z_fi (fun v_5 => ?_)
          exact z_ret_i B dX2_endInterval_84 ⟨⟨⟨_, rfl⟩, xp, h_4⟩, rfl, hI2, (fun b9 h9 => ((hF1 b9 (fun j9 h8 h7 => (show False from h7).elim)).trans ((fset_fr hΦ1 (fun h8 => h9 (80) h8 (show 80 = 80 by decide))).trans rfl)))⟩
  · refine z_iload_n B dX2_endInterval_34 rfl 1 rfl ?_
    refine z_iload_n B dX2_endInterval_35 rfl 0 rfl ?_
    refine z_icmp_le (tgt := 56) B dX2_endInterval_36 rfl (fun c_5 => ?_) (fun c_5 => ?_)
    · refine z_aload_n B dX2_endInterval_56 rfl 2 rfl ?_
      refine z_get (ref := "FlowExporter$Exporter") (C := RX2) (T := TX2) (N := 13) (ci := 4) (v := .int aq) B hu_X2_endInterval_X2 rfl 7 (Nat.le_of_ble_eq_true rfl) hv_X2_endInterval_33 rfl h_4 rfl dX2_endInterval_57 ?_
      refine z_if_eq (tgt := 85) B dX2_endInterval_60 rfl (fun c_6 => ?_) (fun c_6 => ?_)
      · refine z_aload_n B dX2_endInterval_85 rfl 2 rfl ?_
        refine z_get (ref := "FlowExporter$Exporter") (C := RX2) (T := TX2) (N := 13) (ci := 4) (v := .int rt) B hu_X2_endInterval_X2 rfl 5 (Nat.le_of_ble_eq_true rfl) hv_X2_endInterval_27 rfl h_4 rfl dX2_endInterval_86 ?_
        exact z_ret_i B dX2_endInterval_89 ⟨⟨⟨_, rfl⟩, xp, h_4⟩, rfl, hI2, (fun b9 h9 => ((hF1 b9 (fun j9 h8 h7 => (show False from h7).elim)).trans ((fset_fr hΦ1 (fun h8 => h9 (80) h8 (show 80 = 80 by decide))).trans rfl)))⟩
      · refine z_iconst (v := 2) B dX2_endInterval_63 rfl ?_
        refine z_iload_n B dX2_endInterval_64 rfl 1 rfl ?_
        refine z_imul B dX2_endInterval_65 ?_
        refine z_fi (fun v_6 => ?_)
        refine z_iload_n B dX2_endInterval_66 rfl 0 rfl ?_
        refine z_icmp_ge (tgt := 85) B dX2_endInterval_67 rfl (fun c_7 => ?_) (fun c_7 => ?_)
        · obtain ⟨n_4, e_6, e_5, rfl⟩ := nI_ofge (c := n_1) (by omega) (Int32.not_lt.mpr c_7)
          refine z_aload_n B dX2_endInterval_85 rfl 2 rfl ?_
          refine z_get (ref := "FlowExporter$Exporter") (C := RX2) (T := TX2) (N := 13) (ci := 4) (v := .int rt) B hu_X2_endInterval_X2 rfl 5 (Nat.le_of_ble_eq_true rfl) hv_X2_endInterval_27 rfl h_4 rfl dX2_endInterval_86 ?_
          exact z_ret_i B dX2_endInterval_89 ⟨⟨⟨_, rfl⟩, xp, h_4⟩, rfl, hI2, (fun b9 h9 => ((hF1 b9 (fun j9 h8 h7 => (show False from h7).elim)).trans ((fset_fr hΦ1 (fun h8 => h9 (80) h8 (show 80 = 80 by decide))).trans rfl)))⟩
        · refine z_aload_n B dX2_endInterval_70 rfl 2 rfl ?_
          refine z_get (ref := "FlowExporter$Exporter") (C := RX2) (T := TX2) (N := 13) (ci := 4) (v := .int rt) B hu_X2_endInterval_X2 rfl 5 (Nat.le_of_ble_eq_true rfl) hv_X2_endInterval_27 rfl h_4 rfl dX2_endInterval_71 ?_
          refine z_iconst (v := 2) B dX2_endInterval_74 rfl ?_
          refine z_icmp_lt (tgt := 85) B dX2_endInterval_75 rfl (fun c_8 => ?_) (fun c_8 => ?_)
          · refine z_aload_n B dX2_endInterval_85 rfl 2 rfl ?_
            refine z_get (ref := "FlowExporter$Exporter") (C := RX2) (T := TX2) (N := 13) (ci := 4) (v := .int rt) B hu_X2_endInterval_X2 rfl 5 (Nat.le_of_ble_eq_true rfl) hv_X2_endInterval_27 rfl h_4 rfl dX2_endInterval_86 ?_
            exact z_ret_i B dX2_endInterval_89 ⟨⟨⟨_, rfl⟩, xp, h_4⟩, rfl, hI2, (fun b9 h9 => ((hF1 b9 (fun j9 h8 h7 => (show False from h7).elim)).trans ((fset_fr hΦ1 (fun h8 => h9 (80) h8 (show 80 = 80 by decide))).trans rfl)))⟩
          · obtain ⟨n_5, e_8, e_7, rfl⟩ := nI_ofge (c := 2) (by omega) c_8
            refine z_aload_n B dX2_endInterval_78 rfl 2 rfl ?_
            refine z_get (ref := "FlowExporter$Exporter") (C := RX2) (T := TX2) (N := 13) (ci := 4) (v := .int (nI n_5)) B hu_X2_endInterval_X2 rfl 5 (Nat.le_of_ble_eq_true rfl) hv_X2_endInterval_27 rfl h_4 rfl dX2_endInterval_79 ?_
            refine z_iconst (v := 2) B dX2_endInterval_82 rfl ?_
            refine z_idiv B dX2_endInterval_83 (by decide) ?_
            refine z_fi (fun v_7 => ?_)
            exact z_ret_i B dX2_endInterval_84 ⟨⟨⟨_, rfl⟩, xp, h_4⟩, rfl, hI2, (fun b9 h9 => ((hF1 b9 (fun j9 h8 h7 => (show False from h7).elim)).trans ((fset_fr hΦ1 (fun h8 => h9 (80) h8 (show 80 = 80 by decide))).trans rfl)))⟩
    · refine z_aload_n B dX2_endInterval_39 rfl 2 rfl ?_
      refine z_get (ref := "FlowExporter$Exporter") (C := RX2) (T := TX2) (N := 13) (ci := 4) (v := .int rt) B hu_X2_endInterval_X2 rfl 5 (Nat.le_of_ble_eq_true rfl) hv_X2_endInterval_27 rfl h_4 rfl dX2_endInterval_40 ?_
      refine z_sipush (v := 512) B dX2_endInterval_43 rfl ?_
      refine z_icmp_gt (tgt := 56) B dX2_endInterval_46 rfl (fun c_9 => ?_) (fun c_9 => ?_)
      · refine z_aload_n B dX2_endInterval_56 rfl 2 rfl ?_
        refine z_get (ref := "FlowExporter$Exporter") (C := RX2) (T := TX2) (N := 13) (ci := 4) (v := .int aq) B hu_X2_endInterval_X2 rfl 7 (Nat.le_of_ble_eq_true rfl) hv_X2_endInterval_33 rfl h_4 rfl dX2_endInterval_57 ?_
        refine z_if_eq (tgt := 85) B dX2_endInterval_60 rfl (fun c_10 => ?_) (fun c_10 => ?_)
        · refine z_aload_n B dX2_endInterval_85 rfl 2 rfl ?_
          refine z_get (ref := "FlowExporter$Exporter") (C := RX2) (T := TX2) (N := 13) (ci := 4) (v := .int rt) B hu_X2_endInterval_X2 rfl 5 (Nat.le_of_ble_eq_true rfl) hv_X2_endInterval_27 rfl h_4 rfl dX2_endInterval_86 ?_
          exact z_ret_i B dX2_endInterval_89 ⟨⟨⟨_, rfl⟩, xp, h_4⟩, rfl, hI2, (fun b9 h9 => ((hF1 b9 (fun j9 h8 h7 => (show False from h7).elim)).trans ((fset_fr hΦ1 (fun h8 => h9 (80) h8 (show 80 = 80 by decide))).trans rfl)))⟩
        · refine z_iconst (v := 2) B dX2_endInterval_63 rfl ?_
          refine z_iload_n B dX2_endInterval_64 rfl 1 rfl ?_
          refine z_imul B dX2_endInterval_65 ?_
          refine z_fi (fun v_8 => ?_)
          refine z_iload_n B dX2_endInterval_66 rfl 0 rfl ?_
          refine z_icmp_ge (tgt := 85) B dX2_endInterval_67 rfl (fun c_11 => ?_) (fun c_11 => ?_)
          · obtain ⟨n_6, e_10, e_9, rfl⟩ := nI_ofge (c := n_1) (by omega) (Int32.not_lt.mpr c_11)
            refine z_aload_n B dX2_endInterval_85 rfl 2 rfl ?_
            refine z_get (ref := "FlowExporter$Exporter") (C := RX2) (T := TX2) (N := 13) (ci := 4) (v := .int rt) B hu_X2_endInterval_X2 rfl 5 (Nat.le_of_ble_eq_true rfl) hv_X2_endInterval_27 rfl h_4 rfl dX2_endInterval_86 ?_
            exact z_ret_i B dX2_endInterval_89 ⟨⟨⟨_, rfl⟩, xp, h_4⟩, rfl, hI2, (fun b9 h9 => ((hF1 b9 (fun j9 h8 h7 => (show False from h7).elim)).trans ((fset_fr hΦ1 (fun h8 => h9 (80) h8 (show 80 = 80 by decide))).trans rfl)))⟩
          · refine z_aload_n B dX2_endInterval_70 rfl 2 rfl ?_
            refine z_get (ref := "FlowExporter$Exporter") (C := RX2) (T := TX2) (N := 13) (ci := 4) (v := .int rt) B hu_X2_endInterval_X2 rfl 5 (Nat.le_of_ble_eq_true rfl) hv_X2_endInterval_27 rfl h_4 rfl dX2_endInterval_71 ?_
            refine z_iconst (v := 2) B dX2_endInterval_74 rfl ?_
            refine z_icmp_lt (tgt := 85) B dX2_endInterval_75 rfl (fun c_12 => ?_) (fun c_12 => ?_)
            · refine z_aload_n B dX2_endInterval_85 rfl 2 rfl ?_
              refine z_get (ref := "FlowExporter$Exporter") (C := RX2) (T := TX2) (N := 13) (ci := 4) (v := .int rt) B hu_X2_endInterval_X2 rfl 5 (Nat.le_of_ble_eq_true rfl) hv_X2_endInterval_27 rfl h_4 rfl dX2_endInterval_86 ?_
              exact z_ret_i B dX2_endInterval_89 ⟨⟨⟨_, rfl⟩, xp, h_4⟩, rfl, hI2, (fun b9 h9 => ((hF1 b9 (fun j9 h8 h7 => (show False from h7).elim)).trans ((fset_fr hΦ1 (fun h8 => h9 (80) h8 (show 80 = 80 by decide))).trans rfl)))⟩
            · obtain ⟨n_7, e_12, e_11, rfl⟩ := nI_ofge (c := 2) (by omega) c_12
              refine z_aload_n B dX2_endInterval_78 rfl 2 rfl ?_
              refine z_get (ref := "FlowExporter$Exporter") (C := RX2) (T := TX2) (N := 13) (ci := 4) (v := .int (nI n_7)) B hu_X2_endInterval_X2 rfl 5 (Nat.le_of_ble_eq_true rfl) hv_X2_endInterval_27 rfl h_4 rfl dX2_endInterval_79 ?_
              refine z_iconst (v := 2) B dX2_endInterval_82 rfl ?_
              refine z_idiv B dX2_endInterval_83 (by decide) ?_
              refine z_fi (fun v_9 => ?_)
              exact z_ret_i B dX2_endInterval_84 ⟨⟨⟨_, rfl⟩, xp, h_4⟩, rfl, hI2, (fun b9 h9 => ((hF1 b9 (fun j9 h8 h7 => (show False from h7).elim)).trans ((fset_fr hΦ1 (fun h8 => h9 (80) h8 (show 80 = 80 by decide))).trans rfl)))⟩
      · refine z_iconst (v := 2) B dX2_endInterval_49 rfl ?_
        refine z_aload_n B dX2_endInterval_50 rfl 2 rfl ?_
        refine z_get (ref := "FlowExporter$Exporter") (C := RX2) (T := TX2) (N := 13) (ci := 4) (v := .int rt) B hu_X2_endInterval_X2 rfl 5 (Nat.le_of_ble_eq_true rfl) hv_X2_endInterval_27 rfl h_4 rfl dX2_endInterval_51 ?_
        refine z_imul B dX2_endInterval_54 ?_
        refine z_fi (fun v_10 => ?_)
        exact z_ret_i B dX2_endInterval_55 ⟨⟨⟨_, rfl⟩, xp, h_4⟩, rfl, hI2, (fun b9 h9 => ((hF1 b9 (fun j9 h8 h7 => (show False from h7).elim)).trans ((fset_fr hΦ1 (fun h8 => h9 (80) h8 (show 80 = 80 by decide))).trans rfl)))⟩

theorem hu_X2_exportAllAndSend_X2 : ∀ w ∈ u_ws RX2 TX2 13, w ∈ wsX2_exportAllAndSend := fun _ h => List.mem_cons_of_mem _ (List.mem_append_left _ (List.mem_append_left _ (List.mem_append_left _ (List.mem_append_left _ (List.mem_append_left _ (List.mem_append_left _ (List.mem_append_left _ (List.mem_append_left _ (List.mem_append_left _ (List.mem_append_right _ (h)))))))))))

theorem hv_X2_exportAllAndSend_14 : Cond.fieldLink RX2 14 "FlowExporter$Exporter" (TX2 2).2.1 (TX2 2).2.2.1 ∈ wsX2_exportAllAndSend := List.mem_cons_of_mem _ (List.mem_append_left _ (List.mem_append_left _ (List.mem_append_left _ (List.mem_append_left _ (List.mem_append_left _ (List.mem_append_left _ (List.mem_append_left _ (List.mem_append_left _ (List.mem_append_left _ (List.mem_append_left _ (List.mem_append_left _ (List.mem_of_getElem? (i := 0) rfl))))))))))))

theorem hu_X2_exportAllAndSend_X4 : ∀ w ∈ u_ws RX4 TX4 2, w ∈ wsX2_exportAllAndSend := fun _ h => List.mem_cons_of_mem _ (List.mem_append_left _ (List.mem_append_left _ (List.mem_append_left _ (List.mem_append_left _ (List.mem_append_left _ (List.mem_append_left _ (List.mem_append_left _ (List.mem_append_left _ (List.mem_append_right _ (h))))))))))

theorem hv_X2_exportAllAndSend_61 : Cond.fieldLink RX2 61 "FlowExporter$FlowTable" (TX4 1).2.1 (TX4 1).2.2.1 ∈ wsX2_exportAllAndSend := List.mem_cons_of_mem _ (List.mem_append_left _ (List.mem_append_left _ (List.mem_append_left _ (List.mem_append_left _ (List.mem_append_left _ (List.mem_append_left _ (List.mem_append_left _ (List.mem_append_left _ (List.mem_append_left _ (List.mem_append_left _ (List.mem_append_left _ (List.mem_of_getElem? (i := 1) rfl))))))))))))

theorem hv_X2_exportAllAndSend_57 : Cond.fieldLink RX2 57 "FlowExporter$Exporter" (TX2 1).2.1 (TX2 1).2.2.1 ∈ wsX2_exportAllAndSend := List.mem_cons_of_mem _ (List.mem_append_left _ (List.mem_append_left _ (List.mem_append_left _ (List.mem_append_left _ (List.mem_append_left _ (List.mem_append_left _ (List.mem_append_left _ (List.mem_append_left _ (List.mem_append_left _ (List.mem_append_left _ (List.mem_append_left _ (List.mem_of_getElem? (i := 2) rfl))))))))))))

theorem hv_X2_exportAllAndSend_23 : Cond.fieldLink RX2 23 "FlowExporter$Exporter" (TX2 4).2.1 (TX2 4).2.2.1 ∈ wsX2_exportAllAndSend := List.mem_cons_of_mem _ (List.mem_append_left _ (List.mem_append_left _ (List.mem_append_left _ (List.mem_append_left _ (List.mem_append_left _ (List.mem_append_left _ (List.mem_append_left _ (List.mem_append_left _ (List.mem_append_left _ (List.mem_append_left _ (List.mem_append_left _ (List.mem_of_getElem? (i := 3) rfl))))))))))))

theorem fq_260 {x : Nat} : ∀ j9 : Nat, x + 80 = x + j9 → (46 ≤ j9 ∧ j9 < 80) → False := by
  intro j9 h1 h2
  omega

theorem fq_261 : ∀ j9 : Nat, (74 ≤ j9 ∧ j9 < 95) → (46 ≤ j9 ∧ j9 < 95) := by
  intro j9 h
  omega

theorem fq_262 : ∀ j9 : Nat, (46 ≤ j9 ∧ j9 < 80) → (46 ≤ j9 ∧ j9 < 95) := by
  intro j9 h
  omega
