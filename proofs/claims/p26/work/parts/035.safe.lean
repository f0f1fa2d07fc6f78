set_option maxRecDepth 20000 in
theorem ggX11_cached_X4_flowAt : GoodIn wsX11_cached wsX4_flowAt := (goodIn_ca (goodIn_r _ [12, 13] rfl (by decide +kernel)) (goodIn_sub (fun _ h => List.mem_cons_of_mem _ (List.mem_append_left _ (List.mem_append_left _ (List.mem_append_left _ (List.mem_append_left _ (List.mem_append_right _ h)))))) gw_wsX40))
set_option maxRecDepth 20000 in
theorem gX11_cached_X4_flowAt : GoodIn wsX11_cached (wsV RX11 156 RX4 yX4_flowAt wsX4_flowAt) := goodIn_app (goodIn_m (mem_cA (List.mem_cons_of_mem _ (List.mem_append_left _ (List.mem_append_left _ (List.mem_append_left _ (List.mem_append_left _ (List.mem_append_left _ (List.mem_append_left _ (List.mem_append_left _ (List.mem_append_left _ (List.mem_of_getElem? (i := 7) rfl)))))))))) (mem_cA (List.mem_cons_of_mem _ (List.mem_append_left _ (List.mem_append_left _ (List.mem_append_left _ (List.mem_append_left _ (List.mem_append_left _ (List.mem_append_left _ (List.mem_append_left _ (List.mem_append_left _ (List.mem_of_getElem? (i := 8) rfl)))))))))) (mem_cA (List.mem_cons_of_mem _ (List.mem_append_left _ (List.mem_append_left _ (List.mem_append_left _ (List.mem_append_left _ (List.mem_append_left _ (List.mem_append_left _ (List.mem_append_left _ (List.mem_append_left _ (List.mem_of_getElem? (i := 9) rfl)))))))))) (mem_cA (List.mem_cons_of_mem _ (List.mem_append_left _ (List.mem_append_left _ (List.mem_append_left _ (List.mem_append_left _ (List.mem_append_left _ (List.mem_append_left _ (List.mem_append_left _ (List.mem_append_left _ (List.mem_of_getElem? (i := 10) rfl)))))))))) mem_cZ)))) (by decide +kernel)) ggX11_cached_X4_flowAt
set_option maxRecDepth 20000 in
theorem ggX11_cached_X3_value : GoodIn wsX11_cached wsX3_value := goodIn_ca ((goodIn_ca (goodIn_r _ [18, 19, 20, 21, 22, 23, 24, 25, 17, 26, 27, 28] rfl (by decide +kernel)) (goodIn_sub (fun _ h => List.mem_cons_of_mem _ (List.mem_append_left _ (List.mem_append_left _ (List.mem_append_left _ (List.mem_append_right _ h))))) gw_wsX30))) (goodIn_sub (fun _ h => List.mem_cons_of_mem _ (List.mem_append_right _ h)) (all_fg _))
set_option maxRecDepth 20000 in
theorem gX11_cached_X3_value : GoodIn wsX11_cached (wsV RX11 160 RX3 yX3_value wsX3_value) := goodIn_app (goodIn_m (mem_cA (List.mem_cons_of_mem _ (List.mem_append_left _ (List.mem_append_left _ (List.mem_append_left _ (List.mem_append_left _ (List.mem_append_left _ (List.mem_append_left _ (List.mem_append_left _ (List.mem_append_left _ (List.mem_of_getElem? (i := 13) rfl)))))))))) (mem_cA (List.mem_cons_of_mem _ (List.mem_append_left _ (List.mem_append_left _ (List.mem_append_left _ (List.mem_append_left _ (List.mem_append_left _ (List.mem_append_left _ (List.mem_append_left _ (List.mem_append_left _ (List.mem_of_getElem? (i := 14) rfl)))))))))) (mem_cA (List.mem_cons_of_mem _ (List.mem_append_left _ (List.mem_append_left _ (List.mem_append_left _ (List.mem_append_left _ (List.mem_append_left _ (List.mem_append_left _ (List.mem_append_left _ (List.mem_append_left _ (List.mem_of_getElem? (i := 15) rfl)))))))))) (mem_cA (List.mem_cons_of_mem _ (List.mem_append_left _ (List.mem_append_left _ (List.mem_append_left _ (List.mem_append_left _ (List.mem_append_left _ (List.mem_append_left _ (List.mem_append_left _ (List.mem_append_left _ (List.mem_of_getElem? (i := 16) rfl)))))))))) mem_cZ)))) (by decide +kernel)) ggX11_cached_X3_value
theorem dX11_cached_0 : decode cX11_cached 0 = .ok (.iload_n 1, 1) := by decide +kernel
theorem dX11_cached_1 : decode cX11_cached 1 = .ok (.ifCond .lt 17, 3) := by decide +kernel
theorem dX11_cached_4 : decode cX11_cached 4 = .ok (.iload_n 1, 1) := by decide +kernel
theorem dX11_cached_5 : decode cX11_cached 5 = .ok (.aload_n 0, 1) := by decide +kernel
theorem dX11_cached_6 : decode cX11_cached 6 = .ok (.getfield 55, 3) := by decide +kernel
theorem dX11_cached_9 : decode cX11_cached 9 = .ok (.getfield 146, 3) := by decide +kernel
theorem dX11_cached_12 : decode cX11_cached 12 = .ok (.getfield 150, 3) := by decide +kernel
theorem dX11_cached_15 : decode cX11_cached 15 = .ok (.if_icmp .lt 11, 3) := by decide +kernel
theorem dX11_cached_18 : decode cX11_cached 18 = .ok (.new 153, 3) := by decide +kernel
theorem dX11_cached_21 : decode cX11_cached 21 = .ok (.dup, 1) := by decide +kernel
theorem dX11_cached_22 : decode cX11_cached 22 = .ok (.invokespecial 155, 3) := by decide +kernel
theorem dX11_cached_25 : decode cX11_cached 25 = .ok (.athrow, 1) := by decide +kernel
theorem dX11_cached_26 : decode cX11_cached 26 = .ok (.iload_n 2, 1) := by decide +kernel
theorem dX11_cached_27 : decode cX11_cached 27 = .ok (.ifCond .lt 9, 3) := by decide +kernel
theorem dX11_cached_30 : decode cX11_cached 30 = .ok (.iload_n 2, 1) := by decide +kernel
theorem dX11_cached_31 : decode cX11_cached 31 = .ok (.bipush 7, 2) := by decide +kernel
theorem dX11_cached_33 : decode cX11_cached 33 = .ok (.if_icmp .le 11, 3) := by decide +kernel
theorem dX11_cached_36 : decode cX11_cached 36 = .ok (.new 116, 3) := by decide +kernel
theorem dX11_cached_39 : decode cX11_cached 39 = .ok (.dup, 1) := by decide +kernel
theorem dX11_cached_40 : decode cX11_cached 40 = .ok (.invokespecial 118, 3) := by decide +kernel
theorem dX11_cached_43 : decode cX11_cached 43 = .ok (.athrow, 1) := by decide +kernel
theorem dX11_cached_44 : decode cX11_cached 44 = .ok (.aload_n 0, 1) := by decide +kernel
theorem dX11_cached_45 : decode cX11_cached 45 = .ok (.getfield 55, 3) := by decide +kernel
theorem dX11_cached_48 : decode cX11_cached 48 = .ok (.getfield 146, 3) := by decide +kernel
theorem dX11_cached_51 : decode cX11_cached 51 = .ok (.iload_n 1, 1) := by decide +kernel
theorem dX11_cached_52 : decode cX11_cached 52 = .ok (.invokevirtual 156, 3) := by decide +kernel
theorem dX11_cached_55 : decode cX11_cached 55 = .ok (.iload_n 2, 1) := by decide +kernel
theorem dX11_cached_56 : decode cX11_cached 56 = .ok (.invokevirtual 160, 3) := by decide +kernel
theorem dX11_cached_59 : decode cX11_cached 59 = .ok (.lreturn, 1) := by decide +kernel
set_option maxRecDepth 20000 in
theorem ggX11_deliver_X11_requireMessage : GoodIn wsX11_deliver wsX11_requireMessage := goodIn_ca ((goodIn_ca (goodIn_ca (goodIn_r _ [9, 10, 11, 2, 12] rfl (by decide +kernel)) (goodIn_sub (fun _ h => List.mem_cons_of_mem _ (List.mem_append_left _ (List.mem_append_left _ (List.mem_append_left _ (List.mem_append_left _ (List.mem_append_left _ (List.mem_append_left _ (List.mem_append_left _ (List.mem_append_left _ (List.mem_append_left _ (List.mem_append_right _ h))))))))))) gw_wsX110)) (goodIn_sub (fun _ h => List.mem_cons_of_mem _ (List.mem_append_left _ (List.mem_append_left _ (List.mem_append_left _ (List.mem_append_left _ (List.mem_append_left _ (List.mem_append_left _ (List.mem_append_left _ (List.mem_append_right _ h))))))))) gw_wsX70))) (goodIn_sub (fun _ h => List.mem_cons_of_mem _ (List.mem_append_left _ (List.mem_append_right _ h))) (all_fg _))
set_option maxRecDepth 20000 in
theorem gX11_deliver_X11_requireMessage : GoodIn wsX11_deliver (wsV RX11 243 RX11 yX11_requireMessage wsX11_requireMessage) := goodIn_app (goodIn_m (mem_cA (List.mem_cons_of_mem _ (List.mem_append_left _ (List.mem_append_left _ (List.mem_append_left _ (List.mem_append_left _ (List.mem_append_left _ (List.mem_append_left _ (List.mem_append_left _ (List.mem_append_left _ (List.mem_append_left _ (List.mem_append_left _ (List.mem_append_left _ (List.mem_of_getElem? (i := 4) rfl))))))))))))) (mem_cA (List.mem_cons_of_mem _ (List.mem_append_left _ (List.mem_append_left _ (List.mem_append_left _ (List.mem_append_left _ (List.mem_append_left _ (List.mem_append_left _ (List.mem_append_left _ (List.mem_append_left _ (List.mem_append_left _ (List.mem_append_left _ (List.mem_append_left _ (List.mem_of_getElem? (i := 5) rfl))))))))))))) (mem_cA (List.mem_cons_of_mem _ (List.mem_append_left _ (List.mem_append_left _ (List.mem_append_left _ (List.mem_append_left _ (List.mem_append_left _ (List.mem_append_left _ (List.mem_append_left _ (List.mem_append_left _ (List.mem_append_left _ (List.mem_append_left _ (List.mem_append_left _ (List.mem_of_getElem? (i := 6) rfl))))))))))))) (mem_cA (List.mem_cons_of_mem _ (List.mem_append_left _ (List.mem_append_left _ (List.mem_append_left _ (List.mem_append_left _ (List.mem_append_left _ (List.mem_append_left _ (List.mem_append_left _ (List.mem_append_left _ (List.mem_append_left _ (List.mem_append_left _ (List.mem_append_left _ (List.mem_of_getElem? (i := 7) rfl))))))))))))) mem_cZ)))) (by decide +kernel)) ggX11_deliver_X11_requireMessage
set_option maxRecDepth 20000 in
theorem ggX11_deliver_X7_takeOut : GoodIn wsX11_deliver wsX7_takeOut := (goodIn_ca (goodIn_r _ [17, 18, 19, 20, 21, 22, 16, 23] rfl (by decide +kernel)) (goodIn_sub (fun _ h => List.mem_cons_of_mem _ (List.mem_append_left _ (List.mem_append_left _ (List.mem_append_left _ (List.mem_append_left _ (List.mem_append_left _ (List.mem_append_left _ (List.mem_append_left _ (List.mem_append_right _ h))))))))) gw_wsX70))
set_option maxRecDepth 20000 in
theorem gX11_deliver_X7_takeOut : GoodIn wsX11_deliver (wsV RX11 253 RX7 yX7_takeOut wsX7_takeOut) := goodIn_app (goodIn_m (mem_cA (List.mem_cons_of_mem _ (List.mem_append_left _ (List.mem_append_left _ (List.mem_append_left _ (List.mem_append_left _ (List.mem_append_left _ (List.mem_append_left _ (List.mem_append_left _ (List.mem_append_left _ (List.mem_append_left _ (List.mem_append_left _ (List.mem_append_left _ (List.mem_of_getElem? (i := 12) rfl))))))))))))) (mem_cA (List.mem_cons_of_mem _ (List.mem_append_left _ (List.mem_append_left _ (List.mem_append_left _ (List.mem_append_left _ (List.mem_append_left _ (List.mem_append_left _ (List.mem_append_left _ (List.mem_append_left _ (List.mem_append_left _ (List.mem_append_left _ (List.mem_append_left _ (List.mem_of_getElem? (i := 13) rfl))))))))))))) (mem_cA (List.mem_cons_of_mem _ (List.mem_append_left _ (List.mem_append_left _ (List.mem_append_left _ (List.mem_append_left _ (List.mem_append_left _ (List.mem_append_left _ (List.mem_append_left _ (List.mem_append_left _ (List.mem_append_left _ (List.mem_append_left _ (List.mem_append_left _ (List.mem_of_getElem? (i := 14) rfl))))))))))))) (mem_cA (List.mem_cons_of_mem _ (List.mem_append_left _ (List.mem_append_left _ (List.mem_append_left _ (List.mem_append_left _ (List.mem_append_left _ (List.mem_append_left _ (List.mem_append_left _ (List.mem_append_left _ (List.mem_append_left _ (List.mem_append_left _ (List.mem_append_left _ (List.mem_of_getElem? (i := 15) rfl))))))))))))) mem_cZ)))) (by decide +kernel)) ggX11_deliver_X7_takeOut
set_option maxRecDepth 20000 in
theorem ggX11_deliver_X0_take : GoodIn wsX11_deliver wsX0_take := goodIn_ca ((goodIn_ca (goodIn_ca (goodIn_ca (goodIn_ca (goodIn_ca (goodIn_r _ [28, 29, 30, 31, 32, 33, 34, 35, 36, 37, 38, 39, 40, 41, 42, 43, 44, 45, 46, 47, 48, 27, 49, 50, 51, 52, 53, 54, 55, 56, 57, 58, 59, 60, 61, 62, 63, 64, 65, 66, 67, 68, 69, 70, 71, 72, 73, 74, 75, 76, 77, 78, 79, 80, 81, 82, 83, 84, 85, 86, 87, 88, 89, 90, 8, 91, 92, 93, 94, 95, 96, 97, 98, 99, 100, 101, 102, 103, 104, 105, 106, 107, 108, 109, 110, 111, 112, 113, 114, 115, 116, 117, 118, 119, 120, 121, 122, 123, 124, 125, 126, 127, 128, 129, 130, 131, 132, 133, 134, 135, 136, 137, 138, 139, 140, 141, 142, 143, 144, 145, 146, 147, 148, 149, 150, 151, 152, 153, 154, 155, 156, 157, 158, 159, 160, 161, 162, 163, 164, 165, 166, 167, 168, 169, 170, 171, 172, 173, 174, 175, 176, 177] rfl (by decide +kernel)) (goodIn_sub (fun _ h => List.mem_cons_of_mem _ (List.mem_append_left _ (List.mem_append_left _ (List.mem_append_left _ (List.mem_append_left _ (List.mem_append_left _ (List.mem_append_left _ (List.mem_append_right _ h)))))))) gw_wsX00)) (goodIn_sub (fun _ h => List.mem_cons_of_mem _ (List.mem_append_left _ (List.mem_append_left _ (List.mem_append_left _ (List.mem_append_left _ (List.mem_append_left _ (List.mem_append_right _ h))))))) gw_wsX50)) (goodIn_sub (fun _ h => List.mem_cons_of_mem _ (List.mem_append_left _ (List.mem_append_left _ (List.mem_append_left _ (List.mem_append_left _ (List.mem_append_right _ h)))))) gw_wsX100)) (goodIn_sub (fun _ h => List.mem_cons_of_mem _ (List.mem_append_left _ (List.mem_append_left _ (List.mem_append_left _ (List.mem_append_right _ h))))) gw_wsX10)) (goodIn_sub (fun _ h => List.mem_cons_of_mem _ (List.mem_append_left _ (List.mem_append_left _ (List.mem_append_right _ h)))) gw_wsX90))) (goodIn_sub (fun _ h => List.mem_cons_of_mem _ (List.mem_append_right _ h)) (all_fg _))
set_option maxRecDepth 20000 in
theorem gX11_deliver_X0_take : GoodIn wsX11_deliver (wsV RX11 256 RX0 yX0_take wsX0_take) := goodIn_app (goodIn_m (mem_cA (List.mem_cons_of_mem _ (List.mem_append_left _ (List.mem_append_left _ (List.mem_append_left _ (List.mem_append_left _ (List.mem_append_left _ (List.mem_append_left _ (List.mem_append_left _ (List.mem_append_left _ (List.mem_append_left _ (List.mem_append_left _ (List.mem_append_left _ (List.mem_of_getElem? (i := 23) rfl))))))))))))) (mem_cA (List.mem_cons_of_mem _ (List.mem_append_left _ (List.mem_append_left _ (List.mem_append_left _ (List.mem_append_left _ (List.mem_append_left _ (List.mem_append_left _ (List.mem_append_left _ (List.mem_append_left _ (List.mem_append_left _ (List.mem_append_left _ (List.mem_append_right _ (List.mem_append_left _ (List.mem_of_getElem? (i := 0) rfl)))))))))))))) (mem_cA (List.mem_cons_of_mem _ (List.mem_append_left _ (List.mem_append_left _ (List.mem_append_left _ (List.mem_append_left _ (List.mem_append_left _ (List.mem_append_left _ (List.mem_append_left _ (List.mem_append_left _ (List.mem_append_left _ (List.mem_append_left _ (List.mem_append_right _ (List.mem_append_left _ (List.mem_of_getElem? (i := 1) rfl)))))))))))))) (mem_cA (List.mem_cons_of_mem _ (List.mem_append_left _ (List.mem_append_left _ (List.mem_append_left _ (List.mem_append_left _ (List.mem_append_left _ (List.mem_append_left _ (List.mem_append_left _ (List.mem_append_left _ (List.mem_append_left _ (List.mem_append_left _ (List.mem_append_right _ (List.mem_append_left _ (List.mem_of_getElem? (i := 2) rfl)))))))))))))) mem_cZ)))) (by decide +kernel)) ggX11_deliver_X0_take
theorem dX11_deliver_0 : decode cX11_deliver 0 = .ok (.aload_n 0, 1) := by decide +kernel
theorem dX11_deliver_1 : decode cX11_deliver 1 = .ok (.iload_n 1, 1) := by decide +kernel
theorem dX11_deliver_2 : decode cX11_deliver 2 = .ok (.invokevirtual 243, 3) := by decide +kernel
theorem dX11_deliver_5 : decode cX11_deliver 5 = .ok (.aload_n 0, 1) := by decide +kernel
theorem dX11_deliver_6 : decode cX11_deliver 6 = .ok (.getfield 71, 3) := by decide +kernel
theorem dX11_deliver_9 : decode cX11_deliver 9 = .ok (.aload_n 0, 1) := by decide +kernel
theorem dX11_deliver_10 : decode cX11_deliver 10 = .ok (.getfield 37, 3) := by decide +kernel
theorem dX11_deliver_13 : decode cX11_deliver 13 = .ok (.iload_n 1, 1) := by decide +kernel
theorem dX11_deliver_14 : decode cX11_deliver 14 = .ok (.invokevirtual 253, 3) := by decide +kernel
theorem dX11_deliver_17 : decode cX11_deliver 17 = .ok (.aload_n 0, 1) := by decide +kernel
theorem dX11_deliver_18 : decode cX11_deliver 18 = .ok (.getfield 55, 3) := by decide +kernel
theorem dX11_deliver_21 : decode cX11_deliver 21 = .ok (.getfield 110, 3) := by decide +kernel
theorem dX11_deliver_24 : decode cX11_deliver 24 = .ok (.invokevirtual 256, 3) := by decide +kernel
theorem dX11_deliver_27 : decode cX11_deliver 27 = .ok (.ireturn, 1) := by decide +kernel
set_option maxRecDepth 20000 in
theorem ggX11_lose_X11_requireMessage : GoodIn wsX11_lose wsX11_requireMessage := goodIn_ca ((goodIn_ca (goodIn_ca (goodIn_r _ [7, 8, 9, 1, 10] rfl (by decide +kernel)) (goodIn_sub (fun _ h => List.mem_cons_of_mem _ (List.mem_append_left _ (List.mem_append_left _ (List.mem_append_left _ (List.mem_append_right _ h))))) gw_wsX110)) (goodIn_sub (fun _ h => List.mem_cons_of_mem _ (List.mem_append_left _ (List.mem_append_right _ h))) gw_wsX70))) (goodIn_sub (fun _ h => List.mem_cons_of_mem _ (List.mem_append_right _ h)) (all_fg _))
set_option maxRecDepth 20000 in
theorem gX11_lose_X11_requireMessage : GoodIn wsX11_lose (wsV RX11 243 RX11 yX11_requireMessage wsX11_requireMessage) := goodIn_app (goodIn_m (mem_cA (List.mem_cons_of_mem _ (List.mem_append_left _ (List.mem_append_left _ (List.mem_append_left _ (List.mem_append_left _ (List.mem_of_getElem? (i := 2) rfl)))))) (mem_cA (List.mem_cons_of_mem _ (List.mem_append_left _ (List.mem_append_left _ (List.mem_append_left _ (List.mem_append_left _ (List.mem_of_getElem? (i := 3) rfl)))))) (mem_cA (List.mem_cons_of_mem _ (List.mem_append_left _ (List.mem_append_left _ (List.mem_append_left _ (List.mem_append_left _ (List.mem_of_getElem? (i := 4) rfl)))))) (mem_cA (List.mem_cons_of_mem _ (List.mem_append_left _ (List.mem_append_left _ (List.mem_append_left _ (List.mem_append_left _ (List.mem_of_getElem? (i := 5) rfl)))))) mem_cZ)))) (by decide +kernel)) ggX11_lose_X11_requireMessage
set_option maxRecDepth 20000 in
theorem ggX11_lose_X7_takeOut : GoodIn wsX11_lose wsX7_takeOut := (goodIn_ca (goodIn_r _ [15, 16, 17, 18, 19, 20, 14, 21] rfl (by decide +kernel)) (goodIn_sub (fun _ h => List.mem_cons_of_mem _ (List.mem_append_left _ (List.mem_append_right _ h))) gw_wsX70))
set_option maxRecDepth 20000 in
theorem gX11_lose_X7_takeOut : GoodIn wsX11_lose (wsV RX11 253 RX7 yX7_takeOut wsX7_takeOut) := goodIn_app (goodIn_m (mem_cA (List.mem_cons_of_mem _ (List.mem_append_left _ (List.mem_append_left _ (List.mem_append_left _ (List.mem_append_left _ (List.mem_of_getElem? (i := 10) rfl)))))) (mem_cA (List.mem_cons_of_mem _ (List.mem_append_left _ (List.mem_append_left _ (List.mem_append_left _ (List.mem_append_left _ (List.mem_of_getElem? (i := 11) rfl)))))) (mem_cA (List.mem_cons_of_mem _ (List.mem_append_left _ (List.mem_append_left _ (List.mem_append_left _ (List.mem_append_left _ (List.mem_of_getElem? (i := 12) rfl)))))) (mem_cA (List.mem_cons_of_mem _ (List.mem_append_left _ (List.mem_append_left _ (List.mem_append_left _ (List.mem_append_left _ (List.mem_of_getElem? (i := 13) rfl)))))) mem_cZ)))) (by decide +kernel)) ggX11_lose_X7_takeOut
theorem dX11_lose_0 : decode cX11_lose 0 = .ok (.aload_n 0, 1) := by decide +kernel
theorem dX11_lose_1 : decode cX11_lose 1 = .ok (.iload_n 1, 1) := by decide +kernel
theorem dX11_lose_2 : decode cX11_lose 2 = .ok (.invokevirtual 243, 3) := by decide +kernel
theorem dX11_lose_5 : decode cX11_lose 5 = .ok (.aload_n 0, 1) := by decide +kernel
theorem dX11_lose_6 : decode cX11_lose 6 = .ok (.getfield 37, 3) := by decide +kernel
theorem dX11_lose_9 : decode cX11_lose 9 = .ok (.iload_n 1, 1) := by decide +kernel
theorem dX11_lose_10 : decode cX11_lose 10 = .ok (.invokevirtual 253, 3) := by decide +kernel
theorem dX11_lose_13 : decode cX11_lose 13 = .ok (.getfield 97, 3) := by decide +kernel
theorem dX11_lose_16 : decode cX11_lose 16 = .ok (.ireturn, 1) := by decide +kernel
set_option maxRecDepth 20000 in
theorem ggX11_duplicate_X11_requireMessage : GoodIn wsX11_duplicate wsX11_requireMessage := goodIn_ca ((goodIn_ca (goodIn_ca (goodIn_r _ [8, 9, 10, 1, 2] rfl (by decide +kernel)) (goodIn_sub (fun _ h => List.mem_cons_of_mem _ (List.mem_append_left _ (List.mem_append_left _ (List.mem_append_left _ (List.mem_append_right _ h))))) gw_wsX110)) (goodIn_sub (fun _ h => List.mem_cons_of_mem _ (List.mem_append_left _ (List.mem_append_left _ (List.mem_append_right _ h)))) gw_wsX70))) (goodIn_sub (fun _ h => List.mem_cons_of_mem _ (List.mem_append_right _ h)) (all_fg _))
set_option maxRecDepth 20000 in
theorem gX11_duplicate_X11_requireMessage : GoodIn wsX11_duplicate (wsV RX11 243 RX11 yX11_requireMessage wsX11_requireMessage) := goodIn_app (goodIn_m (mem_cA (List.mem_cons_of_mem _ (List.mem_append_left _ (List.mem_append_left _ (List.mem_append_left _ (List.mem_append_left _ (List.mem_append_left _ (List.mem_of_getElem? (i := 3) rfl))))))) (mem_cA (List.mem_cons_of_mem _ (List.mem_append_left _ (List.mem_append_left _ (List.mem_append_left _ (List.mem_append_left _ (List.mem_append_left _ (List.mem_of_getElem? (i := 4) rfl))))))) (mem_cA (List.mem_cons_of_mem _ (List.mem_append_left _ (List.mem_append_left _ (List.mem_append_left _ (List.mem_append_left _ (List.mem_append_left _ (List.mem_of_getElem? (i := 5) rfl))))))) (mem_cA (List.mem_cons_of_mem _ (List.mem_append_left _ (List.mem_append_left _ (List.mem_append_left _ (List.mem_append_left _ (List.mem_append_left _ (List.mem_of_getElem? (i := 6) rfl))))))) mem_cZ)))) (by decide +kernel)) ggX11_duplicate_X11_requireMessage
set_option maxRecDepth 20000 in
theorem ggX11_duplicate_X7_messageAt : GoodIn wsX11_duplicate wsX7_messageAt := (goodIn_ca (goodIn_r _ [15, 16] rfl (by decide +kernel)) (goodIn_sub (fun _ h => List.mem_cons_of_mem _ (List.mem_append_left _ (List.mem_append_left _ (List.mem_append_right _ h)))) gw_wsX70))
set_option maxRecDepth 20000 in
theorem gX11_duplicate_X7_messageAt : GoodIn wsX11_duplicate (wsV RX11 246 RX7 yX7_messageAt wsX7_messageAt) := goodIn_app (goodIn_m (mem_cA (List.mem_cons_of_mem _ (List.mem_append_left _ (List.mem_append_left _ (List.mem_append_left _ (List.mem_append_left _ (List.mem_append_left _ (List.mem_of_getElem? (i := 10) rfl))))))) (mem_cA (List.mem_cons_of_mem _ (List.mem_append_left _ (List.mem_append_left _ (List.mem_append_left _ (List.mem_append_left _ (List.mem_append_left _ (List.mem_of_getElem? (i := 11) rfl))))))) (mem_cA (List.mem_cons_of_mem _ (List.mem_append_left _ (List.mem_append_left _ (List.mem_append_left _ (List.mem_append_left _ (List.mem_append_left _ (List.mem_of_getElem? (i := 12) rfl))))))) (mem_cA (List.mem_cons_of_mem _ (List.mem_append_left _ (List.mem_append_left _ (List.mem_append_left _ (List.mem_append_left _ (List.mem_append_left _ (List.mem_of_getElem? (i := 13) rfl))))))) mem_cZ)))) (by decide +kernel)) ggX11_duplicate_X7_messageAt
set_option maxRecDepth 20000 in
theorem ggX11_duplicate_X7_freeMessage : GoodIn wsX11_duplicate wsX7_freeMessage := (goodIn_ca (goodIn_ca (goodIn_r _ [20, 21, 22, 23, 12, 13, 14, 15, 16] rfl (by decide +kernel)) (goodIn_sub (fun _ h => List.mem_cons_of_mem _ (List.mem_append_left _ (List.mem_append_left _ (List.mem_append_right _ h)))) gw_wsX70)) (goodIn_sub (fun _ h => List.mem_cons_of_mem _ (List.mem_append_left _ (List.mem_append_right _ h))) gw_wsX50))
set_option maxRecDepth 20000 in
theorem gX11_duplicate_X7_freeMessage : GoodIn wsX11_duplicate (wsV RX11 260 RX7 yX7_freeMessage wsX7_freeMessage) := goodIn_app (goodIn_m (mem_cA (List.mem_cons_of_mem _ (List.mem_append_left _ (List.mem_append_left _ (List.mem_append_left _ (List.mem_append_left _ (List.mem_append_left _ (List.mem_of_getElem? (i := 16) rfl))))))) (mem_cA (List.mem_cons_of_mem _ (List.mem_append_left _ (List.mem_append_left _ (List.mem_append_left _ (List.mem_append_left _ (List.mem_append_left _ (List.mem_of_getElem? (i := 17) rfl))))))) (mem_cA (List.mem_cons_of_mem _ (List.mem_append_left _ (List.mem_append_left _ (List.mem_append_left _ (List.mem_append_left _ (List.mem_append_left _ (List.mem_of_getElem? (i := 18) rfl))))))) (mem_cA (List.mem_cons_of_mem _ (List.mem_append_left _ (List.mem_append_left _ (List.mem_append_left _ (List.mem_append_left _ (List.mem_append_left _ (List.mem_of_getElem? (i := 13) rfl))))))) mem_cZ)))) (by decide +kernel)) ggX11_duplicate_X7_freeMessage
set_option maxRecDepth 20000 in
theorem ggX11_duplicate_X5_putFrom : GoodIn wsX11_duplicate wsX5_putFrom := (goodIn_ca (goodIn_r _ [28, 29, 30, 31, 32, 33, 34, 35, 36, 37, 38] rfl (by decide +kernel)) (goodIn_sub (fun _ h => List.mem_cons_of_mem _ (List.mem_append_left _ (List.mem_append_right _ h))) gw_wsX50))
set_option maxRecDepth 20000 in
theorem gX11_duplicate_X5_putFrom : GoodIn wsX11_duplicate (wsV RX11 264 RX5 yX5_putFrom wsX5_putFrom) := goodIn_app (goodIn_m (mem_cA (List.mem_cons_of_mem _ (List.mem_append_left _ (List.mem_append_left _ (List.mem_append_left _ (List.mem_append_left _ (List.mem_append_left _ (List.mem_of_getElem? (i := 23) rfl))))))) (mem_cA (List.mem_cons_of_mem _ (List.mem_append_left _ (List.mem_append_left _ (List.mem_append_left _ (List.mem_append_left _ (List.mem_append_right _ (List.mem_of_getElem? (i := 0) rfl))))))) (mem_cA (List.mem_cons_of_mem _ (List.mem_append_left _ (List.mem_append_left _ (List.mem_append_left _ (List.mem_append_left _ (List.mem_append_right _ (List.mem_of_getElem? (i := 1) rfl))))))) (mem_cA (List.mem_cons_of_mem _ (List.mem_append_left _ (List.mem_append_left _ (List.mem_append_left _ (List.mem_append_left _ (List.mem_append_right _ (List.mem_of_getElem? (i := 2) rfl))))))) mem_cZ)))) (by decide +kernel)) ggX11_duplicate_X5_putFrom
set_option maxRecDepth 20000 in
theorem ggX11_duplicate_X7_addFreeMessage : GoodIn wsX11_duplicate wsX7_addFreeMessage := (goodIn_ca (goodIn_r _ [42, 21, 43] rfl (by decide +kernel)) (goodIn_sub (fun _ h => List.mem_cons_of_mem _ (List.mem_append_left _ (List.mem_append_left _ (List.mem_append_right _ h)))) gw_wsX70))
set_option maxRecDepth 20000 in
theorem gX11_duplicate_X7_addFreeMessage : GoodIn wsX11_duplicate (wsV RX11 268 RX7 yX7_addFreeMessage wsX7_addFreeMessage) := goodIn_app (goodIn_m (mem_cA (List.mem_cons_of_mem _ (List.mem_append_left _ (List.mem_append_left _ (List.mem_append_left _ (List.mem_append_left _ (List.mem_append_right _ (List.mem_of_getElem? (i := 14) rfl))))))) (mem_cA (List.mem_cons_of_mem _ (List.mem_append_left _ (List.mem_append_left _ (List.mem_append_left _ (List.mem_append_left _ (List.mem_append_right _ (List.mem_of_getElem? (i := 15) rfl))))))) (mem_cA (List.mem_cons_of_mem _ (List.mem_append_left _ (List.mem_append_left _ (List.mem_append_left _ (List.mem_append_left _ (List.mem_append_right _ (List.mem_of_getElem? (i := 16) rfl))))))) (mem_cA (List.mem_cons_of_mem _ (List.mem_append_left _ (List.mem_append_left _ (List.mem_append_left _ (List.mem_append_left _ (List.mem_append_left _ (List.mem_of_getElem? (i := 13) rfl))))))) mem_cZ)))) (by decide +kernel)) ggX11_duplicate_X7_addFreeMessage
theorem dX11_duplicate_0 : decode cX11_duplicate 0 = .ok (.aload_n 0, 1) := by decide +kernel
theorem dX11_duplicate_1 : decode cX11_duplicate 1 = .ok (.iload_n 1, 1) := by decide +kernel
theorem dX11_duplicate_2 : decode cX11_duplicate 2 = .ok (.invokevirtual 243, 3) := by decide +kernel
theorem dX11_duplicate_5 : decode cX11_duplicate 5 = .ok (.aload_n 0, 1) := by decide +kernel
theorem dX11_duplicate_6 : decode cX11_duplicate 6 = .ok (.getfield 37, 3) := by decide +kernel
theorem dX11_duplicate_9 : decode cX11_duplicate 9 = .ok (.getfield 231, 3) := by decide +kernel
theorem dX11_duplicate_12 : decode cX11_duplicate 12 = .ok (.bipush 12, 2) := by decide +kernel
theorem dX11_duplicate_14 : decode cX11_duplicate 14 = .ok (.if_icmp .ne 5, 3) := by decide +kernel
theorem dX11_duplicate_17 : decode cX11_duplicate 17 = .ok (.iconst 0, 1) := by decide +kernel
theorem dX11_duplicate_18 : decode cX11_duplicate 18 = .ok (.ireturn, 1) := by decide +kernel
theorem dX11_duplicate_19 : decode cX11_duplicate 19 = .ok (.aload_n 0, 1) := by decide +kernel
theorem dX11_duplicate_20 : decode cX11_duplicate 20 = .ok (.getfield 37, 3) := by decide +kernel
theorem dX11_duplicate_23 : decode cX11_duplicate 23 = .ok (.iload_n 1, 1) := by decide +kernel
theorem dX11_duplicate_24 : decode cX11_duplicate 24 = .ok (.invokevirtual 246, 3) := by decide +kernel
theorem dX11_duplicate_27 : decode cX11_duplicate 27 = .ok (.astore_n 2, 1) := by decide +kernel
theorem dX11_duplicate_28 : decode cX11_duplicate 28 = .ok (.aload_n 0, 1) := by decide +kernel
theorem dX11_duplicate_29 : decode cX11_duplicate 29 = .ok (.getfield 37, 3) := by decide +kernel
theorem dX11_duplicate_32 : decode cX11_duplicate 32 = .ok (.invokevirtual 260, 3) := by decide +kernel
theorem dX11_duplicate_35 : decode cX11_duplicate 35 = .ok (.aload_n 2, 1) := by decide +kernel
theorem dX11_duplicate_36 : decode cX11_duplicate 36 = .ok (.iconst 0, 1) := by decide +kernel
theorem dX11_duplicate_37 : decode cX11_duplicate 37 = .ok (.aload_n 2, 1) := by decide +kernel
theorem dX11_duplicate_38 : decode cX11_duplicate 38 = .ok (.getfield 97, 3) := by decide +kernel
theorem dX11_duplicate_41 : decode cX11_duplicate 41 = .ok (.invokevirtual 264, 3) := by decide +kernel
theorem dX11_duplicate_44 : decode cX11_duplicate 44 = .ok (.aload_n 0, 1) := by decide +kernel
theorem dX11_duplicate_45 : decode cX11_duplicate 45 = .ok (.getfield 37, 3) := by decide +kernel
theorem dX11_duplicate_48 : decode cX11_duplicate 48 = .ok (.invokevirtual 268, 3) := by decide +kernel
theorem dX11_duplicate_51 : decode cX11_duplicate 51 = .ok (.iconst 1, 1) := by decide +kernel
theorem dX11_duplicate_52 : decode cX11_duplicate 52 = .ok (.ireturn, 1) := by decide +kernel
set_option maxRecDepth 20000 in
theorem ggX11_exchange_X11_requireMessage : GoodIn wsX11_exchange wsX11_requireMessage := goodIn_ca ((goodIn_ca (goodIn_ca (goodIn_r _ [6, 7, 8, 1, 9] rfl (by decide +kernel)) (goodIn_sub (fun _ h => List.mem_cons_of_mem _ (List.mem_append_left _ (List.mem_append_left _ (List.mem_append_right _ h)))) gw_wsX110)) (goodIn_sub (fun _ h => List.mem_cons_of_mem _ (List.mem_append_left _ (List.mem_append_right _ h))) gw_wsX70))) (goodIn_sub (fun _ h => List.mem_cons_of_mem _ (List.mem_append_right _ h)) (all_fg _))
set_option maxRecDepth 20000 in
theorem gX11_exchange_X11_requireMessage : GoodIn wsX11_exchange (wsV RX11 243 RX11 yX11_requireMessage wsX11_requireMessage) := goodIn_app (goodIn_m (mem_cA (List.mem_cons_of_mem _ (List.mem_append_left _ (List.mem_append_left _ (List.mem_append_left _ (List.mem_of_getElem? (i := 1) rfl))))) (mem_cA (List.mem_cons_of_mem _ (List.mem_append_left _ (List.mem_append_left _ (List.mem_append_left _ (List.mem_of_getElem? (i := 2) rfl))))) (mem_cA (List.mem_cons_of_mem _ (List.mem_append_left _ (List.mem_append_left _ (List.mem_append_left _ (List.mem_of_getElem? (i := 3) rfl))))) (mem_cA (List.mem_cons_of_mem _ (List.mem_append_left _ (List.mem_append_left _ (List.mem_append_left _ (List.mem_of_getElem? (i := 4) rfl))))) mem_cZ)))) (by decide +kernel)) ggX11_exchange_X11_requireMessage
set_option maxRecDepth 20000 in
theorem ggX11_exchange_X7_swap : GoodIn wsX11_exchange wsX7_swap := (goodIn_ca (goodIn_r _ [14, 15, 16] rfl (by decide +kernel)) (goodIn_sub (fun _ h => List.mem_cons_of_mem _ (List.mem_append_left _ (List.mem_append_right _ h))) gw_wsX70))
set_option maxRecDepth 20000 in
theorem gX11_exchange_X7_swap : GoodIn wsX11_exchange (wsV RX11 271 RX7 yX7_swap wsX7_swap) := goodIn_app (goodIn_m (mem_cA (List.mem_cons_of_mem _ (List.mem_append_left _ (List.mem_append_left _ (List.mem_append_left _ (List.mem_of_getElem? (i := 9) rfl))))) (mem_cA (List.mem_cons_of_mem _ (List.mem_append_left _ (List.mem_append_left _ (List.mem_append_left _ (List.mem_of_getElem? (i := 10) rfl))))) (mem_cA (List.mem_cons_of_mem _ (List.mem_append_left _ (List.mem_append_left _ (List.mem_append_left _ (List.mem_of_getElem? (i := 11) rfl))))) (mem_cA (List.mem_cons_of_mem _ (List.mem_append_left _ (List.mem_append_left _ (List.mem_append_left _ (List.mem_of_getElem? (i := 12) rfl))))) mem_cZ)))) (by decide +kernel)) ggX11_exchange_X7_swap
theorem dX11_exchange_0 : decode cX11_exchange 0 = .ok (.aload_n 0, 1) := by decide +kernel
theorem dX11_exchange_1 : decode cX11_exchange 1 = .ok (.iload_n 1, 1) := by decide +kernel
theorem dX11_exchange_2 : decode cX11_exchange 2 = .ok (.invokevirtual 243, 3) := by decide +kernel
theorem dX11_exchange_5 : decode cX11_exchange 5 = .ok (.aload_n 0, 1) := by decide +kernel
theorem dX11_exchange_6 : decode cX11_exchange 6 = .ok (.iload_n 2, 1) := by decide +kernel
theorem dX11_exchange_7 : decode cX11_exchange 7 = .ok (.invokevirtual 243, 3) := by decide +kernel
theorem dX11_exchange_10 : decode cX11_exchange 10 = .ok (.iload_n 1, 1) := by decide +kernel
theorem dX11_exchange_11 : decode cX11_exchange 11 = .ok (.iload_n 2, 1) := by decide +kernel
theorem dX11_exchange_12 : decode cX11_exchange 12 = .ok (.if_icmp .ne 5, 3) := by decide +kernel
theorem dX11_exchange_15 : decode cX11_exchange 15 = .ok (.iconst 0, 1) := by decide +kernel
theorem dX11_exchange_16 : decode cX11_exchange 16 = .ok (.ireturn, 1) := by decide +kernel
theorem dX11_exchange_17 : decode cX11_exchange 17 = .ok (.aload_n 0, 1) := by decide +kernel
theorem dX11_exchange_18 : decode cX11_exchange 18 = .ok (.getfield 37, 3) := by decide +kernel
theorem dX11_exchange_21 : decode cX11_exchange 21 = .ok (.iload_n 1, 1) := by decide +kernel
theorem dX11_exchange_22 : decode cX11_exchange 22 = .ok (.iload_n 2, 1) := by decide +kernel
theorem dX11_exchange_23 : decode cX11_exchange 23 = .ok (.invokevirtual 271, 3) := by decide +kernel
theorem dX11_exchange_26 : decode cX11_exchange 26 = .ok (.iconst 1, 1) := by decide +kernel
theorem dX11_exchange_27 : decode cX11_exchange 27 = .ok (.ireturn, 1) := by decide +kernel
set_option maxRecDepth 20000 in
theorem ggX11_templateAge_X0_ageOf : GoodIn wsX11_templateAge wsX0_ageOf := goodIn_ca ((goodIn_ca (goodIn_ca (goodIn_r _ [10, 11, 12, 13] rfl (by decide +kernel)) (goodIn_sub (fun _ h => List.mem_cons_of_mem _ (List.mem_append_left _ (List.mem_append_left _ (List.mem_append_left _ (List.mem_append_right _ h))))) gw_wsX00)) (goodIn_sub (fun _ h => List.mem_cons_of_mem _ (List.mem_append_left _ (List.mem_append_left _ (List.mem_append_right _ h)))) gw_wsX100))) (goodIn_sub (fun _ h => List.mem_cons_of_mem _ (List.mem_append_right _ h)) (all_fg _))
set_option maxRecDepth 20000 in
theorem gX11_templateAge_X0_ageOf : GoodIn wsX11_templateAge (wsV RX11 278 RX0 yX0_ageOf wsX0_ageOf) := goodIn_app (goodIn_m (mem_cA (List.mem_cons_of_mem _ (List.mem_append_left _ (List.mem_append_left _ (List.mem_append_left _ (List.mem_append_left _ (List.mem_append_left _ (List.mem_append_left _ (List.mem_of_getElem? (i := 5) rfl)))))))) (mem_cA (List.mem_cons_of_mem _ (List.mem_append_left _ (List.mem_append_left _ (List.mem_append_left _ (List.mem_append_left _ (List.mem_append_left _ (List.mem_append_left _ (List.mem_of_getElem? (i := 6) rfl)))))))) (mem_cA (List.mem_cons_of_mem _ (List.mem_append_left _ (List.mem_append_left _ (List.mem_append_left _ (List.mem_append_left _ (List.mem_append_left _ (List.mem_append_left _ (List.mem_of_getElem? (i := 7) rfl)))))))) (mem_cA (List.mem_cons_of_mem _ (List.mem_append_left _ (List.mem_append_left _ (List.mem_append_left _ (List.mem_append_left _ (List.mem_append_left _ (List.mem_append_left _ (List.mem_of_getElem? (i := 8) rfl)))))))) mem_cZ)))) (by decide +kernel)) ggX11_templateAge_X0_ageOf
theorem dX11_templateAge_0 : decode cX11_templateAge 0 = .ok (.iload_n 1, 1) := by decide +kernel
theorem dX11_templateAge_1 : decode cX11_templateAge 1 = .ok (.ifCond .lt 8, 3) := by decide +kernel
theorem dX11_templateAge_4 : decode cX11_templateAge 4 = .ok (.iload_n 1, 1) := by decide +kernel
theorem dX11_templateAge_5 : decode cX11_templateAge 5 = .ok (.iconst 4, 1) := by decide +kernel
theorem dX11_templateAge_6 : decode cX11_templateAge 6 = .ok (.if_icmp .lt 11, 3) := by decide +kernel
theorem dX11_templateAge_9 : decode cX11_templateAge 9 = .ok (.new 116, 3) := by decide +kernel
theorem dX11_templateAge_12 : decode cX11_templateAge 12 = .ok (.dup, 1) := by decide +kernel
theorem dX11_templateAge_13 : decode cX11_templateAge 13 = .ok (.invokespecial 118, 3) := by decide +kernel
theorem dX11_templateAge_16 : decode cX11_templateAge 16 = .ok (.athrow, 1) := by decide +kernel
theorem dX11_templateAge_17 : decode cX11_templateAge 17 = .ok (.aload_n 0, 1) := by decide +kernel
theorem dX11_templateAge_18 : decode cX11_templateAge 18 = .ok (.getfield 71, 3) := by decide +kernel
theorem dX11_templateAge_21 : decode cX11_templateAge 21 = .ok (.iload_n 1, 1) := by decide +kernel
theorem dX11_templateAge_22 : decode cX11_templateAge 22 = .ok (.aload_n 0, 1) := by decide +kernel
theorem dX11_templateAge_23 : decode cX11_templateAge 23 = .ok (.getfield 55, 3) := by decide +kernel
theorem dX11_templateAge_26 : decode cX11_templateAge 26 = .ok (.getfield 110, 3) := by decide +kernel
theorem dX11_templateAge_29 : decode cX11_templateAge 29 = .ok (.invokevirtual 278, 3) := by decide +kernel
theorem dX11_templateAge_32 : decode cX11_templateAge 32 = .ok (.ireturn, 1) := by decide +kernel
theorem dX11_counter_0 : decode cX11_counter 0 = .ok (.iload_n 1, 1) := by decide +kernel
theorem dX11_counter_1 : decode cX11_counter 1 = .ok (.ifCond .lt 9, 3) := by decide +kernel
theorem dX11_counter_4 : decode cX11_counter 4 = .ok (.iload_n 1, 1) := by decide +kernel
theorem dX11_counter_5 : decode cX11_counter 5 = .ok (.bipush 9, 2) := by decide +kernel
theorem dX11_counter_7 : decode cX11_counter 7 = .ok (.if_icmp .lt 11, 3) := by decide +kernel
theorem dX11_counter_10 : decode cX11_counter 10 = .ok (.new 116, 3) := by decide +kernel
theorem dX11_counter_13 : decode cX11_counter 13 = .ok (.dup, 1) := by decide +kernel
theorem dX11_counter_14 : decode cX11_counter 14 = .ok (.invokespecial 118, 3) := by decide +kernel
theorem dX11_counter_17 : decode cX11_counter 17 = .ok (.athrow, 1) := by decide +kernel
theorem dX11_counter_18 : decode cX11_counter 18 = .ok (.aload_n 0, 1) := by decide +kernel
theorem dX11_counter_19 : decode cX11_counter 19 = .ok (.getfield 71, 3) := by decide +kernel
theorem dX11_counter_22 : decode cX11_counter 22 = .ok (.getfield 289, 3) := by decide +kernel
theorem dX11_counter_25 : decode cX11_counter 25 = .ok (.iload_n 1, 1) := by decide +kernel
theorem dX11_counter_26 : decode cX11_counter 26 = .ok (.laload, 1) := by decide +kernel
theorem dX11_counter_27 : decode cX11_counter 27 = .ok (.lreturn, 1) := by decide +kernel
set_option maxRecDepth 20000 in
theorem ggX11_truth_X11_requireWhat : GoodIn wsX11_truth wsX11_requireWhat := goodIn_ca ((goodIn_r _ [5, 6, 7] rfl (by decide +kernel))) (goodIn_sub (fun _ h => List.mem_cons_of_mem _ (List.mem_append_left _ (List.mem_append_right _ h))) (all_fg _))
set_option maxRecDepth 20000 in
theorem gX11_truth_X11_requireWhat : GoodIn wsX11_truth (va_wsS RX11 312 yX11_requireWhat wsX11_requireWhat) := goodIn_app (goodIn_m (mem_cA (List.mem_cons_of_mem _ (List.mem_append_left _ (List.mem_append_left _ (List.mem_append_left _ (List.mem_append_left _ (List.mem_append_left _ (List.mem_append_left _ (List.mem_append_left _ (List.mem_of_getElem? (i := 1) rfl))))))))) (mem_cA (List.mem_cons_of_mem _ (List.mem_append_left _ (List.mem_append_left _ (List.mem_append_left _ (List.mem_append_left _ (List.mem_append_left _ (List.mem_append_left _ (List.mem_append_left _ (List.mem_of_getElem? (i := 2) rfl))))))))) (mem_cA (List.mem_cons_of_mem _ (List.mem_append_left _ (List.mem_append_left _ (List.mem_append_left _ (List.mem_append_left _ (List.mem_append_left _ (List.mem_append_left _ (List.mem_append_left _ (List.mem_of_getElem? (i := 3) rfl))))))))) mem_cZ))) (by decide +kernel)) ggX11_truth_X11_requireWhat
set_option maxRecDepth 20000 in
theorem ggX11_truth_X3_keyOf : GoodIn wsX11_truth wsX3_keyOf := (goodIn_r _ [11, 12, 13] rfl (by decide +kernel))
set_option maxRecDepth 20000 in
theorem gX11_truth_X3_keyOf : GoodIn wsX11_truth (va_wsS RX11 119 yX3_keyOf wsX3_keyOf) := goodIn_app (goodIn_m (mem_cA (List.mem_cons_of_mem _ (List.mem_append_left _ (List.mem_append_left _ (List.mem_append_left _ (List.mem_append_left _ (List.mem_append_left _ (List.mem_append_left _ (List.mem_append_left _ (List.mem_of_getElem? (i := 7) rfl))))))))) (mem_cA (List.mem_cons_of_mem _ (List.mem_append_left _ (List.mem_append_left _ (List.mem_append_left _ (List.mem_append_left _ (List.mem_append_left _ (List.mem_append_left _ (List.mem_append_left _ (List.mem_of_getElem? (i := 8) rfl))))))))) (mem_cA (List.mem_cons_of_mem _ (List.mem_append_left _ (List.mem_append_left _ (List.mem_append_left _ (List.mem_append_left _ (List.mem_append_left _ (List.mem_append_left _ (List.mem_append_left _ (List.mem_of_getElem? (i := 9) rfl))))))))) mem_cZ))) (by decide +kernel)) ggX11_truth_X3_keyOf
set_option maxRecDepth 20000 in
theorem ggX11_truth_X2_trueValue : GoodIn wsX11_truth wsX2_trueValue := goodIn_ca ((goodIn_ca (goodIn_ca (goodIn_ca (goodIn_r _ [18, 19, 20, 21, 22, 23, 24, 25, 26, 27, 28, 29, 30, 31, 32, 33, 34, 10, 35, 36, 37, 38, 39, 40, 41, 42, 43, 44, 45] rfl (by decide +kernel)) (goodIn_sub (fun _ h => List.mem_cons_of_mem _ (List.mem_append_left _ (List.mem_append_left _ (List.mem_append_left _ (List.mem_append_left _ (List.mem_append_right _ h)))))) gw_wsX20)) (goodIn_sub (fun _ h => List.mem_cons_of_mem _ (List.mem_append_left _ (List.mem_append_left _ (List.mem_append_left _ (List.mem_append_right _ h))))) gw_wsX40)) (goodIn_sub (fun _ h => List.mem_cons_of_mem _ (List.mem_append_left _ (List.mem_append_left _ (List.mem_append_right _ h)))) gw_wsX30))) (goodIn_sub (fun _ h => List.mem_cons_of_mem _ (List.mem_append_right _ h)) (all_fg _))
set_option maxRecDepth 20000 in
theorem gX11_truth_X2_trueValue : GoodIn wsX11_truth (wsV RX11 329 RX2 yX2_trueValue wsX2_trueValue) := goodIn_app (goodIn_m (mem_cA (List.mem_cons_of_mem _ (List.mem_append_left _ (List.mem_append_left _ (List.mem_append_left _ (List.mem_append_left _ (List.mem_append_left _ (List.mem_append_left _ (List.mem_append_left _ (List.mem_of_getElem? (i := 13) rfl))))))))) (mem_cA (List.mem_cons_of_mem _ (List.mem_append_left _ (List.mem_append_left _ (List.mem_append_left _ (List.mem_append_left _ (List.mem_append_left _ (List.mem_append_left _ (List.mem_append_left _ (List.mem_of_getElem? (i := 14) rfl))))))))) (mem_cA (List.mem_cons_of_mem _ (List.mem_append_left _ (List.mem_append_left _ (List.mem_append_left _ (List.mem_append_left _ (List.mem_append_left _ (List.mem_append_left _ (List.mem_append_left _ (List.mem_of_getElem? (i := 15) rfl))))))))) (mem_cA (List.mem_cons_of_mem _ (List.mem_append_left _ (List.mem_append_left _ (List.mem_append_left _ (List.mem_append_left _ (List.mem_append_left _ (List.mem_append_left _ (List.mem_append_left _ (List.mem_of_getElem? (i := 16) rfl))))))))) mem_cZ)))) (by decide +kernel)) ggX11_truth_X2_trueValue
theorem dX11_truth_0 : decode cX11_truth 0 = .ok (.iload 5, 2) := by decide +kernel
theorem dX11_truth_2 : decode cX11_truth 2 = .ok (.invokestatic 312, 3) := by decide +kernel
theorem dX11_truth_5 : decode cX11_truth 5 = .ok (.aload_n 0, 1) := by decide +kernel
theorem dX11_truth_6 : decode cX11_truth 6 = .ok (.getfield 55, 3) := by decide +kernel
theorem dX11_truth_9 : decode cX11_truth 9 = .ok (.iload_n 1, 1) := by decide +kernel
theorem dX11_truth_10 : decode cX11_truth 10 = .ok (.iload_n 2, 1) := by decide +kernel
theorem dX11_truth_11 : decode cX11_truth 11 = .ok (.iload_n 3, 1) := by decide +kernel
theorem dX11_truth_12 : decode cX11_truth 12 = .ok (.iload 4, 2) := by decide +kernel
theorem dX11_truth_14 : decode cX11_truth 14 = .ok (.invokestatic 119, 3) := by decide +kernel
theorem dX11_truth_17 : decode cX11_truth 17 = .ok (.iload 5, 2) := by decide +kernel
theorem dX11_truth_19 : decode cX11_truth 19 = .ok (.invokevirtual 329, 3) := by decide +kernel
theorem dX11_truth_22 : decode cX11_truth 22 = .ok (.lreturn, 1) := by decide +kernel
theorem hv_X11_deliver_55 : Cond.fieldLink RX11 55 "FlowExporter" (TX11 5).2.1 (TX11 5).2.2.1 ∈ wsX11_deliver := List.mem_cons_of_mem _ (List.mem_append_left _ (List.mem_append_left _ (List.mem_append_left _ (List.mem_append_left _ (List.mem_append_left _ (List.mem_append_left _ (List.mem_append_left _ (List.mem_append_left _ (List.mem_append_left _ (List.mem_append_left _ (List.mem_append_left _ (List.mem_of_getElem? (i := 2) rfl))))))))))))

theorem hu_X11_deliver_X2 : ∀ w ∈ u_ws RX2 TX2 13, w ∈ wsX11_deliver := fun _ h => List.mem_cons_of_mem _ (List.mem_append_left _ (List.mem_append_left _ (List.mem_append_left _ (List.mem_append_left _ (List.mem_append_left _ (List.mem_append_left _ (List.mem_append_left _ (List.mem_append_left _ (List.mem_append_right _ (h))))))))))

theorem hv_X11_deliver_110 : Cond.fieldLink RX11 110 "FlowExporter$Exporter" (TX2 4).2.1 (TX2 4).2.2.1 ∈ wsX11_deliver := List.mem_cons_of_mem _ (List.mem_append_left _ (List.mem_append_left _ (List.mem_append_left _ (List.mem_append_left _ (List.mem_append_left _ (List.mem_append_left _ (List.mem_append_left _ (List.mem_append_left _ (List.mem_append_left _ (List.mem_append_left _ (List.mem_append_left _ (List.mem_of_getElem? (i := 3) rfl))))))))))))

set_option maxHeartbeats 4000000 in
set_option maxRecDepth 100000 in
theorem s_X11_deliver (G : EnvG) (l : Launch) (hl9 : l.stackTraces = false) (Φ : Hm) (sz x ca : Nat) (a : Int32) (hx : G.2.2.2 ≤ x) (hI : In G x ca Φ) (hca : ca < 1000000) : CtB G l yX11_deliver wsX11_deliver ({ frames := 7, cells := 1, slots := 6, locals := 156 }) 1 6 [.ref x, .int a] Φ sz (fun v Φ1 sz1 => (∃ r9 : Int32, v = some (.int r9)) ∧ sz1 = sz ∧ In G x (ca + 1) Φ1 ∧ Fr x (fun j9 => (46 ≤ j9 ∧ j9 < 74) ∨ (121 ≤ j9 ∧ j9 < 149)) Φ Φ1) (fun Φ1 => In G x ca Φ1 ∧ Fr x (fun j9 => False) Φ Φ1) [xIO] := by
  refine CtB.of (cc := cX11_deliver) (maxL := 2) (ret := (some .int)) (by decide) rfl (Nat.le_of_ble_eq_true rfl) ?_
  intro p9 e9 s9 m9 w9 t9 k9 B htab9
  show Z p9 l e9 _ s9 m9 _ w9 t9 k9 _ G 2 0 [(0, .ref x), (1, .int a)] [] Φ sz 0 0
  refine z_aload_n B dX11_deliver_0 rfl 0 rfl ?_
  refine z_iload_n B dX11_deliver_1 rfl 1 rfl ?_
  have h_1 := in0 (k := 0) hI rfl
  have h_2 : Φ x = some (o_ 13 [.ref (x + 1), .ref (x + 3), .ref (x + 24), .ref (x + 46), .ref (x + 74), .ref (x + 80), .ref (x + 132), .ref (x + 121)]) := h_1
  refine zb_callV (As := [.int a]) (rest := []) B htab9 (s_X11_requireMessage G l hl9 Φ sz x (ca) a hx hI ) (cwV 1 B.1.2.2.2.2 gX11_deliver_X11_requireMessage rfl rfl rfl (by decide +kernel) ⟨Nat.le_of_ble_eq_true rfl, Nat.le_of_ble_eq_true rfl⟩) h_2 rfl rfl rfl rfl (Nat.le_of_ble_eq_true rfl) dX11_deliver_2 ⟨Nat.le_of_ble_eq_true rfl, Nat.le_of_ble_eq_true rfl⟩ ⟨Nat.le_of_ble_eq_true rfl, Nat.le_of_ble_eq_true rfl⟩ (by decide) (fun Φ9 h9 => ⟨h9.1, fun b9 h8 => ((h9.2 b9 h8).trans ((fun b9 h9 => rfl) b9 h8))⟩) (fun r_1 Φ1 sz1 st1 hp1 hs1 => ?_)
  obtain ⟨rfl, hq1, hI1, hF1⟩ := hp1
  subst sz1
  replace hs1 : st1 = [] := hs1
  subst st1
  replace hI1 : In G x (ca) Φ1 := hI1
  refine z_aload_n B dX11_deliver_5 rfl 0 rfl ?_
  have h_3 : Φ1 x = some (o_ 13 [.ref (x + 1), .ref (x + 3), .ref (x + 24), .ref (x + 46), .ref (x + 74), .ref (x + 80), .ref (x + 132), .ref (x + 121)]) := ((hF1 x (fun j9 h8 h7 => (show False from h7).elim)).trans h_2)
  refine z_get (ref := "FlowExporter") (C := RX11) (T := TX11) (N := 8) (ci := 13) (v := .ref (x + 132)) B hu_X11_deliver_X11 rfl 6 (Nat.le_of_ble_eq_true rfl) hv_X11_deliver_71 rfl h_3 rfl dX11_deliver_6 ?_
  refine z_aload_n B dX11_deliver_9 rfl 0 rfl ?_
  refine z_get (ref := "FlowExporter") (C := RX11) (T := TX11) (N := 8) (ci := 13) (v := .ref (x + 46)) B hu_X11_deliver_X11 rfl 3 (Nat.le_of_ble_eq_true rfl) hv_X11_deliver_37 rfl h_3 rfl dX11_deliver_10 ?_
  refine z_iload_n B dX11_deliver_13 rfl 1 rfl ?_
  obtain ⟨n_1, v_1, h_4, b_1⟩ := in11 (k := 46) hI1 rfl
  have h_5 : Φ1 (x + 46) = some (o_ 9 [.ref (x + 47), .int (nI n_1), .int v_1]) := h_4
  refine z_callV (As := [.int a]) (rest := [.ref (x + 132)]) B (s_X7_takeOut G l Φ1 sz x (ca) a hx hI1 ) (cwV 1 B.1.2.2.2.2 gX11_deliver_X7_takeOut rfl rfl rfl (by decide +kernel) ⟨Nat.le_of_ble_eq_true rfl, Nat.le_of_ble_eq_true rfl⟩) h_5 rfl rfl rfl rfl (Nat.le_of_ble_eq_true rfl) dX11_deliver_14 ⟨Nat.le_of_ble_eq_true rfl, Nat.le_of_ble_eq_true rfl⟩ (fun r_2 Φ2 sz2 st2 hp2 hs2 => ?_)
  obtain ⟨⟨m_1, hm_1, rfl⟩, hq2, hI2, hF2⟩ := hp2
  subst sz2
  replace hs2 : st2 = [.ref (x + (48 + 2 * m_1)), .ref (x + 132)] := hs2
  subst st2
  replace hI2 : In G x (ca) Φ2 := hI2
  replace hm_1 : m_1 < 13 := hm_1
  refine z_aload_n B dX11_deliver_17 rfl 0 rfl ?_
  have h_6 : Φ2 x = some (o_ 13 [.ref (x + 1), .ref (x + 3), .ref (x + 24), .ref (x + 46), .ref (x + 74), .ref (x + 80), .ref (x + 132), .ref (x + 121)]) := ((hF2 x fq_532).trans h_3)
  refine z_get (ref := "FlowExporter") (C := RX11) (T := TX11) (N := 8) (ci := 13) (v := .ref (x + 80)) B hu_X11_deliver_X11 rfl 5 (Nat.le_of_ble_eq_true rfl) hv_X11_deliver_55 rfl h_6 rfl dX11_deliver_18 ?_
  obtain ⟨v_2, v_3, v_4, v_5, v_6, v_7, v_8, v_9, v_10, h_7, b_2⟩ := in16 (k := 80) hI2 rfl
  have h_8 : Φ2 (x + 80) = some (o_ 4 [.ref (x + 3), .ref (x + 74), .ref (x + 81), .ref (x + 95), .int v_2, .int v_3, .int v_4, .int v_5, .int v_6, .int v_7, .long v_8, .long v_9, .long v_10]) := h_7
  refine z_get (ref := "FlowExporter$Exporter") (C := RX2) (T := TX2) (N := 13) (ci := 4) (v := .int v_2) B hu_X11_deliver_X2 rfl 4 (Nat.le_of_ble_eq_true rfl) hv_X11_deliver_110 rfl h_8 rfl dX11_deliver_21 ?_
  obtain ⟨n_2, v_11, v_12, h_9, b_3⟩ := in25 (k := 132) hI2 rfl
  have h_10 : Φ2 (x + 132) = some (o_ 2 [.ref (x + 3), .ref (x + 121), .ref (x + 133), .ref (x + 134), .ref (x + 135), .ref (x + 137), .ref (x + 138), .ref (x + 139), .ref (x + 140), .int (nI n_2), .int v_11, .int v_12]) := h_9
  refine z_callV (As := [.ref (x + (48 + 2 * m_1)), .int v_2]) (rest := []) B (s_X0_take G l Φ2 sz x (ca) (48 + 2 * m_1) v_2 hx hI2 (kd_q hm_1) (show ca < 1000000 by omega)) (cwV 2 B.1.2.2.2.2 gX11_deliver_X0_take rfl rfl rfl (by decide +kernel) ⟨Nat.le_of_ble_eq_true rfl, Nat.le_of_ble_eq_true rfl⟩) h_10 rfl rfl rfl rfl (Nat.le_of_ble_eq_true rfl) dX11_deliver_24 ⟨Nat.le_of_ble_eq_true rfl, Nat.le_of_ble_eq_true rfl⟩ (fun r_3 Φ3 sz3 st3 hp3 hs3 => ?_)
  obtain ⟨⟨v_13, rfl⟩, hq3, hI3, hF3⟩ := hp3
  subst sz3
  replace hs3 : st3 = [.int v_13] := hs3
  subst st3
  replace hI3 : In G x (ca + 1) Φ3 := hI3
  exact zb_ret (Nat.le_of_ble_eq_true rfl) (Nat.le_of_ble_eq_true rfl) (z_ret_i B dX11_deliver_27 ⟨⟨_, rfl⟩, rfl, hI3, (fun b9 h9 => ((hF3 b9 (fun j9 h8 h7 => h9 j9 h8 (fq_537 j9 h7))).trans ((hF2 b9 (fun j9 h8 h7 => h9 j9 h8 (fq_536 j9 h7))).trans ((hF1 b9 (fun j9 h8 h7 => (show False from h7).elim)).trans rfl))))⟩)

theorem hu_X11_lose_X11 : ∀ w ∈ u_ws RX11 TX11 8, w ∈ wsX11_lose := fun _ h => List.mem_cons_of_mem _ (List.mem_append_left _ (List.mem_append_left _ (List.mem_append_left _ (List.mem_append_right _ (h)))))

theorem hv_X11_lose_37 : Cond.fieldLink RX11 37 "FlowExporter" (TX11 3).2.1 (TX11 3).2.2.1 ∈ wsX11_lose := List.mem_cons_of_mem _ (List.mem_append_left _ (List.mem_append_left _ (List.mem_append_left _ (List.mem_append_left _ (List.mem_of_getElem? (i := 0) rfl)))))

theorem hu_X11_lose_X5 : ∀ w ∈ u_ws RX5 TX5 2, w ∈ wsX11_lose := fun _ h => List.mem_cons_of_mem _ (List.mem_append_left _ (List.mem_append_left _ (List.mem_append_right _ (h))))

theorem hv_X11_lose_97 : Cond.fieldLink RX11 97 "FlowExporter$Message" (TX5 1).2.1 (TX5 1).2.2.1 ∈ wsX11_lose := List.mem_cons_of_mem _ (List.mem_append_left _ (List.mem_append_left _ (List.mem_append_left _ (List.mem_append_left _ (List.mem_of_getElem? (i := 1) rfl)))))

theorem fq_678 : ∀ j9 : Nat, (j9 = 46 ∨ j9 = 47) → (46 ≤ j9 ∧ j9 < 74) := by
  intro j9 h
  omega

set_option maxHeartbeats 4000000 in
set_option maxRecDepth 100000 in
theorem s_X11_lose (G : EnvG) (l : Launch) (hl9 : l.stackTraces = false) (Φ : Hm) (sz x ca : Nat) (a : Int32) (hx : G.2.2.2 ≤ x) (hI : In G x ca Φ)  : CtB G l yX11_lose wsX11_lose ({ frames := 7, cells := 1, slots := 6, locals := 102 }) 1 6 [.ref x, .int a] Φ sz (fun v Φ1 sz1 => (∃ r9 : Int32, v = some (.int r9)) ∧ sz1 = sz ∧ In G x (ca) Φ1 ∧ Fr x (fun j9 => 46 ≤ j9 ∧ j9 < 74) Φ Φ1) (fun Φ1 => In G x ca Φ1 ∧ Fr x (fun j9 => False) Φ Φ1) [xIO] := by
  refine CtB.of (cc := cX11_lose) (maxL := 2) (ret := (some .int)) (by decide) rfl (Nat.le_of_ble_eq_true rfl) ?_
  intro p9 e9 s9 m9 w9 t9 k9 B htab9
  show Z p9 l e9 _ s9 m9 _ w9 t9 k9 _ G 2 0 [(0, .ref x), (1, .int a)] [] Φ sz 0 0
  refine z_aload_n B dX11_lose_0 rfl 0 rfl ?_
  refine z_iload_n B dX11_lose_1 rfl 1 rfl ?_
  have h_1 := in0 (k := 0) hI rfl
  have h_2 : Φ x = some (o_ 13 [.ref (x + 1), .ref (x + 3), .ref (x + 24), .ref (x + 46), .ref (x + 74), .ref (x + 80), .ref (x + 132), .ref (x + 121)]) := h_1
  refine zb_callV (As := [.int a]) (rest := []) B htab9 (s_X11_requireMessage G l hl9 Φ sz x (ca) a hx hI ) (cwV 1 B.1.2.2.2.2 gX11_lose_X11_requireMessage rfl rfl rfl (by decide +kernel) ⟨Nat.le_of_ble_eq_true rfl, Nat.le_of_ble_eq_true rfl⟩) h_2 rfl rfl rfl rfl (Nat.le_of_ble_eq_true rfl) dX11_lose_2 ⟨Nat.le_of_ble_eq_true rfl, Nat.le_of_ble_eq_true rfl⟩ ⟨Nat.le_of_ble_eq_true rfl, Nat.le_of_ble_eq_true rfl⟩ (by decide) (fun Φ9 h9 => ⟨h9.1, fun b9 h8 => ((h9.2 b9 h8).trans ((fun b9 h9 => rfl) b9 h8))⟩) (fun r_1 Φ1 sz1 st1 hp1 hs1 => ?_)
  obtain ⟨rfl, hq1, hI1, hF1⟩ := hp1
  subst sz1
  replace hs1 : st1 = [] := hs1
  subst st1
  replace hI1 : In G x (ca) Φ1 := hI1
  refine z_aload_n B dX11_lose_5 rfl 0 rfl ?_
  have h_3 : Φ1 x = some (o_ 13 [.ref (x + 1), .ref (x + 3), .ref (x + 24), .ref (x + 46), .ref (x + 74), .ref (x + 80), .ref (x + 132), .ref (x + 121)]) := ((hF1 x (fun j9 h8 h7 => (show False from h7).elim)).trans h_2)
  refine z_get (ref := "FlowExporter") (C := RX11) (T := TX11) (N := 8) (ci := 13) (v := .ref (x + 46)) B hu_X11_lose_X11 rfl 3 (Nat.le_of_ble_eq_true rfl) hv_X11_lose_37 rfl h_3 rfl dX11_lose_6 ?_
  refine z_iload_n B dX11_lose_9 rfl 1 rfl ?_
  obtain ⟨n_1, v_1, h_4, b_1⟩ := in11 (k := 46) hI1 rfl
  have h_5 : Φ1 (x + 46) = some (o_ 9 [.ref (x + 47), .int (nI n_1), .int v_1]) := h_4
  refine z_callV (As := [.int a]) (rest := []) B (s_X7_takeOut G l Φ1 sz x (ca) a hx hI1 ) (cwV 1 B.1.2.2.2.2 gX11_lose_X7_takeOut rfl rfl rfl (by decide +kernel) ⟨Nat.le_of_ble_eq_true rfl, Nat.le_of_ble_eq_true rfl⟩) h_5 rfl rfl rfl rfl (Nat.le_of_ble_eq_true rfl) dX11_lose_10 ⟨Nat.le_of_ble_eq_true rfl, Nat.le_of_ble_eq_true rfl⟩ (fun r_2 Φ2 sz2 st2 hp2 hs2 => ?_)
  obtain ⟨⟨m_1, hm_1, rfl⟩, hq2, hI2, hF2⟩ := hp2
  subst sz2
  replace hs2 : st2 = [.ref (x + (48 + 2 * m_1))] := hs2
  subst st2
  replace hI2 : In G x (ca) Φ2 := hI2
  replace hm_1 : m_1 < 13 := hm_1
  obtain ⟨n_2, h_6, b_2⟩ := in1 (k := 48 + 2 * m_1) hI2 (kd_q hm_1)
  replace b_2 : n_2 ≤ cap (48 + 2 * m_1) := b_2
  have b_3 := cap_le (48 + 2 * m_1)
  have h_7 : Φ2 (x + (48 + 2 * m_1)) = some (o_ 7 [.ref (x + (48 + 2 * m_1 + 1)), .int (nI n_2)]) := h_6
  refine z_get (ref := "FlowExporter$Message") (C := RX5) (T := TX5) (N := 2) (ci := 7) (v := .int (nI n_2)) B hu_X11_lose_X5 rfl 1 (Nat.le_of_ble_eq_true rfl) hv_X11_lose_97 rfl h_7 rfl dX11_lose_13 ?_
  exact zb_ret (Nat.le_of_ble_eq_true rfl) (Nat.le_of_ble_eq_true rfl) (z_ret_i B dX11_lose_16 ⟨⟨_, rfl⟩, rfl, hI2, (fun b9 h9 => ((hF2 b9 (fun j9 h8 h7 => h9 j9 h8 (fq_678 j9 h7))).trans ((hF1 b9 (fun j9 h8 h7 => (show False from h7).elim)).trans rfl)))⟩)

theorem hu_X11_duplicate_X11 : ∀ w ∈ u_ws RX11 TX11 8, w ∈ wsX11_duplicate := fun _ h => List.mem_cons_of_mem _ (List.mem_append_left _ (List.mem_append_left _ (List.mem_append_left _ (List.mem_append_right _ (h)))))

theorem hv_X11_duplicate_37 : Cond.fieldLink RX11 37 "FlowExporter" (TX11 3).2.1 (TX11 3).2.2.1 ∈ wsX11_duplicate := List.mem_cons_of_mem _ (List.mem_append_left _ (List.mem_append_left _ (List.mem_append_left _ (List.mem_append_left _ (List.mem_append_left _ (List.mem_of_getElem? (i := 0) rfl))))))

theorem hu_X11_duplicate_X7 : ∀ w ∈ u_ws RX7 TX7 3, w ∈ wsX11_duplicate := fun _ h => List.mem_cons_of_mem _ (List.mem_append_left _ (List.mem_append_left _ (List.mem_append_right _ (h))))

theorem hv_X11_duplicate_231 : Cond.fieldLink RX11 231 "FlowExporter$Queue" (TX7 1).2.1 (TX7 1).2.2.1 ∈ wsX11_duplicate := List.mem_cons_of_mem _ (List.mem_append_left _ (List.mem_append_left _ (List.mem_append_left _ (List.mem_append_left _ (List.mem_append_left _ (List.mem_of_getElem? (i := 1) rfl))))))

theorem hu_X11_duplicate_X5 : ∀ w ∈ u_ws RX5 TX5 2, w ∈ wsX11_duplicate := fun _ h => List.mem_cons_of_mem _ (List.mem_append_left _ (List.mem_append_right _ (h)))

theorem hv_X11_duplicate_97 : Cond.fieldLink RX11 97 "FlowExporter$Message" (TX5 1).2.1 (TX5 1).2.2.1 ∈ wsX11_duplicate := List.mem_cons_of_mem _ (List.mem_append_left _ (List.mem_append_left _ (List.mem_append_left _ (List.mem_append_left _ (List.mem_append_left _ (List.mem_of_getElem? (i := 2) rfl))))))

theorem fq_685 {x : Nat} : ∀ j9 : Nat, x = x + j9 → (48 ≤ j9 ∧ j9 < 74) → False := by
  intro j9 h1 h2
  omega

theorem fq_686 {x : Nat} : ∀ j9 : Nat, x + 46 = x + j9 → (48 ≤ j9 ∧ j9 < 74) → False := by
  intro j9 h1 h2
  omega

theorem fq_687 : ∀ j9 : Nat, (48 ≤ j9 ∧ j9 < 74) → (46 ≤ j9 ∧ j9 < 74) := by
  intro j9 h
  omega

theorem fq_688 : ∀ j9 : Nat, (j9 = 46) → (46 ≤ j9 ∧ j9 < 74) := by
  intro j9 h
  omega

set_option maxHeartbeats 4000000 in
set_option maxRecDepth 100000 in
theorem s_X11_duplicate (G : EnvG) (l : Launch) (hl9 : l.stackTraces = false) (Φ : Hm) (sz x ca : Nat) (a : Int32) (hx : G.2.2.2 ≤ x) (hI : In G x ca Φ)  : CtB G l yX11_duplicate wsX11_duplicate ({ frames := 7, cells := 1, slots := 6, locals := 102 }) 1 6 [.ref x, .int a] Φ sz (fun v Φ1 sz1 => (∃ r9 : Int32, v = some (.int r9) ∧ (r9 = 0 ∨ r9 = 1)) ∧ sz1 = sz ∧ In G x (ca) Φ1 ∧ Fr x (fun j9 => 46 ≤ j9 ∧ j9 < 74) Φ Φ1) (fun Φ1 => In G x ca Φ1 ∧ Fr x (fun j9 => False) Φ Φ1) [xIO] := by
  refine CtB.of (cc := cX11_duplicate) (maxL := 3) (ret := (some .boolean)) (by decide) rfl (Nat.le_of_ble_eq_true rfl) ?_
  intro p9 e9 s9 m9 w9 t9 k9 B htab9
  show Z p9 l e9 _ s9 m9 _ w9 t9 k9 _ G 3 0 [(0, .ref x), (1, .int a)] [] Φ sz 0 0
  refine z_aload_n B dX11_duplicate_0 rfl 0 rfl ?_
  refine z_iload_n B dX11_duplicate_1 rfl 1 rfl ?_
  have h_1 := in0 (k := 0) hI rfl
  have h_2 : Φ x = some (o_ 13 [.ref (x + 1), .ref (x + 3), .ref (x + 24), .ref (x + 46), .ref (x + 74), .ref (x + 80), .ref (x + 132), .ref (x + 121)]) := h_1
  refine zb_callV (As := [.int a]) (rest := []) B htab9 (s_X11_requireMessage G l hl9 Φ sz x (ca) a hx hI ) (cwV 1 B.1.2.2.2.2 gX11_duplicate_X11_requireMessage rfl rfl rfl (by decide +kernel) ⟨Nat.le_of_ble_eq_true rfl, Nat.le_of_ble_eq_true rfl⟩) h_2 rfl rfl rfl rfl (Nat.le_of_ble_eq_true rfl) dX11_duplicate_2 ⟨Nat.le_of_ble_eq_true rfl, Nat.le_of_ble_eq_true rfl⟩ ⟨Nat.le_of_ble_eq_true rfl, Nat.le_of_ble_eq_true rfl⟩ (by decide) (fun Φ9 h9 => ⟨h9.1, fun b9 h8 => ((h9.2 b9 h8).trans ((fun b9 h9 => rfl) b9 h8))⟩) (fun r_1 Φ1 sz1 st1 hp1 hs1 => ?_)
  obtain ⟨rfl, hq1, hI1, hF1⟩ := hp1
  subst sz1
  replace hs1 : st1 = [] := hs1
  subst st1
  replace hI1 : In G x (ca) Φ1 := hI1
  refine z_aload_n B dX11_duplicate_5 rfl 0 rfl ?_
  have h_3 : Φ1 x = some (o_ 13 [.ref (x + 1), .ref (x + 3), .ref (x + 24), .ref (x + 46), .ref (x + 74), .ref (x + 80), .ref (x + 132), .ref (x + 121)]) := ((hF1 x (fun j9 h8 h7 => (show False from h7).elim)).trans h_2)
  refine z_get (ref := "FlowExporter") (C := RX11) (T := TX11) (N := 8) (ci := 13) (v := .ref (x + 46)) B hu_X11_duplicate_X11 rfl 3 (Nat.le_of_ble_eq_true rfl) hv_X11_duplicate_37 rfl h_3 rfl dX11_duplicate_6 ?_
  obtain ⟨n_1, v_1, h_4, b_1⟩ := in11 (k := 46) hI1 rfl
  have h_5 : Φ1 (x + 46) = some (o_ 9 [.ref (x + 47), .int (nI n_1), .int v_1]) := h_4
  refine z_get (ref := "FlowExporter$Queue") (C := RX7) (T := TX7) (N := 3) (ci := 9) (v := .int (nI n_1)) B hu_X11_duplicate_X7 rfl 1 (Nat.le_of_ble_eq_true rfl) hv_X11_duplicate_231 rfl h_5 rfl dX11_duplicate_9 ?_
  refine z_bipush (v := 12) B dX11_duplicate_12 rfl ?_
  refine z_icmp_ne (tgt := 19) B dX11_duplicate_14 rfl (fun c_1 => ?_) (fun c_1 => ?_)
  · have e_1 : ¬ (n_1 = 12) := fun h9 => c_1 ((nI_eq (a := n_1) (b := 12) (by omega) (by omega)).mpr h9)
    refine z_aload_n B dX11_duplicate_19 rfl 0 rfl ?_
    refine z_get (ref := "FlowExporter") (C := RX11) (T := TX11) (N := 8) (ci := 13) (v := .ref (x + 46)) B hu_X11_duplicate_X11 rfl 3 (Nat.le_of_ble_eq_true rfl) hv_X11_duplicate_37 rfl h_3 rfl dX11_duplicate_20 ?_
    refine z_iload_n B dX11_duplicate_23 rfl 1 rfl ?_
    refine z_callV (As := [.int a]) (rest := []) B (s_X7_messageAt G l Φ1 sz x (ca) a hx hI1 ) (cwV 1 B.1.2.2.2.2 gX11_duplicate_X7_messageAt rfl rfl rfl (by decide +kernel) ⟨Nat.le_of_ble_eq_true rfl, Nat.le_of_ble_eq_true rfl⟩) h_5 rfl rfl rfl rfl (Nat.le_of_ble_eq_true rfl) dX11_duplicate_24 ⟨Nat.le_of_ble_eq_true rfl, Nat.le_of_ble_eq_true rfl⟩ (fun r_2 Φ2 sz2 st2 hp2 hs2 => ?_)
    obtain ⟨⟨m_1, hm_1, rfl⟩, hq2, hI2, hF2⟩ := hp2
    subst sz2
    replace hs2 : st2 = [.ref (x + (48 + 2 * m_1))] := hs2
    subst st2
    replace hI2 : In G x (ca) Φ2 := hI2
    replace hm_1 : m_1 < 13 := hm_1
    refine z_astore_n (lv' := [(2, .ref (x + (48 + 2 * m_1))), (0, .ref x), (1, .int a)]) B dX11_duplicate_27 rfl (Nat.le_of_ble_eq_true rfl) rfl ?_
    refine z_aload_n B dX11_duplicate_28 rfl 1 rfl ?_
    have h_6 : Φ2 x = some (o_ 13 [.ref (x + 1), .ref (x + 3), .ref (x + 24), .ref (x + 46), .ref (x + 74), .ref (x + 80), .ref (x + 132), .ref (x + 121)]) := ((hF2 x (fun j9 h8 h7 => (show False from h7).elim)).trans h_3)
    refine z_get (ref := "FlowExporter") (C := RX11) (T := TX11) (N := 8) (ci := 13) (v := .ref (x + 46)) B hu_X11_duplicate_X11 rfl 3 (Nat.le_of_ble_eq_true rfl) hv_X11_duplicate_37 rfl h_6 rfl dX11_duplicate_29 ?_
    have h_7 : Φ2 (x + 46) = some (o_ 9 [.ref (x + 47), .int (nI n_1), .int v_1]) := ((hF2 (x + 46) (fun j9 h8 h7 => (show False from h7).elim)).trans h_5)
    refine z_callV (As := []) (rest := []) B (s_X7_freeMessage G l Φ2 sz x (ca)  hx hI2 ) (cwV 0 B.1.2.2.2.2 gX11_duplicate_X7_freeMessage rfl rfl rfl (by decide +kernel) ⟨Nat.le_of_ble_eq_true rfl, Nat.le_of_ble_eq_true rfl⟩) h_7 rfl rfl rfl rfl (Nat.le_of_ble_eq_true rfl) dX11_duplicate_32 ⟨Nat.le_of_ble_eq_true rfl, Nat.le_of_ble_eq_true rfl⟩ (fun r_3 Φ3 sz3 st3 hp3 hs3 => ?_)
    obtain ⟨⟨m_2, hm_2, rfl⟩, hq3, hI3, hF3⟩ := hp3
    subst sz3
    replace hs3 : st3 = [.ref (x + (48 + 2 * m_2))] := hs3
    subst st3
    replace hI3 : In G x (ca) Φ3 := hI3
    replace hm_2 : m_2 < 13 := hm_2
    refine z_aload_n B dX11_duplicate_35 rfl 0 rfl ?_
    refine z_iconst (v := 0) B dX11_duplicate_36 rfl ?_
    refine z_aload_n B dX11_duplicate_37 rfl 0 rfl ?_
    obtain ⟨n_2, h_8, b_2⟩ := in1 (k := 48 + 2 * m_1) hI3 (kd_q hm_1)
    replace b_2 : n_2 ≤ cap (48 + 2 * m_1) := b_2
    have b_3 := cap_le (48 + 2 * m_1)
    have h_9 : Φ3 (x + (48 + 2 * m_1)) = some (o_ 7 [.ref (x + (48 + 2 * m_1 + 1)), .int (nI n_2)]) := h_8
    refine z_get (ref := "FlowExporter$Message") (C := RX5) (T := TX5) (N := 2) (ci := 7) (v := .int (nI n_2)) B hu_X11_duplicate_X5 rfl 1 (Nat.le_of_ble_eq_true rfl) hv_X11_duplicate_97 rfl h_9 rfl dX11_duplicate_38 ?_
    obtain ⟨n_3, h_10, b_4⟩ := in1 (k := 48 + 2 * m_2) hI3 (kd_q hm_2)
    replace b_4 : n_3 ≤ cap (48 + 2 * m_2) := b_4
    have b_5 := cap_le (48 + 2 * m_2)
    have h_11 : Φ3 (x + (48 + 2 * m_2)) = some (o_ 7 [.ref (x + (48 + 2 * m_2 + 1)), .int (nI n_3)]) := h_10
    refine z_callV (As := [.ref (x + (48 + 2 * m_1)), .int 0, .int (nI n_2)]) (rest := []) B (s_X5_putFrom G l Φ3 sz x (ca) (48 + 2 * m_2) (48 + 2 * m_1) 0 (nI n_2) hx hI3 (kd_q hm_2) (kd_q hm_1)) (cwV 3 B.1.2.2.2.2 gX11_duplicate_X5_putFrom rfl rfl rfl (by decide +kernel) ⟨Nat.le_of_ble_eq_true rfl, Nat.le_of_ble_eq_true rfl⟩) h_11 rfl rfl rfl rfl (Nat.le_of_ble_eq_true rfl) dX11_duplicate_41 ⟨Nat.le_of_ble_eq_true rfl, Nat.le_of_ble_eq_true rfl⟩ (fun r_4 Φ4 sz4 st4 hp4 hs4 => ?_)
    obtain ⟨rfl, hq4, hI4, hF4⟩ := hp4
    subst sz4
    replace hs4 : st4 = [] := hs4
    subst st4
    replace hI4 : In G x (ca) Φ4 := hI4
    refine z_aload_n B dX11_duplicate_44 rfl 1 rfl ?_
    have h_12 : Φ4 x = some (o_ 13 [.ref (x + 1), .ref (x + 3), .ref (x + 24), .ref (x + 46), .ref (x + 74), .ref (x + 80), .ref (x + 132), .ref (x + 121)]) := ((hF4 x (fun j9 h8 h7 => by have h6 : j9 = (48 + 2 * m_2) ∨ j9 = (48 + 2 * m_2) + 1 := h7; omega)).trans ((hF3 x fq_685).trans h_6))
    refine z_get (ref := "FlowExporter") (C := RX11) (T := TX11) (N := 8) (ci := 13) (v := .ref (x + 46)) B hu_X11_duplicate_X11 rfl 3 (Nat.le_of_ble_eq_true rfl) hv_X11_duplicate_37 rfl h_12 rfl dX11_duplicate_45 ?_
    have h_13 : Φ4 (x + 46) = some (o_ 9 [.ref (x + 47), .int (nI n_1), .int v_1]) := ((hF4 (x + 46) (fun j9 h8 h7 => by have h6 : j9 = (48 + 2 * m_2) ∨ j9 = (48 + 2 * m_2) + 1 := h7; omega)).trans ((hF3 (x + 46) fq_686).trans h_7))
    refine z_callV (As := []) (rest := []) B (s_X7_addFreeMessage G l Φ4 sz x (ca)  hx hI4 ) (cwV 0 B.1.2.2.2.2 gX11_duplicate_X7_addFreeMessage rfl rfl rfl (by decide +kernel) ⟨Nat.le_of_ble_eq_true rfl, Nat.le_of_ble_eq_true rfl⟩) h_13 rfl rfl rfl rfl (Nat.le_of_ble_eq_true rfl) dX11_duplicate_48 ⟨Nat.le_of_ble_eq_true rfl, Nat.le_of_ble_eq_true rfl⟩ (fun r_5 Φ5 sz5 st5 hp5 hs5 => ?_)
    obtain ⟨rfl, hq5, hI5, hF5⟩ := hp5
    subst sz5
    replace hs5 : st5 = [] := hs5
    subst st5
    replace hI5 : In G x (ca) Φ5 := hI5
    refine z_iconst (v := 1) B dX11_duplicate_51 rfl ?_
    exact zb_ret (Nat.le_of_ble_eq_true rfl) (Nat.le_of_ble_eq_true rfl) (z_ret_z B dX11_duplicate_52 (by decide) ⟨⟨_, rfl, by decide⟩, rfl, hI5, (fun b9 h9 => ((hF5 b9 (fun j9 h8 h7 => h9 j9 h8 (fq_688 j9 h7))).trans ((hF4 b9 (fun j9 h8 h7 => h9 j9 h8 (show 46 ≤ j9 ∧ j9 < 74 by have h6 : j9 = (48 + 2 * m_2) ∨ j9 = (48 + 2 * m_2) + 1 := h7; omega))).trans ((hF3 b9 (fun j9 h8 h7 => h9 j9 h8 (fq_687 j9 h7))).trans ((hF2 b9 (fun j9 h8 h7 => (show False from h7).elim)).trans ((hF1 b9 (fun j9 h8 h7 => (show False from h7).elim)).trans rfl))))))⟩)
  · have e_2 : n_1 = 12 := (nI_eq (a := n_1) (b := 12) (by omega) (by omega)).mp c_1
    refine z_iconst (v := 0) B dX11_duplicate_17 rfl ?_
    exact zb_ret (Nat.le_of_ble_eq_true rfl) (Nat.le_of_ble_eq_true rfl) (z_ret_z B dX11_duplicate_18 (by decide) ⟨⟨_, rfl, by decide⟩, rfl, hI1, (fun b9 h9 => ((hF1 b9 (fun j9 h8 h7 => (show False from h7).elim)).trans rfl))⟩)

theorem hu_X11_exchange_X11 : ∀ w ∈ u_ws RX11 TX11 8, w ∈ wsX11_exchange := fun _ h => List.mem_cons_of_mem _ (List.mem_append_left _ (List.mem_append_left _ (List.mem_append_right _ (h))))

theorem hv_X11_exchange_37 : Cond.fieldLink RX11 37 "FlowExporter" (TX11 3).2.1 (TX11 3).2.2.1 ∈ wsX11_exchange := List.mem_cons_of_mem _ (List.mem_append_left _ (List.mem_append_left _ (List.mem_append_left _ (List.mem_of_getElem? (i := 0) rfl))))

theorem fq_691 : ∀ j9 : Nat, (j9 = 47) → (46 ≤ j9 ∧ j9 < 74) := by
  intro j9 h
  omega

set_option maxHeartbeats 4000000 in
set_option maxRecDepth 100000 in
theorem s_X11_exchange (G : EnvG) (l : Launch) (hl9 : l.stackTraces = false) (Φ : Hm) (sz x ca : Nat) (a : Int32) (b : Int32) (hx : G.2.2.2 ≤ x) (hI : In G x ca Φ)  : CtB G l yX11_exchange wsX11_exchange ({ frames := 7, cells := 2, slots := 12, locals := 102 }) 2 12 [.ref x, .int a, .int b] Φ sz (fun v Φ1 sz1 => (∃ r9 : Int32, v = some (.int r9) ∧ (r9 = 0 ∨ r9 = 1)) ∧ sz1 = sz ∧ In G x (ca) Φ1 ∧ Fr x (fun j9 => 46 ≤ j9 ∧ j9 < 74) Φ Φ1) (fun Φ1 => In G x ca Φ1 ∧ Fr x (fun j9 => False) Φ Φ1) [xIO] := by
  refine CtB.of (cc := cX11_exchange) (maxL := 3) (ret := (some .boolean)) (by decide) rfl (Nat.le_of_ble_eq_true rfl) ?_
  intro p9 e9 s9 m9 w9 t9 k9 B htab9
  show Z p9 l e9 _ s9 m9 _ w9 t9 k9 _ G 3 0 [(0, .ref x), (1, .int a), (2, .int b)] [] Φ sz 0 0
  refine z_aload_n B dX11_exchange_0 rfl 0 rfl ?_
  refine z_iload_n B dX11_exchange_1 rfl 1 rfl ?_
  have h_1 := in0 (k := 0) hI rfl
  have h_2 : Φ x = some (o_ 13 [.ref (x + 1), .ref (x + 3), .ref (x + 24), .ref (x + 46), .ref (x + 74), .ref (x + 80), .ref (x + 132), .ref (x + 121)]) := h_1
  refine zb_callV (As := [.int a]) (rest := []) B htab9 (s_X11_requireMessage G l hl9 Φ sz x (ca) a hx hI ) (cwV 1 B.1.2.2.2.2 gX11_exchange_X11_requireMessage rfl rfl rfl (by decide +kernel) ⟨Nat.le_of_ble_eq_true rfl, Nat.le_of_ble_eq_true rfl⟩) h_2 rfl rfl rfl rfl (Nat.le_of_ble_eq_true rfl) dX11_exchange_2 ⟨Nat.le_of_ble_eq_true rfl, Nat.le_of_ble_eq_true rfl⟩ ⟨Nat.le_of_ble_eq_true rfl, Nat.le_of_ble_eq_true rfl⟩ (by decide) (fun Φ9 h9 => ⟨h9.1, fun b9 h8 => ((h9.2 b9 h8).trans ((fun b9 h9 => rfl) b9 h8))⟩) (fun r_1 Φ1 sz1 st1 hp1 hs1 => ?_)
  obtain ⟨rfl, hq1, hI1, hF1⟩ := hp1
  subst sz1
  replace hs1 : st1 = [] := hs1
  subst st1
  replace hI1 : In G x (ca) Φ1 := hI1
  refine z_aload_n B dX11_exchange_5 rfl 0 rfl ?_
  refine z_iload_n B dX11_exchange_6 rfl 2 rfl ?_
  have h_3 : Φ1 x = some (o_ 13 [.ref (x + 1), .ref (x + 3), .ref (x + 24), .ref (x + 46), .ref (x + 74), .ref (x + 80), .ref (x + 132), .ref (x + 121)]) := ((hF1 x (fun j9 h8 h7 => (show False from h7).elim)).trans h_2)
  refine zb_callV (As := [.int b]) (rest := []) B htab9 (s_X11_requireMessage G l hl9 Φ1 sz x (ca) b hx hI1 ) (cwV 1 B.1.2.2.2.2 gX11_exchange_X11_requireMessage rfl rfl rfl (by decide +kernel) ⟨Nat.le_of_ble_eq_true rfl, Nat.le_of_ble_eq_true rfl⟩) h_3 rfl rfl rfl rfl (Nat.le_of_ble_eq_true rfl) dX11_exchange_7 ⟨Nat.le_of_ble_eq_true rfl, Nat.le_of_ble_eq_true rfl⟩ ⟨Nat.le_of_ble_eq_true rfl, Nat.le_of_ble_eq_true rfl⟩ (by decide) (fun Φ9 h9 => ⟨h9.1, fun b9 h8 => ((h9.2 b9 h8).trans ((fun b9 h9 => ((hF1 b9 (fun j9 h8 h7 => (show False from h7).elim)).trans rfl)) b9 h8))⟩) (fun r_2 Φ2 sz2 st2 hp2 hs2 => ?_)
  obtain ⟨rfl, hq2, hI2, hF2⟩ := hp2
  subst sz2
  replace hs2 : st2 = [] := hs2
  subst st2
  replace hI2 : In G x (ca) Φ2 := hI2
  refine z_iload_n B dX11_exchange_10 rfl 1 rfl ?_
  refine z_iload_n B dX11_exchange_11 rfl 2 rfl ?_
  refine z_icmp_ne (tgt := 17) B dX11_exchange_12 rfl (fun c_1 => ?_) (fun c_1 => ?_)
  · refine z_aload_n B dX11_exchange_17 rfl 0 rfl ?_
    have h_4 : Φ2 x = some (o_ 13 [.ref (x + 1), .ref (x + 3), .ref (x + 24), .ref (x + 46), .ref (x + 74), .ref (x + 80), .ref (x + 132), .ref (x + 121)]) := ((hF2 x (fun j9 h8 h7 => (show False from h7).elim)).trans h_3)
    refine z_get (ref := "FlowExporter") (C := RX11) (T := TX11) (N := 8) (ci := 13) (v := .ref (x + 46)) B hu_X11_exchange_X11 rfl 3 (Nat.le_of_ble_eq_true rfl) hv_X11_exchange_37 rfl h_4 rfl dX11_exchange_18 ?_
    refine z_iload_n B dX11_exchange_21 rfl 1 rfl ?_
    refine z_iload_n B dX11_exchange_22 rfl 2 rfl ?_
    obtain ⟨n_1, v_1, h_5, b_1⟩ := in11 (k := 46) hI2 rfl
    have h_6 : Φ2 (x + 46) = some (o_ 9 [.ref (x + 47), .int (nI n_1), .int v_1]) := h_5
    refine z_callV (As := [.int a, .int b]) (rest := []) B (s_X7_swap G l Φ2 sz x (ca) a b hx hI2 ) (cwV 2 B.1.2.2.2.2 gX11_exchange_X7_swap rfl rfl rfl (by decide +kernel) ⟨Nat.le_of_ble_eq_true rfl, Nat.le_of_ble_eq_true rfl⟩) h_6 rfl rfl rfl rfl (Nat.le_of_ble_eq_true rfl) dX11_exchange_23 ⟨Nat.le_of_ble_eq_true rfl, Nat.le_of_ble_eq_true rfl⟩ (fun r_3 Φ3 sz3 st3 hp3 hs3 => ?_)
    obtain ⟨rfl, hq3, hI3, hF3⟩ := hp3
    subst sz3
    replace hs3 : st3 = [] := hs3
    subst st3
    replace hI3 : In G x (ca) Φ3 := hI3
    refine z_iconst (v := 1) B dX11_exchange_26 rfl ?_
    exact zb_ret (Nat.le_of_ble_eq_true rfl) (Nat.le_of_ble_eq_true rfl) (z_ret_z B dX11_exchange_27 (by decide) ⟨⟨_, rfl, by decide⟩, rfl, hI3, (fun b9 h9 => ((hF3 b9 (fun j9 h8 h7 => h9 j9 h8 (fq_691 j9 h7))).trans ((hF2 b9 (fun j9 h8 h7 => (show False from h7).elim)).trans ((hF1 b9 (fun j9 h8 h7 => (show False from h7).elim)).trans rfl))))⟩)
  · refine z_iconst (v := 0) B dX11_exchange_15 rfl ?_
    exact zb_ret (Nat.le_of_ble_eq_true rfl) (Nat.le_of_ble_eq_true rfl) (z_ret_z B dX11_exchange_16 (by decide) ⟨⟨_, rfl, by decide⟩, rfl, hI2, (fun b9 h9 => ((hF2 b9 (fun j9 h8 h7 => (show False from h7).elim)).trans ((hF1 b9 (fun j9 h8 h7 => (show False from h7).elim)).trans rfl)))⟩)

theorem hu_X11_templateAge_X11 : ∀ w ∈ u_ws RX11 TX11 8, w ∈ wsX11_templateAge := fun _ h => List.mem_cons_of_mem _ (List.mem_append_left _ (List.mem_append_left _ (List.mem_append_left _ (List.mem_append_left _ (List.mem_append_left _ (List.mem_append_right _ (h)))))))

theorem hv_X11_templateAge_71 : Cond.fieldLink RX11 71 "FlowExporter" (TX11 6).2.1 (TX11 6).2.2.1 ∈ wsX11_templateAge := List.mem_cons_of_mem _ (List.mem_append_left _ (List.mem_append_left _ (List.mem_append_left _ (List.mem_append_left _ (List.mem_append_left _ (List.mem_append_left _ (List.mem_of_getElem? (i := 2) rfl)))))))

theorem hv_X11_templateAge_55 : Cond.fieldLink RX11 55 "FlowExporter" (TX11 5).2.1 (TX11 5).2.2.1 ∈ wsX11_templateAge := List.mem_cons_of_mem _ (List.mem_append_left _ (List.mem_append_left _ (List.mem_append_left _ (List.mem_append_left _ (List.mem_append_left _ (List.mem_append_left _ (List.mem_of_getElem? (i := 3) rfl)))))))

theorem hu_X11_templateAge_X2 : ∀ w ∈ u_ws RX2 TX2 13, w ∈ wsX11_templateAge := fun _ h => List.mem_cons_of_mem _ (List.mem_append_left _ (List.mem_append_left _ (List.mem_append_left _ (List.mem_append_left _ (List.mem_append_right _ (h))))))

theorem hv_X11_templateAge_110 : Cond.fieldLink RX11 110 "FlowExporter$Exporter" (TX2 4).2.1 (TX2 4).2.2.1 ∈ wsX11_templateAge := List.mem_cons_of_mem _ (List.mem_append_left _ (List.mem_append_left _ (List.mem_append_left _ (List.mem_append_left _ (List.mem_append_left _ (List.mem_append_left _ (List.mem_of_getElem? (i := 4) rfl)))))))

set_option maxHeartbeats 4000000 in
set_option maxRecDepth 100000 in
theorem s_X11_templateAge (G : EnvG) (l : Launch) (hl9 : l.stackTraces = false) (Φ : Hm) (sz x ca : Nat) (a : Int32) (hx : G.2.2.2 ≤ x) (hI : In G x ca Φ)  : CtB G l yX11_templateAge wsX11_templateAge ({ frames := 6, cells := 1, slots := 6, locals := 81 }) 1 6 [.ref x, .int a] Φ sz (fun v Φ1 sz1 => (∃ r9 : Int32, v = some (.int r9)) ∧ sz1 = sz ∧ In G x (ca) Φ1 ∧ Fr x (fun j9 => False) Φ Φ1) (fun Φ1 => In G x ca Φ1 ∧ Fr x (fun j9 => False) Φ Φ1) [xIA] := by
  refine CtB.of (cc := cX11_templateAge) (maxL := 2) (ret := (some .int)) (by decide) rfl (Nat.le_of_ble_eq_true rfl) ?_
  intro p9 e9 s9 m9 w9 t9 k9 B htab9
  show Z p9 l e9 _ s9 m9 _ w9 t9 k9 _ G 2 0 [(0, .ref x), (1, .int a)] [] Φ sz 0 0
  refine z_iload_n B dX11_templateAge_0 rfl 1 rfl ?_
  refine z_if_lt (tgt := 9) B dX11_templateAge_1 rfl (fun c_1 => ?_) (fun c_1 => ?_)
  · exact zb_throw (cls := xIA) (ik := 116) (ic := 118) B hl9 htab9 (by decide) ⟨hI, (fun b9 h9 => rfl)⟩ (by decide) (by decide +kernel) (by decide +kernel) (by decide +kernel) (by decide +kernel) (by decide +kernel) (by decide +kernel) (by decide +kernel) dX11_templateAge_9 dX11_templateAge_12 dX11_templateAge_13 dX11_templateAge_16 ⟨Nat.le_of_ble_eq_true rfl, Nat.le_of_ble_eq_true rfl, Nat.le_of_ble_eq_true rfl, Nat.le_of_ble_eq_true rfl⟩ ⟨Nat.le_of_ble_eq_true rfl, Nat.le_of_ble_eq_true rfl⟩
  · obtain ⟨n_1, e_1, rfl⟩ := nI_of c_1
    refine z_iload_n B dX11_templateAge_4 rfl 1 rfl ?_
    refine z_iconst (v := 4) B dX11_templateAge_5 rfl ?_
    refine z_icmp_lt (tgt := 17) B dX11_templateAge_6 rfl (fun c_2 => ?_) (fun c_2 => ?_)
    · have e_2 : n_1 < 4 := (nI_ltI (a := n_1) (b := 4) (by omega) (by omega)).mp c_2
      refine z_aload_n B dX11_templateAge_17 rfl 0 rfl ?_
      have h_1 := in0 (k := 0) hI rfl
      have h_2 : Φ x = some (o_ 13 [.ref (x + 1), .ref (x + 3), .ref (x + 24), .ref (x + 46), .ref (x + 74), .ref (x + 80), .ref (x + 132), .ref (x + 121)]) := h_1
      refine z_get (ref := "FlowExporter") (C := RX11) (T := TX11) (N := 8) (ci := 13) (v := .ref (x + 132)) B hu_X11_templateAge_X11 rfl 6 (Nat.le_of_ble_eq_true rfl) hv_X11_templateAge_71 rfl h_2 rfl dX11_templateAge_18 ?_
      refine z_iload_n B dX11_templateAge_21 rfl 1 rfl ?_
      refine z_aload_n B dX11_templateAge_22 rfl 0 rfl ?_
      refine z_get (ref := "FlowExporter") (C := RX11) (T := TX11) (N := 8) (ci := 13) (v := .ref (x + 80)) B hu_X11_templateAge_X11 rfl 5 (Nat.le_of_ble_eq_true rfl) hv_X11_templateAge_55 rfl h_2 rfl dX11_templateAge_23 ?_
      obtain ⟨v_1, v_2, v_3, v_4, v_5, v_6, v_7, v_8, v_9, h_3, b_1⟩ := in16 (k := 80) hI rfl
      have h_4 : Φ (x + 80) = some (o_ 4 [.ref (x + 3), .ref (x + 74), .ref (x + 81), .ref (x + 95), .int v_1, .int v_2, .int v_3, .int v_4, .int v_5, .int v_6, .long v_7, .long v_8, .long v_9]) := h_3
      refine z_get (ref := "FlowExporter$Exporter") (C := RX2) (T := TX2) (N := 13) (ci := 4) (v := .int v_1) B hu_X11_templateAge_X2 rfl 4 (Nat.le_of_ble_eq_true rfl) hv_X11_templateAge_110 rfl h_4 rfl dX11_templateAge_26 ?_
      obtain ⟨n_2, v_10, v_11, h_5, b_2⟩ := in25 (k := 132) hI rfl
      have h_6 : Φ (x + 132) = some (o_ 2 [.ref (x + 3), .ref (x + 121), .ref (x + 133), .ref (x + 134), .ref (x + 135), .ref (x + 137), .ref (x + 138), .ref (x + 139), .ref (x + 140), .int (nI n_2), .int v_10, .int v_11]) := h_5
      refine z_callV (As := [.int (nI n_1), .int v_1]) (rest := []) B (s_X0_ageOf G l Φ sz x (ca) (nI n_1) v_1 hx hI ) (cwV 2 B.1.2.2.2.2 gX11_templateAge_X0_ageOf rfl rfl rfl (by decide +kernel) ⟨Nat.le_of_ble_eq_true rfl, Nat.le_of_ble_eq_true rfl⟩) h_6 rfl rfl rfl rfl (Nat.le_of_ble_eq_true rfl) dX11_templateAge_29 ⟨Nat.le_of_ble_eq_true rfl, Nat.le_of_ble_eq_true rfl⟩ (fun r_1 Φ1 sz1 st1 hp1 hs1 => ?_)
      obtain ⟨⟨v_12, rfl⟩, hq1, hI1, hF1⟩ := hp1
      subst sz1
      replace hs1 : st1 = [.int v_12] := hs1
      subst st1
      replace hI1 : In G x (ca) Φ1 := hI1
      exact zb_ret (Nat.le_of_ble_eq_true rfl) (Nat.le_of_ble_eq_true rfl) (z_ret_i B dX11_templateAge_32 ⟨⟨_, rfl⟩, rfl, hI1, (fun b9 h9 => ((hF1 b9 (fun j9 h8 h7 => (show False from h7).elim)).trans rfl))⟩)
    · have e_3 : ¬ (n_1 < 4) := fun h9 => c_2 ((nI_ltI (a := n_1) (b := 4) (by omega) (by omega)).mpr h9)
      exact zb_throw (cls := xIA) (ik := 116) (ic := 118) B hl9 htab9 (by decide) ⟨hI, (fun b9 h9 => rfl)⟩ (by decide) (by decide +kernel) (by decide +kernel) (by decide +kernel) (by decide +kernel) (by decide +kernel) (by decide +kernel) (by decide +kernel) dX11_templateAge_9 dX11_templateAge_12 dX11_templateAge_13 dX11_templateAge_16 ⟨Nat.le_of_ble_eq_true rfl, Nat.le_of_ble_eq_true rfl, Nat.le_of_ble_eq_true rfl, Nat.le_of_ble_eq_true rfl⟩ ⟨Nat.le_of_ble_eq_true rfl, Nat.le_of_ble_eq_true rfl⟩

theorem hu_X11_counter_X11 : ∀ w ∈ u_ws RX11 TX11 8, w ∈ wsX11_counter := fun _ h => List.mem_cons_of_mem _ (List.mem_append_left _ (List.mem_append_left _ (List.mem_append_left _ (List.mem_append_right _ (h)))))

theorem hv_X11_counter_71 : Cond.fieldLink RX11 71 "FlowExporter" (TX11 6).2.1 (TX11 6).2.2.1 ∈ wsX11_counter := List.mem_cons_of_mem _ (List.mem_append_left _ (List.mem_append_left _ (List.mem_append_left _ (List.mem_append_left _ (List.mem_of_getElem? (i := 2) rfl)))))

theorem hu_X11_counter_X0 : ∀ w ∈ u_ws RX0 TX0 12, w ∈ wsX11_counter := fun _ h => List.mem_cons_of_mem _ (List.mem_append_left _ (List.mem_append_left _ (List.mem_append_right _ (h))))

theorem hv_X11_counter_289 : Cond.fieldLink RX11 289 "FlowExporter$Collector" (TX0 7).2.1 (TX0 7).2.2.1 ∈ wsX11_counter := List.mem_cons_of_mem _ (List.mem_append_left _ (List.mem_append_left _ (List.mem_append_left _ (List.mem_append_left _ (List.mem_of_getElem? (i := 3) rfl)))))

set_option maxHeartbeats 4000000 in
set_option maxRecDepth 100000 in
theorem s_X11_counter (G : EnvG) (l : Launch) (hl9 : l.stackTraces = false) (Φ : Hm) (sz x ca : Nat) (a : Int32) (hx : G.2.2.2 ≤ x) (hI : In G x ca Φ)  : CtB G l yX11_counter wsX11_counter ({ frames := 6, cells := 1, slots := 6, locals := 81 }) 1 6 [.ref x, .int a] Φ sz (fun v Φ1 sz1 => (∃ r9 : Int64, v = some (.long r9)) ∧ sz1 = sz ∧ In G x (ca) Φ1 ∧ Fr x (fun j9 => False) Φ Φ1) (fun Φ1 => In G x ca Φ1 ∧ Fr x (fun j9 => False) Φ Φ1) [xIA] := by
  refine CtB.of (cc := cX11_counter) (maxL := 2) (ret := (some .long)) (by decide) rfl (Nat.le_of_ble_eq_true rfl) ?_
  intro p9 e9 s9 m9 w9 t9 k9 B htab9
  show Z p9 l e9 _ s9 m9 _ w9 t9 k9 _ G 2 0 [(0, .ref x), (1, .int a)] [] Φ sz 0 0
  refine z_iload_n B dX11_counter_0 rfl 1 rfl ?_
  refine z_if_lt (tgt := 10) B dX11_counter_1 rfl (fun c_1 => ?_) (fun c_1 => ?_)
  · exact zb_throw (cls := xIA) (ik := 116) (ic := 118) B hl9 htab9 (by decide) ⟨hI, (fun b9 h9 => rfl)⟩ (by decide) (by decide +kernel) (by decide +kernel) (by decide +kernel) (by decide +kernel) (by decide +kernel) (by decide +kernel) (by decide +kernel) dX11_counter_10 dX11_counter_13 dX11_counter_14 dX11_counter_17 ⟨Nat.le_of_ble_eq_true rfl, Nat.le_of_ble_eq_true rfl, Nat.le_of_ble_eq_true rfl, Nat.le_of_ble_eq_true rfl⟩ ⟨Nat.le_of_ble_eq_true rfl, Nat.le_of_ble_eq_true rfl⟩
  · obtain ⟨n_1, e_1, rfl⟩ := nI_of c_1
    refine z_iload_n B dX11_counter_4 rfl 1 rfl ?_
    refine z_bipush (v := 9) B dX11_counter_5 rfl ?_
    refine z_icmp_lt (tgt := 18) B dX11_counter_7 rfl (fun c_2 => ?_) (fun c_2 => ?_)
    · have e_2 : n_1 < 9 := (nI_ltI (a := n_1) (b := 9) (by omega) (by omega)).mp c_2
      refine z_aload_n B dX11_counter_18 rfl 0 rfl ?_
      have h_1 := in0 (k := 0) hI rfl
      have h_2 : Φ x = some (o_ 13 [.ref (x + 1), .ref (x + 3), .ref (x + 24), .ref (x + 46), .ref (x + 74), .ref (x + 80), .ref (x + 132), .ref (x + 121)]) := h_1
      refine z_get (ref := "FlowExporter") (C := RX11) (T := TX11) (N := 8) (ci := 13) (v := .ref (x + 132)) B hu_X11_counter_X11 rfl 6 (Nat.le_of_ble_eq_true rfl) hv_X11_counter_71 rfl h_2 rfl dX11_counter_19 ?_
      obtain ⟨n_2, v_1, v_2, h_3, b_1⟩ := in25 (k := 132) hI rfl
      have h_4 : Φ (x + 132) = some (o_ 2 [.ref (x + 3), .ref (x + 121), .ref (x + 133), .ref (x + 134), .ref (x + 135), .ref (x + 137), .ref (x + 138), .ref (x + 139), .ref (x + 140), .int (nI n_2), .int v_1, .int v_2]) := h_3
      refine z_get (ref := "FlowExporter$Collector") (C := RX0) (T := TX0) (N := 12) (ci := 2) (v := .ref (x + 139)) B hu_X11_counter_X0 rfl 7 (Nat.le_of_ble_eq_true rfl) hv_X11_counter_289 rfl h_4 rfl dX11_counter_22 ?_
      refine z_iload_n B dX11_counter_25 rfl 1 rfl ?_
      obtain ⟨f_1, h_5⟩ := in28 (k := 139) hI rfl
      have h_6 : Φ (x + 139) = some (al_ G 9 f_1) := h_5
      refine z_lald B h_6 (vp_in_nI (by omega) (by omega)) dX11_counter_26 ?_
      refine z_fl (fun v_3 => ?_)
      exact zb_ret (Nat.le_of_ble_eq_true rfl) (Nat.le_of_ble_eq_true rfl) (z_ret_l B dX11_counter_27 ⟨⟨_, rfl⟩, rfl, hI, (fun b9 h9 => rfl)⟩)
    · have e_3 : ¬ (n_1 < 9) := fun h9 => c_2 ((nI_ltI (a := n_1) (b := 9) (by omega) (by omega)).mpr h9)
      exact zb_throw (cls := xIA) (ik := 116) (ic := 118) B hl9 htab9 (by decide) ⟨hI, (fun b9 h9 => rfl)⟩ (by decide) (by decide +kernel) (by decide +kernel) (by decide +kernel) (by decide +kernel) (by decide +kernel) (by decide +kernel) (by decide +kernel) dX11_counter_10 dX11_counter_13 dX11_counter_14 dX11_counter_17 ⟨Nat.le_of_ble_eq_true rfl, Nat.le_of_ble_eq_true rfl, Nat.le_of_ble_eq_true rfl, Nat.le_of_ble_eq_true rfl⟩ ⟨Nat.le_of_ble_eq_true rfl, Nat.le_of_ble_eq_true rfl⟩

theorem hu_X11_truth_X11 : ∀ w ∈ u_ws RX11 TX11 8, w ∈ wsX11_truth := fun _ h => List.mem_cons_of_mem _ (List.mem_append_left _ (List.mem_append_left _ (List.mem_append_left _ (List.mem_append_left _ (List.mem_append_left _ (List.mem_append_right _ (h)))))))

theorem hv_X11_truth_55 : Cond.fieldLink RX11 55 "FlowExporter" (TX11 5).2.1 (TX11 5).2.2.1 ∈ wsX11_truth := List.mem_cons_of_mem _ (List.mem_append_left _ (List.mem_append_left _ (List.mem_append_left _ (List.mem_append_left _ (List.mem_append_left _ (List.mem_append_left _ (List.mem_append_left _ (List.mem_of_getElem? (i := 0) rfl))))))))

set_option maxHeartbeats 4000000 in
set_option maxRecDepth 100000 in
theorem s_X11_truth (G : EnvG) (l : Launch) (hl9 : l.stackTraces = false) (Φ : Hm) (sz x ca : Nat) (a : Int32) (b : Int32) (d : Int32) (f : Int32) (g : Int32) (hx : G.2.2.2 ≤ x) (hI : In G x ca Φ)  : CtB G l yX11_truth wsX11_truth ({ frames := 7, cells := 1, slots := 6, locals := 101 }) 1 6 [.ref x, .int a, .int b, .int d, .int f, .int g] Φ sz (fun v Φ1 sz1 => (∃ r9 : Int64, v = some (.long r9)) ∧ sz1 = sz ∧ In G x (ca) Φ1 ∧ Fr x (fun j9 => False) Φ Φ1) (fun Φ1 => In G x ca Φ1 ∧ Fr x (fun j9 => False) Φ Φ1) [xIA] := by
  refine CtB.of (cc := cX11_truth) (maxL := 6) (ret := (some .long)) (by decide) rfl (Nat.le_of_ble_eq_true rfl) ?_
  intro p9 e9 s9 m9 w9 t9 k9 B htab9
  show Z p9 l e9 _ s9 m9 _ w9 t9 k9 _ G 6 0 [(0, .ref x), (1, .int a), (2, .int b), (3, .int d), (4, .int f), (5, .int g)] [] Φ sz 0 0
  refine z_iload B dX11_truth_0 5 rfl ?_
  refine zb_callS (As := [.int g]) (rest := []) B htab9 (s_X11_requireWhat G l hl9 Φ sz x (ca) g hx hI ) (va_cwS 1 B.1.2.2.2.2 gX11_truth_X11_requireWhat rfl rfl rfl (by decide +kernel) ⟨Nat.le_of_ble_eq_true rfl, Nat.le_of_ble_eq_true rfl⟩) rfl rfl (Nat.le_of_ble_eq_true rfl) dX11_truth_2 ⟨Nat.le_of_ble_eq_true rfl, Nat.le_of_ble_eq_true rfl⟩ ⟨Nat.le_of_ble_eq_true rfl, Nat.le_of_ble_eq_true rfl⟩ (by decide) (fun Φ9 h9 => ⟨h9.1, fun b9 h8 => ((h9.2 b9 h8).trans ((fun b9 h9 => rfl) b9 h8))⟩) (fun r_1 Φ1 sz1 st1 hp1 hs1 => ?_)
  obtain ⟨rfl, hq1, hI1, hF1⟩ := hp1
  subst sz1
  replace hs1 : st1 = [] := hs1
  subst st1
  replace hI1 : In G x (ca) Φ1 := hI1
  refine z_aload_n B dX11_truth_5 rfl 0 rfl ?_
  have h_1 := in0 (k := 0) hI1 rfl
  have h_2 : Φ1 x = some (o_ 13 [.ref (x + 1), .ref (x + 3), .ref (x + 24), .ref (x + 46), .ref (x + 74), .ref (x + 80), .ref (x + 132), .ref (x + 121)]) := h_1
  refine z_get (ref := "FlowExporter") (C := RX11) (T := TX11) (N := 8) (ci := 13) (v := .ref (x + 80)) B hu_X11_truth_X11 rfl 5 (Nat.le_of_ble_eq_true rfl) hv_X11_truth_55 rfl h_2 rfl dX11_truth_6 ?_
  refine z_iload_n B dX11_truth_9 rfl 1 rfl ?_
  refine z_iload_n B dX11_truth_10 rfl 2 rfl ?_
  refine z_iload_n B dX11_truth_11 rfl 3 rfl ?_
  refine z_iload B dX11_truth_12 4 rfl ?_
  refine z_callS (As := [.int a, .int b, .int d, .int f]) (rest := [.ref (x + 80)]) B (s_X3_keyOf G l Φ1 sz x (ca) a b d f hx hI1 ) (va_cwS 4 B.1.2.2.2.2 gX11_truth_X3_keyOf rfl rfl rfl (by decide +kernel) ⟨Nat.le_of_ble_eq_true rfl, Nat.le_of_ble_eq_true rfl⟩) rfl rfl (Nat.le_of_ble_eq_true rfl) dX11_truth_14 ⟨Nat.le_of_ble_eq_true rfl, Nat.le_of_ble_eq_true rfl⟩ (fun r_2 Φ2 sz2 st2 hp2 hs2 => ?_)
  obtain ⟨rfl, hq2, hI2, hF2⟩ := hp2
  subst sz2
  replace hs2 : st2 = [.long (keyF a b d f), .ref (x + 80)] := hs2
  subst st2
  replace hI2 : In G x (ca) Φ2 := hI2
  refine z_iload B dX11_truth_17 5 rfl ?_
  obtain ⟨v_1, v_2, v_3, v_4, v_5, v_6, v_7, v_8, v_9, h_3, b_1⟩ := in16 (k := 80) hI2 rfl
  have h_4 : Φ2 (x + 80) = some (o_ 4 [.ref (x + 3), .ref (x + 74), .ref (x + 81), .ref (x + 95), .int v_1, .int v_2, .int v_3, .int v_4, .int v_5, .int v_6, .long v_7, .long v_8, .long v_9]) := h_3
  refine z_callV (As := [.long (keyF a b d f), .int g]) (rest := []) B (s_X2_trueValue G l Φ2 sz x (ca) (keyF a b d f) g hx hI2 ) (cwV 2 B.1.2.2.2.2 gX11_truth_X2_trueValue rfl rfl rfl (by decide +kernel) ⟨Nat.le_of_ble_eq_true rfl, Nat.le_of_ble_eq_true rfl⟩) h_4 rfl rfl rfl rfl (Nat.le_of_ble_eq_true rfl) dX11_truth_19 ⟨Nat.le_of_ble_eq_true rfl, Nat.le_of_ble_eq_true rfl⟩ (fun r_3 Φ3 sz3 st3 hp3 hs3 => ?_)
  obtain ⟨⟨v_10, rfl⟩, hq3, hI3, hF3⟩ := hp3
  subst sz3
  replace hs3 : st3 = [.long v_10] := hs3
  subst st3
  replace hI3 : In G x (ca) Φ3 := hI3
  exact zb_ret (Nat.le_of_ble_eq_true rfl) (Nat.le_of_ble_eq_true rfl) (z_ret_l B dX11_truth_22 ⟨⟨_, rfl⟩, rfl, hI3, (fun b9 h9 => ((hF3 b9 (fun j9 h8 h7 => (show False from h7).elim)).trans ((hF2 b9 (fun j9 h8 h7 => (show False from h7).elim)).trans ((hF1 b9 (fun j9 h8 h7 => (show False from h7).elim)).trans rfl))))⟩)

theorem hu_X11_cached_X11 : ∀ w ∈ u_ws RX11 TX11 8, w ∈ wsX11_cached := fun _ h => List.mem_cons_of_mem _ (List.mem_append_left _ (List.mem_append_left _ (List.mem_append_left _ (List.mem_append_left _ (List.mem_append_left _ (List.mem_append_left _ (List.mem_append_right _ (h))))))))

theorem hv_X11_cached_55 : Cond.fieldLink RX11 55 "FlowExporter" (TX11 5).2.1 (TX11 5).2.2.1 ∈ wsX11_cached := List.mem_cons_of_mem _ (List.mem_append_left _ (List.mem_append_left _ (List.mem_append_left _ (List.mem_append_left _ (List.mem_append_left _ (List.mem_append_left _ (List.mem_append_left _ (List.mem_append_left _ (List.mem_of_getElem? (i := 4) rfl)))))))))

theorem hu_X11_cached_X2 : ∀ w ∈ u_ws RX2 TX2 13, w ∈ wsX11_cached := fun _ h => List.mem_cons_of_mem _ (List.mem_append_left _ (List.mem_append_left _ (List.mem_append_left _ (List.mem_append_left _ (List.mem_append_left _ (List.mem_append_right _ (h)))))))

theorem hv_X11_cached_146 : Cond.fieldLink RX11 146 "FlowExporter$Exporter" (TX2 2).2.1 (TX2 2).2.2.1 ∈ wsX11_cached := List.mem_cons_of_mem _ (List.mem_append_left _ (List.mem_append_left _ (List.mem_append_left _ (List.mem_append_left _ (List.mem_append_left _ (List.mem_append_left _ (List.mem_append_left _ (List.mem_append_left _ (List.mem_of_getElem? (i := 5) rfl)))))))))

theorem hu_X11_cached_X4 : ∀ w ∈ u_ws RX4 TX4 2, w ∈ wsX11_cached := fun _ h => List.mem_cons_of_mem _ (List.mem_append_left _ (List.mem_append_left _ (List.mem_append_left _ (List.mem_append_left _ (List.mem_append_right _ (h))))))

theorem hv_X11_cached_150 : Cond.fieldLink RX11 150 "FlowExporter$FlowTable" (TX4 1).2.1 (TX4 1).2.2.1 ∈ wsX11_cached := List.mem_cons_of_mem _ (List.mem_append_left _ (List.mem_append_left _ (List.mem_append_left _ (List.mem_append_left _ (List.mem_append_left _ (List.mem_append_left _ (List.mem_append_left _ (List.mem_append_left _ (List.mem_of_getElem? (i := 6) rfl)))))))))

set_option maxHeartbeats 4000000 in
set_option maxRecDepth 100000 in
theorem s_X11_cached (G : EnvG) (l : Launch) (hl9 : l.stackTraces = false) (Φ : Hm) (sz x ca : Nat) (a : Int32) (b : Int32) (hx : G.2.2.2 ≤ x) (hI : In G x ca Φ)  : CtB G l yX11_cached wsX11_cached ({ frames := 6, cells := 1, slots := 6, locals := 81 }) 1 6 [.ref x, .int a, .int b] Φ sz (fun v Φ1 sz1 => (∃ r9 : Int64, v = some (.long r9)) ∧ sz1 = sz ∧ In G x (ca) Φ1 ∧ Fr x (fun j9 => False) Φ Φ1) (fun Φ1 => In G x ca Φ1 ∧ Fr x (fun j9 => False) Φ Φ1) [xIO, xIA] := by
  refine CtB.of (cc := cX11_cached) (maxL := 3) (ret := (some .long)) (by decide) rfl (Nat.le_of_ble_eq_true rfl) ?_
  intro p9 e9 s9 m9 w9 t9 k9 B htab9
  show Z p9 l e9 _ s9 m9 _ w9 t9 k9 _ G 3 0 [(0, .ref x), (1, .int a), (2, .int b)] [] Φ sz 0 0
  refine z_iload_n B dX11_cached_0 rfl 1 rfl ?_
  refine z_if_lt (tgt := 18) B dX11_cached_1 rfl (fun c_1 => ?_) (fun c_1 => ?_)
  · exact zb_throw (cls := xIO) (ik := 153) (ic := 155) B hl9 htab9 (by decide) ⟨hI, (fun b9 h9 => rfl)⟩ (by decide) (by decide +kernel) (by decide +kernel) (by decide +kernel) (by decide +kernel) (by decide +kernel) (by decide +kernel) (by decide +kernel) dX11_cached_18 dX11_cached_21 dX11_cached_22 dX11_cached_25 ⟨Nat.le_of_ble_eq_true rfl, Nat.le_of_ble_eq_true rfl, Nat.le_of_ble_eq_true rfl, Nat.le_of_ble_eq_true rfl⟩ ⟨Nat.le_of_ble_eq_true rfl, Nat.le_of_ble_eq_true rfl⟩
  · obtain ⟨n_1, e_1, rfl⟩ := nI_of c_1
    refine z_iload_n B dX11_cached_4 rfl 1 rfl ?_
    refine z_aload_n B dX11_cached_5 rfl 0 rfl ?_
    have h_1 := in0 (k := 0) hI rfl
    have h_2 : Φ x = some (o_ 13 [.ref (x + 1), .ref (x + 3), .ref (x + 24), .ref (x + 46), .ref (x + 74), .ref (x + 80), .ref (x + 132), .ref (x + 121)]) := h_1
    refine z_get (ref := "FlowExporter") (C := RX11) (T := TX11) (N := 8) (ci := 13) (v := .ref (x + 80)) B hu_X11_cached_X11 rfl 5 (Nat.le_of_ble_eq_true rfl) hv_X11_cached_55 rfl h_2 rfl dX11_cached_6 ?_
    obtain ⟨v_1, v_2, v_3, v_4, v_5, v_6, v_7, v_8, v_9, h_3, b_1⟩ := in16 (k := 80) hI rfl
    have h_4 : Φ (x + 80) = some (o_ 4 [.ref (x + 3), .ref (x + 74), .ref (x + 81), .ref (x + 95), .int v_1, .int v_2, .int v_3, .int v_4, .int v_5, .int v_6, .long v_7, .long v_8, .long v_9]) := h_3
    refine z_get (ref := "FlowExporter$Exporter") (C := RX2) (T := TX2) (N := 13) (ci := 4) (v := .ref (x + 81)) B hu_X11_cached_X2 rfl 2 (Nat.le_of_ble_eq_true rfl) hv_X11_cached_146 rfl h_4 rfl dX11_cached_9 ?_
    obtain ⟨n_2, h_5, b_2⟩ := in17 (k := 81) hI rfl
    replace b_2 : n_2 ≤ 12 := b_2
    have h_6 : Φ (x + 81) = some (o_ 6 [.ref (x + 82), .int (nI n_2)]) := h_5
    refine z_get (ref := "FlowExporter$FlowTable") (C := RX4) (T := TX4) (N := 2) (ci := 6) (v := .int (nI n_2)) B hu_X11_cached_X4 rfl 1 (Nat.le_of_ble_eq_true rfl) hv_X11_cached_150 rfl h_6 rfl dX11_cached_12 ?_
    refine z_icmp_lt (tgt := 26) B dX11_cached_15 rfl (fun c_2 => ?_) (fun c_2 => ?_)
    · have e_2 : n_1 < n_2 := (nI_ltI (a := n_1) (b := n_2) (by omega) (by omega)).mp c_2
      refine z_iload_n B dX11_cached_26 rfl 2 rfl ?_
      refine z_if_lt (tgt := 36) B dX11_cached_27 rfl (fun c_3 => ?_) (fun c_3 => ?_)
      · exact zb_throw (cls := xIA) (ik := 116) (ic := 118) B hl9 htab9 (by decide) ⟨hI, (fun b9 h9 => rfl)⟩ (by decide) (by decide +kernel) (by decide +kernel) (by decide +kernel) (by decide +kernel) (by decide +kernel) (by decide +kernel) (by decide +kernel) dX11_cached_36 dX11_cached_39 dX11_cached_40 dX11_cached_43 ⟨Nat.le_of_ble_eq_true rfl, Nat.le_of_ble_eq_true rfl, Nat.le_of_ble_eq_true rfl, Nat.le_of_ble_eq_true rfl⟩ ⟨Nat.le_of_ble_eq_true rfl, Nat.le_of_ble_eq_true rfl⟩
      · obtain ⟨n_3, e_3, rfl⟩ := nI_of c_3
        refine z_iload_n B dX11_cached_30 rfl 2 rfl ?_
        refine z_bipush (v := 7) B dX11_cached_31 rfl ?_
        refine z_icmp_le (tgt := 44) B dX11_cached_33 rfl (fun c_4 => ?_) (fun c_4 => ?_)
        · have e_4 : n_3 ≤ 7 := (nI_leI (a := n_3) (b := 7) (by omega) (by omega)).mp c_4
          refine z_aload_n B dX11_cached_44 rfl 0 rfl ?_
          refine z_get (ref := "FlowExporter") (C := RX11) (T := TX11) (N := 8) (ci := 13) (v := .ref (x + 80)) B hu_X11_cached_X11 rfl 5 (Nat.le_of_ble_eq_true rfl) hv_X11_cached_55 rfl h_2 rfl dX11_cached_45 ?_
          refine z_get (ref := "FlowExporter$Exporter") (C := RX2) (T := TX2) (N := 13) (ci := 4) (v := .ref (x + 81)) B hu_X11_cached_X2 rfl 2 (Nat.le_of_ble_eq_true rfl) hv_X11_cached_146 rfl h_4 rfl dX11_cached_48 ?_
          refine z_iload_n B dX11_cached_51 rfl 1 rfl ?_
          refine z_callV (As := [.int (nI n_1)]) (rest := []) B (s_X4_flowAt G l Φ sz x (ca) 81 (nI n_1) hx hI rfl) (cwV 1 B.1.2.2.2.2 gX11_cached_X4_flowAt rfl rfl rfl (by decide +kernel) ⟨Nat.le_of_ble_eq_true rfl, Nat.le_of_ble_eq_true rfl⟩) h_6 rfl rfl rfl rfl (Nat.le_of_ble_eq_true rfl) dX11_cached_52 ⟨Nat.le_of_ble_eq_true rfl, Nat.le_of_ble_eq_true rfl⟩ (fun r_1 Φ1 sz1 st1 hp1 hs1 => ?_)
          obtain ⟨⟨m_1, hm_1, rfl⟩, hq1, hI1, hF1⟩ := hp1
          subst sz1
          replace hs1 : st1 = [.ref (x + (81 + 2 + m_1))] := hs1
          subst st1
          replace hI1 : In G x (ca) Φ1 := hI1
          replace hm_1 : m_1 < 12 := hm_1
          refine z_iload_n B dX11_cached_55 rfl 2 rfl ?_
          obtain ⟨v_10, v_11, v_12, v_13, v_14, h_7⟩ := in19 (k := 81 + 2 + m_1) hI1 (kd_f (kd_r rfl) hm_1)
          have h_8 : Φ1 (x + (81 + 2 + m_1)) = some (o_ 5 [.long v_10, .long v_11, .long v_12, .int v_13, .int v_14]) := h_7
          refine z_callV (As := [.int (nI n_3)]) (rest := []) B (s_X3_value G l Φ1 sz x (ca) (81 + 2 + m_1) (nI n_3) hx hI1 (kd_f (kd_r rfl) hm_1)) (cwV 1 B.1.2.2.2.2 gX11_cached_X3_value rfl rfl rfl (by decide +kernel) ⟨Nat.le_of_ble_eq_true rfl, Nat.le_of_ble_eq_true rfl⟩) h_8 rfl rfl rfl rfl (Nat.le_of_ble_eq_true rfl) dX11_cached_56 ⟨Nat.le_of_ble_eq_true rfl, Nat.le_of_ble_eq_true rfl⟩ (fun r_2 Φ2 sz2 st2 hp2 hs2 => ?_)
          obtain ⟨⟨v_15, rfl⟩, hq2, hI2, hF2⟩ := hp2
          subst sz2
          replace hs2 : st2 = [.long v_15] := hs2
          subst st2
          replace hI2 : In G x (ca) Φ2 := hI2
          exact zb_ret (Nat.le_of_ble_eq_true rfl) (Nat.le_of_ble_eq_true rfl) (z_ret_l B dX11_cached_59 ⟨⟨_, rfl⟩, rfl, hI2, (fun b9 h9 => ((hF2 b9 (fun j9 h8 h7 => (show False from h7).elim)).trans ((hF1 b9 (fun j9 h8 h7 => (show False from h7).elim)).trans rfl)))⟩)
        · have e_5 : ¬ (n_3 ≤ 7) := fun h9 => c_4 ((nI_leI (a := n_3) (b := 7) (by omega) (by omega)).mpr h9)
          exact zb_throw (cls := xIA) (ik := 116) (ic := 118) B hl9 htab9 (by decide) ⟨hI, (fun b9 h9 => rfl)⟩ (by decide) (by decide +kernel) (by decide +kernel) (by decide +kernel) (by decide +kernel) (by decide +kernel) (by decide +kernel) (by decide +kernel) dX11_cached_36 dX11_cached_39 dX11_cached_40 dX11_cached_43 ⟨Nat.le_of_ble_eq_true rfl, Nat.le_of_ble_eq_true rfl, Nat.le_of_ble_eq_true rfl, Nat.le_of_ble_eq_true rfl⟩ ⟨Nat.le_of_ble_eq_true rfl, Nat.le_of_ble_eq_true rfl⟩
    · have e_6 : ¬ (n_1 < n_2) := fun h9 => c_2 ((nI_ltI (a := n_1) (b := n_2) (by omega) (by omega)).mpr h9)
      exact zb_throw (cls := xIO) (ik := 153) (ic := 155) B hl9 htab9 (by decide) ⟨hI, (fun b9 h9 => rfl)⟩ (by decide) (by decide +kernel) (by decide +kernel) (by decide +kernel) (by decide +kernel) (by decide +kernel) (by decide +kernel) (by decide +kernel) dX11_cached_18 dX11_cached_21 dX11_cached_22 dX11_cached_25 ⟨Nat.le_of_ble_eq_true rfl, Nat.le_of_ble_eq_true rfl, Nat.le_of_ble_eq_true rfl, Nat.le_of_ble_eq_true rfl⟩ ⟨Nat.le_of_ble_eq_true rfl, Nat.le_of_ble_eq_true rfl⟩

theorem hu_X11_setSupport_X11 : ∀ w ∈ u_ws RX11 TX11 8, w ∈ wsX11_setSupport := fun _ h => List.mem_cons_of_mem _ (List.mem_append_left _ (List.mem_append_left _ (List.mem_append_left _ (List.mem_append_left _ (List.mem_append_left _ (List.mem_append_right _ (h)))))))

theorem hv_X11_setSupport_21 : Cond.fieldLink RX11 21 "FlowExporter" (TX11 1).2.1 (TX11 1).2.2.1 ∈ wsX11_setSupport := List.mem_cons_of_mem _ (List.mem_append_left _ (List.mem_append_left _ (List.mem_append_left _ (List.mem_append_left _ (List.mem_append_left _ (List.mem_append_left _ (List.mem_append_left _ (List.mem_of_getElem? (i := 2) rfl))))))))

theorem hu_X11_setSupport_X1 : ∀ w ∈ u_ws RX1 TX1 6, w ∈ wsX11_setSupport := fun _ h => List.mem_cons_of_mem _ (List.mem_append_left _ (List.mem_append_left _ (List.mem_append_left _ (List.mem_append_left _ (List.mem_append_right _ (h))))))

theorem hv_X11_setSupport_215 : Cond.fieldLink RX11 215 "FlowExporter$Config" (TX1 5).2.1 (TX1 5).2.2.1 ∈ wsX11_setSupport := List.mem_cons_of_mem _ (List.mem_append_left _ (List.mem_append_left _ (List.mem_append_left _ (List.mem_append_left _ (List.mem_append_left _ (List.mem_append_left _ (List.mem_append_left _ (List.mem_of_getElem? (i := 3) rfl))))))))

theorem fq_713 {x : Nat} : ∀ j9 : Nat, x = x + j9 → (3 ≤ j9 ∧ j9 < 3 + 21) → False := by
  intro j9 h1 h2
  omega

theorem hv_X11_setSupport_46 : Cond.fieldLink RX11 46 "FlowExporter" (TX11 4).2.1 (TX11 4).2.2.1 ∈ wsX11_setSupport := List.mem_cons_of_mem _ (List.mem_append_left _ (List.mem_append_left _ (List.mem_append_left _ (List.mem_append_left _ (List.mem_append_left _ (List.mem_append_left _ (List.mem_append_left _ (List.mem_of_getElem? (i := 4) rfl))))))))

theorem fq_715 : ∀ j9 : Nat, (3 ≤ j9 ∧ j9 < 3 + 21) → ((3 ≤ j9 ∧ j9 < 24) ∨ j9 = 78) := by
  intro j9 h
  omega

theorem fq_716 : ∀ j9 : Nat, (j9 = 78) → ((3 ≤ j9 ∧ j9 < 24) ∨ j9 = 78) := by
  intro j9 h
  omega

theorem hu_X11_observe_X11 : ∀ w ∈ u_ws RX11 TX11 8, w ∈ wsX11_observe := fun _ h => List.mem_cons_of_mem _ (List.mem_append_left _ (List.mem_append_left _ (List.mem_append_left _ (List.mem_append_left _ (List.mem_append_left _ (List.mem_append_left _ (List.mem_append_left _ (List.mem_append_left _ (List.mem_append_left _ (List.mem_append_left _ (List.mem_append_left _ (List.mem_append_right _ (h)))))))))))))

theorem hv_X11_observe_55 : Cond.fieldLink RX11 55 "FlowExporter" (TX11 5).2.1 (TX11 5).2.2.1 ∈ wsX11_observe := List.mem_cons_of_mem _ (List.mem_append_left _ (List.mem_append_left _ (List.mem_append_left _ (List.mem_append_left _ (List.mem_append_left _ (List.mem_append_left _ (List.mem_append_left _ (List.mem_append_left _ (List.mem_append_left _ (List.mem_append_left _ (List.mem_append_left _ (List.mem_append_left _ (List.mem_append_left _ (List.mem_of_getElem? (i := 0) rfl))))))))))))))
