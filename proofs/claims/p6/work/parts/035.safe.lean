set_option maxRecDepth 20000 in
theorem ggX11_observe_X3_keyOf : GoodIn wsX11_observe wsX3_keyOf := (goodIn_r _ [5, 6, 7] rfl (by decide +kernel))
set_option maxRecDepth 20000 in
theorem gX11_observe_X3_keyOf : GoodIn wsX11_observe (va_wsS RX11 119 yX3_keyOf wsX3_keyOf) := goodIn_app (goodIn_m (mem_cA (List.mem_cons_of_mem _ (List.mem_append_left _ (List.mem_append_left _ (List.mem_append_left _ (List.mem_append_left _ (List.mem_append_left _ (List.mem_append_left _ (List.mem_append_left _ (List.mem_append_left _ (List.mem_append_left _ (List.mem_append_left _ (List.mem_append_left _ (List.mem_append_left _ (List.mem_append_left _ (List.mem_of_getElem? (i := 1) rfl))))))))))))))) (mem_cA (List.mem_cons_of_mem _ (List.mem_append_left _ (List.mem_append_left _ (List.mem_append_left _ (List.mem_append_left _ (List.mem_append_left _ (List.mem_append_left _ (List.mem_append_left _ (List.mem_append_left _ (List.mem_append_left _ (List.mem_append_left _ (List.mem_append_left _ (List.mem_append_left _ (List.mem_append_left _ (List.mem_of_getElem? (i := 2) rfl))))))))))))))) (mem_cA (List.mem_cons_of_mem _ (List.mem_append_left _ (List.mem_append_left _ (List.mem_append_left _ (List.mem_append_left _ (List.mem_append_left _ (List.mem_append_left _ (List.mem_append_left _ (List.mem_append_left _ (List.mem_append_left _ (List.mem_append_left _ (List.mem_append_left _ (List.mem_append_left _ (List.mem_append_left _ (List.mem_of_getElem? (i := 3) rfl))))))))))))))) mem_cZ))) (by decide +kernel)) ggX11_observe_X3_keyOf
set_option maxRecDepth 20000 in
theorem ggX11_observe_X11_requirePackets : GoodIn wsX11_observe wsX11_requirePackets := goodIn_ca ((goodIn_r _ [11, 12, 13, 14, 15] rfl (by decide +kernel))) (goodIn_sub (fun _ h => List.mem_cons_of_mem _ (List.mem_append_left _ (List.mem_append_left _ (List.mem_append_right _ h)))) (all_fg _))
set_option maxRecDepth 20000 in
theorem gX11_observe_X11_requirePackets : GoodIn wsX11_observe (va_wsS RX11 125 yX11_requirePackets wsX11_requirePackets) := goodIn_app (goodIn_m (mem_cA (List.mem_cons_of_mem _ (List.mem_append_left _ (List.mem_append_left _ (List.mem_append_left _ (List.mem_append_left _ (List.mem_append_left _ (List.mem_append_left _ (List.mem_append_left _ (List.mem_append_left _ (List.mem_append_left _ (List.mem_append_left _ (List.mem_append_left _ (List.mem_append_left _ (List.mem_append_left _ (List.mem_of_getElem? (i := 7) rfl))))))))))))))) (mem_cA (List.mem_cons_of_mem _ (List.mem_append_left _ (List.mem_append_left _ (List.mem_append_left _ (List.mem_append_left _ (List.mem_append_left _ (List.mem_append_left _ (List.mem_append_left _ (List.mem_append_left _ (List.mem_append_left _ (List.mem_append_left _ (List.mem_append_left _ (List.mem_append_left _ (List.mem_append_left _ (List.mem_of_getElem? (i := 8) rfl))))))))))))))) (mem_cA (List.mem_cons_of_mem _ (List.mem_append_left _ (List.mem_append_left _ (List.mem_append_left _ (List.mem_append_left _ (List.mem_append_left _ (List.mem_append_left _ (List.mem_append_left _ (List.mem_append_left _ (List.mem_append_left _ (List.mem_append_left _ (List.mem_append_left _ (List.mem_append_left _ (List.mem_append_left _ (List.mem_of_getElem? (i := 9) rfl))))))))))))))) mem_cZ))) (by decide +kernel)) ggX11_observe_X11_requirePackets
set_option maxRecDepth 20000 in
theorem ggX11_observe_X2_takePackets : GoodIn wsX11_observe wsX2_takePackets := goodIn_ca (goodIn_ca ((goodIn_ca (goodIn_ca (goodIn_ca (goodIn_ca (goodIn_ca (goodIn_ca (goodIn_ca (goodIn_ca (goodIn_r _ [20, 21, 22, 23, 24, 25, 26, 27, 19, 28, 29, 30, 31, 32, 33, 34, 35, 36, 37, 38, 39, 40, 41, 42, 43, 44, 45, 46, 47, 48, 49, 50, 51, 52, 53, 54, 55, 56, 57, 58, 4, 59, 60, 61, 62, 63, 64, 65, 66, 67, 68, 69, 70, 71, 72, 73, 74, 75, 76, 77, 78, 79, 80, 81, 82, 83, 84, 85, 86, 87, 88, 89, 90, 91, 92, 93, 94, 95, 96, 97, 98, 99, 100, 101, 102, 103, 104, 105, 106, 107, 108, 109, 110, 111, 112, 113, 114, 115, 116, 117, 118, 119, 120, 121, 122, 123, 124, 125, 126, 127, 128, 129, 130, 131, 132, 133, 134, 135, 136, 137, 138, 139, 140, 141, 142, 10, 143, 144, 145, 146, 147, 148, 149, 150, 151, 152, 153, 154, 155, 156, 157, 158, 159, 160, 161, 162, 163, 164, 165, 166, 167, 168, 169, 170, 171, 172, 173, 174, 175, 176, 177, 178, 179, 180, 181, 182, 183, 184, 185, 186, 187, 188, 189, 190, 191, 192, 193, 194, 195, 196, 197, 198, 199, 200, 201, 202, 203, 204, 205, 206, 207, 208, 209, 210, 211, 212, 213, 214, 215, 216, 217, 218, 219, 220, 221, 222, 223, 224] rfl (by decide +kernel)) (goodIn_sub (fun _ h => List.mem_cons_of_mem _ (List.mem_append_left _ (List.mem_append_left _ (List.mem_append_left _ (List.mem_append_left _ (List.mem_append_left _ (List.mem_append_left _ (List.mem_append_left _ (List.mem_append_left _ (List.mem_append_left _ (List.mem_append_left _ (List.mem_append_right _ h)))))))))))) gw_wsX20)) (goodIn_sub (fun _ h => List.mem_cons_of_mem _ (List.mem_append_left _ (List.mem_append_left _ (List.mem_append_left _ (List.mem_append_left _ (List.mem_append_left _ (List.mem_append_left _ (List.mem_append_left _ (List.mem_append_left _ (List.mem_append_left _ (List.mem_append_right _ h))))))))))) gw_wsX30)) (goodIn_sub (fun _ h => List.mem_cons_of_mem _ (List.mem_append_left _ (List.mem_append_left _ (List.mem_append_left _ (List.mem_append_left _ (List.mem_append_left _ (List.mem_append_left _ (List.mem_append_left _ (List.mem_append_left _ (List.mem_append_right _ h)))))))))) gw_wsX40)) (goodIn_sub (fun _ h => List.mem_cons_of_mem _ (List.mem_append_left _ (List.mem_append_left _ (List.mem_append_left _ (List.mem_append_left _ (List.mem_append_left _ (List.mem_append_left _ (List.mem_append_left _ (List.mem_append_right _ h))))))))) gw_wsX100)) (goodIn_sub (fun _ h => List.mem_cons_of_mem _ (List.mem_append_left _ (List.mem_append_left _ (List.mem_append_left _ (List.mem_append_left _ (List.mem_append_left _ (List.mem_append_left _ (List.mem_append_right _ h)))))))) gw_wsX10)) (goodIn_sub (fun _ h => List.mem_cons_of_mem _ (List.mem_append_left _ (List.mem_append_left _ (List.mem_append_left _ (List.mem_append_left _ (List.mem_append_left _ (List.mem_append_right _ h))))))) gw_wsX80)) (goodIn_sub (fun _ h => List.mem_cons_of_mem _ (List.mem_append_left _ (List.mem_append_left _ (List.mem_append_left _ (List.mem_append_left _ (List.mem_append_right _ h)))))) gw_wsX50)) (goodIn_sub (fun _ h => List.mem_cons_of_mem _ (List.mem_append_left _ (List.mem_append_left _ (List.mem_append_left _ (List.mem_append_right _ h))))) gw_wsX70))) (goodIn_sub (fun _ h => List.mem_cons_of_mem _ (List.mem_append_left _ (List.mem_append_right _ h))) (all_fg _))) (goodIn_sub (fun _ h => List.mem_cons_of_mem _ (List.mem_append_right _ h)) (all_fg _))
set_option maxRecDepth 20000 in
theorem gX11_observe_X2_takePackets : GoodIn wsX11_observe (wsV RX11 129 RX2 yX2_takePackets wsX2_takePackets) := goodIn_app (goodIn_m (mem_cA (List.mem_cons_of_mem _ (List.mem_append_left _ (List.mem_append_left _ (List.mem_append_left _ (List.mem_append_left _ (List.mem_append_left _ (List.mem_append_left _ (List.mem_append_left _ (List.mem_append_left _ (List.mem_append_left _ (List.mem_append_left _ (List.mem_append_left _ (List.mem_append_left _ (List.mem_append_left _ (List.mem_of_getElem? (i := 15) rfl))))))))))))))) (mem_cA (List.mem_cons_of_mem _ (List.mem_append_left _ (List.mem_append_left _ (List.mem_append_left _ (List.mem_append_left _ (List.mem_append_left _ (List.mem_append_left _ (List.mem_append_left _ (List.mem_append_left _ (List.mem_append_left _ (List.mem_append_left _ (List.mem_append_left _ (List.mem_append_left _ (List.mem_append_left _ (List.mem_of_getElem? (i := 16) rfl))))))))))))))) (mem_cA (List.mem_cons_of_mem _ (List.mem_append_left _ (List.mem_append_left _ (List.mem_append_left _ (List.mem_append_left _ (List.mem_append_left _ (List.mem_append_left _ (List.mem_append_left _ (List.mem_append_left _ (List.mem_append_left _ (List.mem_append_left _ (List.mem_append_left _ (List.mem_append_left _ (List.mem_append_left _ (List.mem_of_getElem? (i := 17) rfl))))))))))))))) (mem_cA (List.mem_cons_of_mem _ (List.mem_append_left _ (List.mem_append_left _ (List.mem_append_left _ (List.mem_append_left _ (List.mem_append_left _ (List.mem_append_left _ (List.mem_append_left _ (List.mem_append_left _ (List.mem_append_left _ (List.mem_append_left _ (List.mem_append_left _ (List.mem_append_left _ (List.mem_append_left _ (List.mem_of_getElem? (i := 18) rfl))))))))))))))) mem_cZ)))) (by decide +kernel)) ggX11_observe_X2_takePackets
theorem dX11_observe_0 : decode cX11_observe 0 = .ok (.iload_n 1, 1) := by decide +kernel
theorem dX11_observe_1 : decode cX11_observe 1 = .ok (.iload_n 2, 1) := by decide +kernel
theorem dX11_observe_2 : decode cX11_observe 2 = .ok (.iload_n 3, 1) := by decide +kernel
theorem dX11_observe_3 : decode cX11_observe 3 = .ok (.iload 4, 2) := by decide +kernel
theorem dX11_observe_5 : decode cX11_observe 5 = .ok (.invokestatic 119, 3) := by decide +kernel
theorem dX11_observe_8 : decode cX11_observe 8 = .ok (.lstore 6, 2) := by decide +kernel
theorem dX11_observe_10 : decode cX11_observe 10 = .ok (.lload 6, 2) := by decide +kernel
theorem dX11_observe_12 : decode cX11_observe 12 = .ok (.iload 5, 2) := by decide +kernel
theorem dX11_observe_14 : decode cX11_observe 14 = .ok (.iconst 1, 1) := by decide +kernel
theorem dX11_observe_15 : decode cX11_observe 15 = .ok (.invokestatic 125, 3) := by decide +kernel
theorem dX11_observe_18 : decode cX11_observe 18 = .ok (.aload_n 0, 1) := by decide +kernel
theorem dX11_observe_19 : decode cX11_observe 19 = .ok (.getfield 55, 3) := by decide +kernel
theorem dX11_observe_22 : decode cX11_observe 22 = .ok (.lload 6, 2) := by decide +kernel
theorem dX11_observe_24 : decode cX11_observe 24 = .ok (.iload 5, 2) := by decide +kernel
theorem dX11_observe_26 : decode cX11_observe 26 = .ok (.iconst 1, 1) := by decide +kernel
theorem dX11_observe_27 : decode cX11_observe 27 = .ok (.invokevirtual 129, 3) := by decide +kernel
theorem dX11_observe_30 : decode cX11_observe 30 = .ok (.iconst 1, 1) := by decide +kernel
theorem dX11_observe_31 : decode cX11_observe 31 = .ok (.if_icmp .ne 7, 3) := by decide +kernel
theorem dX11_observe_34 : decode cX11_observe 34 = .ok (.iconst 1, 1) := by decide +kernel
theorem dX11_observe_35 : decode cX11_observe 35 = .ok (.goto 4, 3) := by decide +kernel
theorem dX11_observe_38 : decode cX11_observe 38 = .ok (.iconst 0, 1) := by decide +kernel
theorem dX11_observe_39 : decode cX11_observe 39 = .ok (.ireturn, 1) := by decide +kernel
set_option maxRecDepth 20000 in
theorem ggX11_cached_X4_flowAt : GoodIn wsX11_cached wsX4_flowAt := (goodIn_ca (goodIn_r _ [12, 13] rfl (by decide +kernel)) (goodIn_sub (fun _ h => List.mem_cons_of_mem _ (List.mem_append_left _ (List.mem_append_left _ (List.mem_append_left _ (List.mem_append_left _ (List.mem_append_right _ h)))))) gw_wsX40))
set_option maxRecDepth 20000 in
theorem gX11_cached_X4_flowAt : GoodIn wsX11_cached (wsV RX11 156 RX4 yX4_flowAt wsX4_flowAt) := goodIn_app (goodIn_m (mem_cA (List.mem_cons_of_mem _ (List.mem_append_left _ (List.mem_append_left _ (List.mem_append_left _ (List.mem_append_left _ (List.mem_append_left _ (List.mem_append_left _ (List.mem_append_left _ (List.mem_append_left _ (List.mem_of_getElem? (i := 7) rfl)))))))))) (mem_cA (List.mem_cons_of_mem _ (List.mem_append_left _ (List.mem_append_left _ (List.mem_append_left _ (List.mem_append_left _ (List.mem_append_left _ (List.mem_append_left _ (List.mem_append_left _ (List.mem_append_left _ (List.mem_of_getElem? (i := 8) rfl)))))))))) (mem_cA (List.mem_cons_of_mem _ (List.mem_append_left _ (List.mem_append_left _ (List.mem_append_left _ (List.mem_append_left _ (List.mem_append_left _ (List.mem_append_left _ (List.mem_append_left _ (List.mem_append_left _ (List.mem_of_getElem? (i := 9) rfl)))))))))) (mem_cA (List.mem_cons_of_mem _ (List.mem_append_left _ (List.mem_append_left _ (List.mem_append_left _ (List.mem_append_left _ (List.mem_append_left _ (List.mem_append_left _ (List.mem_append_left _ (List.mem_append_left _ (List.mem_of_getElem? (i := 10) rfl)))))))))) mem_cZ)))) (by decide +kernel)) ggX11_cached_X4_flowAt
set_option maxRecDepth 20000 in
theorem ggX11_cached_X3_value : GoodIn wsX11_cached wsX3_value := goodIn_ca ((goodIn_ca (goodIn_r _ [18, 19, 20, 21, 22, 23, 24, 25, 17, 26, 27, 28] rfl (by decide +kernel)) (goodIn_sub (fun _ h => List.mem_cons_of_mem _ (List.mem_append_left _ (List.mem_append_left _ (List.mem_append_left _ (List.mem_append_right _ h))))) gw_wsX30))) (goodIn_sub (fun _ h => List.mem_cons_of_mem _ (List.mem_append_right _ h)) (all_fg _))
set_option maxRecDepth 20000 in
theorem gX11_cached_X3_value : GoodIn wsX11_cached (wsV RX11 160 RX3 yX3_value wsX3_value) := goodIn_app (goodIn_m (mem_cA (List.mem_cons_of_mem _ (List.mem_append_left _ (List.mem_append_left _ (List.mem_append_left _ (List.mem_append_left _ (List.mem_append_left _ (List.mem_append_left _ (List.mem_append_left _ (List.mem_append_left _ (List.mem_of_getElem? (i := 13) rfl)))))))))) (mem_cA (List.mem_cons_of_mem _ (List.mem_append_left _ (List.mem_append_left _ (List.mem_append_left _ (List.mem_append_left _ (List.mem_append_left _ (List.mem_append_left _ (List.mem_append_left _ (List.mem_append_left _ (List.mem_of_getElem? (i := 14) rfl)))))))))) (mem_cA (List.mem_cons_of_mem _ (List.mem_append_left _ (List.mem_append_left _ (List.mem_append_left _ (List.mem_append_left _ (List.mem_append_left _ (List.mem_append_left _ (List.mem_append_left _ (List.mem_append_left _ (List.mem_of_getElem? (i := 15) rfl)))))))))) (mem_cA (List.mem_cons_of_mem _ (List.mem_append_left _ (List.mem_append_left _ (List.mem_append_left _ (List.mem_append_left _ (List.mem_append_left _ (List.mem_append_left _ (List.mem_append_left _ (List.mem_append_left _ (List.mem_of_getElem? (i := 16) rfl)))))))))) mem_cZ)))) (by decide +kernel)) ggX11_cached_X3_value
theorem dX11_cached_0 : decode cX11_cached 0 = .ok (.iload_n 1, 1) := by decide +kernel
theorem dX11_cached_1 : decode cX11_cached 1 = .ok (.ifCond .lt 17, 3) := by decide +kernel
theorem dX11_cached_4 : decode cX11_cached 4 = .ok (.iload_n 1, 1) := by decide +kernel
theorem dX11_cached_5 : decode cX11_cached 5 = .ok (.aload_n 0, 1) := by decide +kernel
theorem dX11_cached_6 : decode cX11_cached 6 = .ok (.getfield 55, 3) := by decide +kernel
theorem dX11_cached_9 : decode cX11_cached 9 = .ok (.getfield 146, 3) := by decide +kernel
theorem dX11_cached_12 : decode cX11_cached 12 = .ok (.getfield 150, 3) := by decide +kernel
theorem dX11_cached_15 : decode cX11_cached 15 = .ok (.if_icmp .lt 11, 3) := by decide +kernel
theorem dX11_cached_18 : decode cX11_cached 18 = .ok (.new 153, 3) := by decide +kernel
theorem dX11_cached_21 : decode cX11_cached 21 = .ok (.dup, 1) := by decide +kernel
theorem dX11_cached_22 : decode cX11_cached 22 = .ok (.invokespecial 155, 3) := by decide +kernel
theorem dX11_cached_25 : decode cX11_cached 25 = .ok (.athrow, 1) := by decide +kernel
theorem dX11_cached_26 : decode cX11_cached 26 = .ok (.iload_n 2, 1) := by decide +kernel
theorem dX11_cached_27 : decode cX11_cached 27 = .ok (.ifCond .lt 9, 3) := by decide +kernel
theorem dX11_cached_30 : decode cX11_cached 30 = .ok (.iload_n 2, 1) := by decide +kernel
theorem dX11_cached_31 : decode cX11_cached 31 = .ok (.bipush 7, 2) := by decide +kernel
theorem dX11_cached_33 : decode cX11_cached 33 = .ok (.if_icmp .le 11, 3) := by decide +kernel
theorem dX11_cached_36 : decode cX11_cached 36 = .ok (.new 116, 3) := by decide +kernel
theorem dX11_cached_39 : decode cX11_cached 39 = .ok (.dup, 1) := by decide +kernel
theorem dX11_cached_40 : decode cX11_cached 40 = .ok (.invokespecial 118, 3) := by decide +kernel
theorem dX11_cached_43 : decode cX11_cached 43 = .ok (.athrow, 1) := by decide +kernel
theorem dX11_cached_44 : decode cX11_cached 44 = .ok (.aload_n 0, 1) := by decide +kernel
theorem dX11_cached_45 : decode cX11_cached 45 = .ok (.getfield 55, 3) := by decide +kernel
theorem dX11_cached_48 : decode cX11_cached 48 = .ok (.getfield 146, 3) := by decide +kernel
theorem dX11_cached_51 : decode cX11_cached 51 = .ok (.iload_n 1, 1) := by decide +kernel
theorem dX11_cached_52 : decode cX11_cached 52 = .ok (.invokevirtual 156, 3) := by decide +kernel
theorem dX11_cached_55 : decode cX11_cached 55 = .ok (.iload_n 2, 1) := by decide +kernel
theorem dX11_cached_56 : decode cX11_cached 56 = .ok (.invokevirtual 160, 3) := by decide +kernel
theorem dX11_cached_59 : decode cX11_cached 59 = .ok (.lreturn, 1) := by decide +kernel
set_option maxRecDepth 20000 in
theorem ggX11_setSupport_X1_support : GoodIn wsX11_setSupport wsX1_support := goodIn_ca ((goodIn_ca (goodIn_ca (goodIn_r _ [10, 11, 12, 13, 14, 15, 16, 17, 18, 19, 20, 21, 22, 23, 24, 25, 26, 27, 28, 29, 30, 31, 32, 33, 34] rfl (by decide +kernel)) (goodIn_sub (fun _ h => List.mem_cons_of_mem _ (List.mem_append_left _ (List.mem_append_left _ (List.mem_append_left _ (List.mem_append_left _ (List.mem_append_right _ h)))))) gw_wsX10)) (goodIn_sub (fun _ h => List.mem_cons_of_mem _ (List.mem_append_left _ (List.mem_append_left _ (List.mem_append_left _ (List.mem_append_right _ h))))) gw_wsX100))) (goodIn_sub (fun _ h => List.mem_cons_of_mem _ (List.mem_append_right _ h)) (all_fg _))
set_option maxRecDepth 20000 in
theorem gX11_setSupport_X1_support : GoodIn wsX11_setSupport (wsV RX11 218 RX1 yX1_support wsX1_support) := goodIn_app (goodIn_m (mem_cA (List.mem_cons_of_mem _ (List.mem_append_left _ (List.mem_append_left _ (List.mem_append_left _ (List.mem_append_left _ (List.mem_append_left _ (List.mem_append_left _ (List.mem_append_left _ (List.mem_of_getElem? (i := 5) rfl))))))))) (mem_cA (List.mem_cons_of_mem _ (List.mem_append_left _ (List.mem_append_left _ (List.mem_append_left _ (List.mem_append_left _ (List.mem_append_left _ (List.mem_append_left _ (List.mem_append_left _ (List.mem_of_getElem? (i := 6) rfl))))))))) (mem_cA (List.mem_cons_of_mem _ (List.mem_append_left _ (List.mem_append_left _ (List.mem_append_left _ (List.mem_append_left _ (List.mem_append_left _ (List.mem_append_left _ (List.mem_append_left _ (List.mem_of_getElem? (i := 7) rfl))))))))) (mem_cA (List.mem_cons_of_mem _ (List.mem_append_left _ (List.mem_append_left _ (List.mem_append_left _ (List.mem_append_left _ (List.mem_append_left _ (List.mem_append_left _ (List.mem_append_left _ (List.mem_of_getElem? (i := 8) rfl))))))))) mem_cZ)))) (by decide +kernel)) ggX11_setSupport_X1_support
set_option maxRecDepth 20000 in
theorem ggX11_setSupport_X8_forgetTemplatesWith : GoodIn wsX11_setSupport wsX8_forgetTemplatesWith := goodIn_ca ((goodIn_ca (goodIn_ca (goodIn_ca (goodIn_r _ [39, 40, 41, 42, 43, 44, 9, 45, 13, 46, 47, 48, 17, 49, 24] rfl (by decide +kernel)) (goodIn_sub (fun _ h => List.mem_cons_of_mem _ (List.mem_append_left _ (List.mem_append_left _ (List.mem_append_right _ h)))) gw_wsX80)) (goodIn_sub (fun _ h => List.mem_cons_of_mem _ (List.mem_append_left _ (List.mem_append_left _ (List.mem_append_left _ (List.mem_append_left _ (List.mem_append_right _ h)))))) gw_wsX10)) (goodIn_sub (fun _ h => List.mem_cons_of_mem _ (List.mem_append_left _ (List.mem_append_left _ (List.mem_append_left _ (List.mem_append_right _ h))))) gw_wsX100))) (goodIn_sub (fun _ h => List.mem_cons_of_mem _ (List.mem_append_right _ h)) (all_fg _))
set_option maxRecDepth 20000 in
theorem gX11_setSupport_X8_forgetTemplatesWith : GoodIn wsX11_setSupport (wsV RX11 221 RX8 yX8_forgetTemplatesWith wsX8_forgetTemplatesWith) := goodIn_app (goodIn_m (mem_cA (List.mem_cons_of_mem _ (List.mem_append_left _ (List.mem_append_left _ (List.mem_append_left _ (List.mem_append_left _ (List.mem_append_left _ (List.mem_append_left _ (List.mem_append_right _ (List.mem_append_left _ (List.mem_of_getElem? (i := 10) rfl)))))))))) (mem_cA (List.mem_cons_of_mem _ (List.mem_append_left _ (List.mem_append_left _ (List.mem_append_left _ (List.mem_append_left _ (List.mem_append_left _ (List.mem_append_left _ (List.mem_append_right _ (List.mem_append_left _ (List.mem_of_getElem? (i := 11) rfl)))))))))) (mem_cA (List.mem_cons_of_mem _ (List.mem_append_left _ (List.mem_append_left _ (List.mem_append_left _ (List.mem_append_left _ (List.mem_append_left _ (List.mem_append_left _ (List.mem_append_right _ (List.mem_append_left _ (List.mem_of_getElem? (i := 12) rfl)))))))))) (mem_cA (List.mem_cons_of_mem _ (List.mem_append_left _ (List.mem_append_left _ (List.mem_append_left _ (List.mem_append_left _ (List.mem_append_left _ (List.mem_append_left _ (List.mem_append_right _ (List.mem_append_left _ (List.mem_of_getElem? (i := 13) rfl)))))))))) mem_cZ)))) (by decide +kernel)) ggX11_setSupport_X8_forgetTemplatesWith
theorem dX11_setSupport_0 : decode cX11_setSupport 0 = .ok (.iload_n 1, 1) := by decide +kernel
theorem dX11_setSupport_1 : decode cX11_setSupport 1 = .ok (.ifCond .lt 9, 3) := by decide +kernel
theorem dX11_setSupport_4 : decode cX11_setSupport 4 = .ok (.iload_n 1, 1) := by decide +kernel
theorem dX11_setSupport_5 : decode cX11_setSupport 5 = .ok (.bipush 9, 2) := by decide +kernel
theorem dX11_setSupport_7 : decode cX11_setSupport 7 = .ok (.if_icmp .lt 11, 3) := by decide +kernel
theorem dX11_setSupport_10 : decode cX11_setSupport 10 = .ok (.new 116, 3) := by decide +kernel
theorem dX11_setSupport_13 : decode cX11_setSupport 13 = .ok (.dup, 1) := by decide +kernel
theorem dX11_setSupport_14 : decode cX11_setSupport 14 = .ok (.invokespecial 118, 3) := by decide +kernel
theorem dX11_setSupport_17 : decode cX11_setSupport 17 = .ok (.athrow, 1) := by decide +kernel
theorem dX11_setSupport_18 : decode cX11_setSupport 18 = .ok (.aload_n 0, 1) := by decide +kernel
theorem dX11_setSupport_19 : decode cX11_setSupport 19 = .ok (.getfield 21, 3) := by decide +kernel
theorem dX11_setSupport_22 : decode cX11_setSupport 22 = .ok (.getfield 215, 3) := by decide +kernel
theorem dX11_setSupport_25 : decode cX11_setSupport 25 = .ok (.iload_n 1, 1) := by decide +kernel
theorem dX11_setSupport_26 : decode cX11_setSupport 26 = .ok (.ishr, 1) := by decide +kernel
theorem dX11_setSupport_27 : decode cX11_setSupport 27 = .ok (.iconst 1, 1) := by decide +kernel
theorem dX11_setSupport_28 : decode cX11_setSupport 28 = .ok (.iand, 1) := by decide +kernel
theorem dX11_setSupport_29 : decode cX11_setSupport 29 = .ok (.iconst 1, 1) := by decide +kernel
theorem dX11_setSupport_30 : decode cX11_setSupport 30 = .ok (.if_icmp .ne 7, 3) := by decide +kernel
theorem dX11_setSupport_33 : decode cX11_setSupport 33 = .ok (.iconst 1, 1) := by decide +kernel
theorem dX11_setSupport_34 : decode cX11_setSupport 34 = .ok (.goto 4, 3) := by decide +kernel
theorem dX11_setSupport_37 : decode cX11_setSupport 37 = .ok (.iconst 0, 1) := by decide +kernel
theorem dX11_setSupport_38 : decode cX11_setSupport 38 = .ok (.istore_n 3, 1) := by decide +kernel
theorem dX11_setSupport_39 : decode cX11_setSupport 39 = .ok (.iload_n 3, 1) := by decide +kernel
theorem dX11_setSupport_40 : decode cX11_setSupport 40 = .ok (.iload_n 2, 1) := by decide +kernel
theorem dX11_setSupport_41 : decode cX11_setSupport 41 = .ok (.if_icmp .eq 29, 3) := by decide +kernel
theorem dX11_setSupport_44 : decode cX11_setSupport 44 = .ok (.aload_n 0, 1) := by decide +kernel
theorem dX11_setSupport_45 : decode cX11_setSupport 45 = .ok (.getfield 21, 3) := by decide +kernel
theorem dX11_setSupport_48 : decode cX11_setSupport 48 = .ok (.aload_n 0, 1) := by decide +kernel
theorem dX11_setSupport_49 : decode cX11_setSupport 49 = .ok (.getfield 21, 3) := by decide +kernel
theorem dX11_setSupport_52 : decode cX11_setSupport 52 = .ok (.getfield 215, 3) := by decide +kernel
theorem dX11_setSupport_55 : decode cX11_setSupport 55 = .ok (.iconst 1, 1) := by decide +kernel
theorem dX11_setSupport_56 : decode cX11_setSupport 56 = .ok (.iload_n 1, 1) := by decide +kernel
theorem dX11_setSupport_57 : decode cX11_setSupport 57 = .ok (.ishl, 1) := by decide +kernel
theorem dX11_setSupport_58 : decode cX11_setSupport 58 = .ok (.ixor, 1) := by decide +kernel
theorem dX11_setSupport_59 : decode cX11_setSupport 59 = .ok (.invokevirtual 218, 3) := by decide +kernel
theorem dX11_setSupport_62 : decode cX11_setSupport 62 = .ok (.aload_n 0, 1) := by decide +kernel
theorem dX11_setSupport_63 : decode cX11_setSupport 63 = .ok (.getfield 46, 3) := by decide +kernel
theorem dX11_setSupport_66 : decode cX11_setSupport 66 = .ok (.iload_n 1, 1) := by decide +kernel
theorem dX11_setSupport_67 : decode cX11_setSupport 67 = .ok (.invokevirtual 221, 3) := by decide +kernel
theorem dX11_setSupport_70 : decode cX11_setSupport 70 = .ok (.iload_n 3, 1) := by decide +kernel
theorem dX11_setSupport_71 : decode cX11_setSupport 71 = .ok (.ireturn, 1) := by decide +kernel
theorem dX11_lossRate_0 : decode cX11_lossRate 0 = .ok (.aload_n 0, 1) := by decide +kernel
theorem dX11_lossRate_1 : decode cX11_lossRate 1 = .ok (.getfield 71, 3) := by decide +kernel
theorem dX11_lossRate_4 : decode cX11_lossRate 4 = .ok (.getfield 289, 3) := by decide +kernel
theorem dX11_lossRate_7 : decode cX11_lossRate 7 = .ok (.iconst 0, 1) := by decide +kernel
theorem dX11_lossRate_8 : decode cX11_lossRate 8 = .ok (.laload, 1) := by decide +kernel
theorem dX11_lossRate_9 : decode cX11_lossRate 9 = .ok (.lstore_n 1, 1) := by decide +kernel
theorem dX11_lossRate_10 : decode cX11_lossRate 10 = .ok (.lload_n 1, 1) := by decide +kernel
theorem dX11_lossRate_11 : decode cX11_lossRate 11 = .ok (.aload_n 0, 1) := by decide +kernel
theorem dX11_lossRate_12 : decode cX11_lossRate 12 = .ok (.getfield 71, 3) := by decide +kernel
theorem dX11_lossRate_15 : decode cX11_lossRate 15 = .ok (.getfield 289, 3) := by decide +kernel
theorem dX11_lossRate_18 : decode cX11_lossRate 18 = .ok (.bipush 7, 2) := by decide +kernel
theorem dX11_lossRate_20 : decode cX11_lossRate 20 = .ok (.laload, 1) := by decide +kernel
theorem dX11_lossRate_21 : decode cX11_lossRate 21 = .ok (.ladd, 1) := by decide +kernel
theorem dX11_lossRate_22 : decode cX11_lossRate 22 = .ok (.lstore_n 3, 1) := by decide +kernel
theorem dX11_lossRate_23 : decode cX11_lossRate 23 = .ok (.lload_n 3, 1) := by decide +kernel
theorem dX11_lossRate_24 : decode cX11_lossRate 24 = .ok (.lconst 0, 1) := by decide +kernel
theorem dX11_lossRate_25 : decode cX11_lossRate 25 = .ok (.lcmp, 1) := by decide +kernel
theorem dX11_lossRate_26 : decode cX11_lossRate 26 = .ok (.ifCond .ne 11, 3) := by decide +kernel
theorem dX11_lossRate_29 : decode cX11_lossRate 29 = .ok (.new 293, 3) := by decide +kernel
theorem dX11_lossRate_32 : decode cX11_lossRate 32 = .ok (.dup, 1) := by decide +kernel
theorem dX11_lossRate_33 : decode cX11_lossRate 33 = .ok (.invokespecial 295, 3) := by decide +kernel
theorem dX11_lossRate_36 : decode cX11_lossRate 36 = .ok (.athrow, 1) := by decide +kernel
theorem dX11_lossRate_37 : decode cX11_lossRate 37 = .ok (.lload_n 1, 1) := by decide +kernel
theorem dX11_lossRate_38 : decode cX11_lossRate 38 = .ok (.l2d, 1) := by decide +kernel
theorem dX11_lossRate_39 : decode cX11_lossRate 39 = .ok (.lload_n 3, 1) := by decide +kernel
theorem dX11_lossRate_40 : decode cX11_lossRate 40 = .ok (.l2d, 1) := by decide +kernel
theorem dX11_lossRate_41 : decode cX11_lossRate 41 = .ok (.ddiv, 1) := by decide +kernel
theorem dX11_lossRate_42 : decode cX11_lossRate 42 = .ok (.dreturn, 1) := by decide +kernel
set_option maxRecDepth 20000 in
theorem ggX11_key_X11_requireKey : GoodIn wsX11_key wsX11_requireKey := goodIn_ca ((goodIn_ca (goodIn_ca (goodIn_r _ [9, 10, 11, 3, 12] rfl (by decide +kernel)) (goodIn_sub (fun _ h => List.mem_cons_of_mem _ (List.mem_append_left _ (List.mem_append_left _ (List.mem_append_left _ (List.mem_append_left _ (List.mem_append_right _ h)))))) gw_wsX110)) (goodIn_sub (fun _ h => List.mem_cons_of_mem _ (List.mem_append_left _ (List.mem_append_left _ (List.mem_append_left _ (List.mem_append_right _ h))))) gw_wsX90))) (goodIn_sub (fun _ h => List.mem_cons_of_mem _ (List.mem_append_right _ h)) (all_fg _))
set_option maxRecDepth 20000 in
theorem gX11_key_X11_requireKey : GoodIn wsX11_key (wsV RX11 298 RX11 yX11_requireKey wsX11_requireKey) := goodIn_app (goodIn_m (mem_cA (List.mem_cons_of_mem _ (List.mem_append_left _ (List.mem_append_left _ (List.mem_append_left _ (List.mem_append_left _ (List.mem_append_left _ (List.mem_of_getElem? (i := 4) rfl))))))) (mem_cA (List.mem_cons_of_mem _ (List.mem_append_left _ (List.mem_append_left _ (List.mem_append_left _ (List.mem_append_left _ (List.mem_append_left _ (List.mem_of_getElem? (i := 5) rfl))))))) (mem_cA (List.mem_cons_of_mem _ (List.mem_append_left _ (List.mem_append_left _ (List.mem_append_left _ (List.mem_append_left _ (List.mem_append_left _ (List.mem_of_getElem? (i := 6) rfl))))))) (mem_cA (List.mem_cons_of_mem _ (List.mem_append_left _ (List.mem_append_left _ (List.mem_append_left _ (List.mem_append_left _ (List.mem_append_left _ (List.mem_of_getElem? (i := 7) rfl))))))) mem_cZ)))) (by decide +kernel)) ggX11_key_X11_requireKey
set_option maxRecDepth 20000 in
theorem ggX11_key_X3_partOf : GoodIn wsX11_key wsX3_partOf := goodIn_ca ((goodIn_r _ [16, 17, 18] rfl (by decide +kernel))) (goodIn_sub (fun _ h => List.mem_cons_of_mem _ (List.mem_append_left _ (List.mem_append_right _ h))) (all_fg _))
set_option maxRecDepth 20000 in
theorem gX11_key_X3_partOf : GoodIn wsX11_key (va_wsS RX11 304 yX3_partOf wsX3_partOf) := goodIn_app (goodIn_m (mem_cA (List.mem_cons_of_mem _ (List.mem_append_left _ (List.mem_append_left _ (List.mem_append_left _ (List.mem_append_left _ (List.mem_append_left _ (List.mem_of_getElem? (i := 12) rfl))))))) (mem_cA (List.mem_cons_of_mem _ (List.mem_append_left _ (List.mem_append_left _ (List.mem_append_left _ (List.mem_append_left _ (List.mem_append_left _ (List.mem_of_getElem? (i := 13) rfl))))))) (mem_cA (List.mem_cons_of_mem _ (List.mem_append_left _ (List.mem_append_left _ (List.mem_append_left _ (List.mem_append_left _ (List.mem_append_left _ (List.mem_of_getElem? (i := 14) rfl))))))) mem_cZ))) (by decide +kernel)) ggX11_key_X3_partOf
theorem dX11_key_0 : decode cX11_key 0 = .ok (.aload_n 0, 1) := by decide +kernel
theorem dX11_key_1 : decode cX11_key 1 = .ok (.iload_n 1, 1) := by decide +kernel
theorem dX11_key_2 : decode cX11_key 2 = .ok (.invokevirtual 298, 3) := by decide +kernel
theorem dX11_key_5 : decode cX11_key 5 = .ok (.iload_n 2, 1) := by decide +kernel
theorem dX11_key_6 : decode cX11_key 6 = .ok (.ifCond .lt 8, 3) := by decide +kernel
theorem dX11_key_9 : decode cX11_key 9 = .ok (.iload_n 2, 1) := by decide +kernel
theorem dX11_key_10 : decode cX11_key 10 = .ok (.iconst 3, 1) := by decide +kernel
theorem dX11_key_11 : decode cX11_key 11 = .ok (.if_icmp .le 11, 3) := by decide +kernel
theorem dX11_key_14 : decode cX11_key 14 = .ok (.new 116, 3) := by decide +kernel
theorem dX11_key_17 : decode cX11_key 17 = .ok (.dup, 1) := by decide +kernel
theorem dX11_key_18 : decode cX11_key 18 = .ok (.invokespecial 118, 3) := by decide +kernel
theorem dX11_key_21 : decode cX11_key 21 = .ok (.athrow, 1) := by decide +kernel
theorem dX11_key_22 : decode cX11_key 22 = .ok (.aload_n 0, 1) := by decide +kernel
theorem dX11_key_23 : decode cX11_key 23 = .ok (.getfield 62, 3) := by decide +kernel
theorem dX11_key_26 : decode cX11_key 26 = .ok (.getfield 301, 3) := by decide +kernel
theorem dX11_key_29 : decode cX11_key 29 = .ok (.iload_n 1, 1) := by decide +kernel
theorem dX11_key_30 : decode cX11_key 30 = .ok (.laload, 1) := by decide +kernel
theorem dX11_key_31 : decode cX11_key 31 = .ok (.iload_n 2, 1) := by decide +kernel
theorem dX11_key_32 : decode cX11_key 32 = .ok (.invokestatic 304, 3) := by decide +kernel
theorem dX11_key_35 : decode cX11_key 35 = .ok (.ireturn, 1) := by decide +kernel
set_option maxRecDepth 20000 in
theorem ggX11_raw_X11_requireKey : GoodIn wsX11_raw wsX11_requireKey := goodIn_ca ((goodIn_ca (goodIn_ca (goodIn_r _ [7, 8, 9, 1, 10] rfl (by decide +kernel)) (goodIn_sub (fun _ h => List.mem_cons_of_mem _ (List.mem_append_left _ (List.mem_append_left _ (List.mem_append_left _ (List.mem_append_left _ (List.mem_append_right _ h)))))) gw_wsX110)) (goodIn_sub (fun _ h => List.mem_cons_of_mem _ (List.mem_append_left _ (List.mem_append_left _ (List.mem_append_left _ (List.mem_append_right _ h))))) gw_wsX90))) (goodIn_sub (fun _ h => List.mem_cons_of_mem _ (List.mem_append_left _ (List.mem_append_right _ h))) (all_fg _))
set_option maxRecDepth 20000 in
theorem gX11_raw_X11_requireKey : GoodIn wsX11_raw (wsV RX11 298 RX11 yX11_requireKey wsX11_requireKey) := goodIn_app (goodIn_m (mem_cA (List.mem_cons_of_mem _ (List.mem_append_left _ (List.mem_append_left _ (List.mem_append_left _ (List.mem_append_left _ (List.mem_append_left _ (List.mem_of_getElem? (i := 2) rfl))))))) (mem_cA (List.mem_cons_of_mem _ (List.mem_append_left _ (List.mem_append_left _ (List.mem_append_left _ (List.mem_append_left _ (List.mem_append_left _ (List.mem_of_getElem? (i := 3) rfl))))))) (mem_cA (List.mem_cons_of_mem _ (List.mem_append_left _ (List.mem_append_left _ (List.mem_append_left _ (List.mem_append_left _ (List.mem_append_left _ (List.mem_of_getElem? (i := 4) rfl))))))) (mem_cA (List.mem_cons_of_mem _ (List.mem_append_left _ (List.mem_append_left _ (List.mem_append_left _ (List.mem_append_left _ (List.mem_append_left _ (List.mem_of_getElem? (i := 5) rfl))))))) mem_cZ)))) (by decide +kernel)) ggX11_raw_X11_requireKey
set_option maxRecDepth 20000 in
theorem ggX11_raw_X11_requireWhat : GoodIn wsX11_raw wsX11_requireWhat := goodIn_ca ((goodIn_r _ [13, 14, 15] rfl (by decide +kernel))) (goodIn_sub (fun _ h => List.mem_cons_of_mem _ (List.mem_append_right _ h)) (all_fg _))
set_option maxRecDepth 20000 in
theorem gX11_raw_X11_requireWhat : GoodIn wsX11_raw (va_wsS RX11 312 yX11_requireWhat wsX11_requireWhat) := goodIn_app (goodIn_m (mem_cA (List.mem_cons_of_mem _ (List.mem_append_left _ (List.mem_append_left _ (List.mem_append_left _ (List.mem_append_left _ (List.mem_append_left _ (List.mem_of_getElem? (i := 10) rfl))))))) (mem_cA (List.mem_cons_of_mem _ (List.mem_append_left _ (List.mem_append_left _ (List.mem_append_left _ (List.mem_append_left _ (List.mem_append_left _ (List.mem_of_getElem? (i := 11) rfl))))))) (mem_cA (List.mem_cons_of_mem _ (List.mem_append_left _ (List.mem_append_left _ (List.mem_append_left _ (List.mem_append_left _ (List.mem_append_left _ (List.mem_of_getElem? (i := 5) rfl))))))) mem_cZ))) (by decide +kernel)) ggX11_raw_X11_requireWhat
theorem dX11_raw_0 : decode cX11_raw 0 = .ok (.aload_n 0, 1) := by decide +kernel
theorem dX11_raw_1 : decode cX11_raw 1 = .ok (.iload_n 1, 1) := by decide +kernel
theorem dX11_raw_2 : decode cX11_raw 2 = .ok (.invokevirtual 298, 3) := by decide +kernel
theorem dX11_raw_5 : decode cX11_raw 5 = .ok (.iload_n 2, 1) := by decide +kernel
theorem dX11_raw_6 : decode cX11_raw 6 = .ok (.invokestatic 312, 3) := by decide +kernel
theorem dX11_raw_9 : decode cX11_raw 9 = .ok (.aload_n 0, 1) := by decide +kernel
theorem dX11_raw_10 : decode cX11_raw 10 = .ok (.getfield 62, 3) := by decide +kernel
theorem dX11_raw_13 : decode cX11_raw 13 = .ok (.getfield 315, 3) := by decide +kernel
theorem dX11_raw_16 : decode cX11_raw 16 = .ok (.iload_n 2, 1) := by decide +kernel
theorem dX11_raw_17 : decode cX11_raw 17 = .ok (.aaload, 1) := by decide +kernel
theorem dX11_raw_18 : decode cX11_raw 18 = .ok (.iload_n 1, 1) := by decide +kernel
theorem dX11_raw_19 : decode cX11_raw 19 = .ok (.laload, 1) := by decide +kernel
theorem dX11_raw_20 : decode cX11_raw 20 = .ok (.lreturn, 1) := by decide +kernel
set_option maxHeartbeats 4000000 in
set_option maxRecDepth 100000 in
theorem s_X11_cached (G : EnvG) (l : Launch) (hl9 : l.stackTraces = false) (Φ : Hm) (sz x ca : Nat) (a : Int32) (b : Int32) (hx : G.2.2.2 ≤ x) (hI : In G x ca Φ)  : CtB G l yX11_cached wsX11_cached ({ frames := 6, cells := 1, slots := 6, locals := 81 }) 1 6 [.ref x, .int a, .int b] Φ sz (fun v Φ1 sz1 => (∃ r9 : Int64, v = some (.long r9)) ∧ sz1 = sz ∧ In G x (ca) Φ1 ∧ Fr x (fun j9 => (3 ≤ j9 ∧ j9 < 24) ∨ (46 ≤ j9 ∧ j9 < 149)) Φ Φ1) (fun Φ1 => In G x ca Φ1 ∧ Fr x (fun j9 => False) Φ Φ1) [xIO, xIA] := by
  refine CtB.of (cc := cX11_cached) (maxL := 3) (ret := (some .long)) (by decide) rfl (Nat.le_of_ble_eq_true rfl) ?_
  intro p9 e9 s9 m9 w9 t9 k9 B htab9
  show Z p9 l e9 _ s9 m9 _ w9 t9 k9 _ G 3 0 [(0, .ref x), (1, .int a), (2, .int b)] [] Φ sz 0 0
  refine z_iload_n B dX11_cached_0 rfl 1 rfl ?_
  refine z_if_lt (tgt := 18) B dX11_cached_1 rfl (fun c_1 => ?_) (fun c_1 => ?_)
  · exact zb_throw (cls := xIO) (ik := 153) (ic := 155) B hl9 htab9 (by decide) ⟨hI, (fun b9 h9 => rfl)⟩ (by decide) (by decide +kernel) (by decide +kernel) (by decide +kernel) (by decide +kernel) (by decide +kernel) (by decide +kernel) (by decide +kernel) dX11_cached_18 dX11_cached_21 dX11_cached_22 dX11_cached_25 ⟨Nat.le_of_ble_eq_true rfl, Nat.le_of_ble_eq_true rfl, Nat.le_of_ble_eq_true rfl, Nat.le_of_ble_eq_true rfl⟩ ⟨Nat.le_of_ble_eq_true rfl, Nat.le_of_ble_eq_true rfl⟩
  · obtain ⟨n_1, e_1, rfl⟩ := nI_of c_1
    refine z_iload_n B dX11_cached_4 rfl 1 rfl ?_
    refine z_aload_n B dX11_cached_5 rfl 0 rfl ?_
    have h_1 := in0 (k := 0) hI rfl
    have h_2 : Φ x = some (o_ 13 [.ref (x + 1), .ref (x + 3), .ref (x + 24), .ref (x + 46), .ref (x + 74), .ref (x + 80), .ref (x + 132), .ref (x + 121)]) := h_1
    refine z_get (ref := "FlowExporter") (C := RX11) (T := TX11) (N := 8) (ci := 13) (v := .ref (x + 80)) B hu_X11_cached_X11 rfl 5 (Nat.le_of_ble_eq_true rfl) hv_X11_cached_55 rfl h_2 rfl dX11_cached_6 ?_
    obtain ⟨v_1, v_2, v_3, v_4, v_5, v_6, v_7, v_8, v_9, h_3, b_1⟩ := in16 (k := 80) hI rfl
    have h_4 : Φ (x + 80) = some (o_ 4 [.ref (x + 3), .ref (x + 74), .ref (x + 81), .ref (x + 95), .int v_1, .int v_2, .int v_3, .int v_4, .int v_5, .int v_6, .long v_7, .long v_8, .long v_9]) := h_3
    refine z_get (ref := "FlowExporter$Exporter") (C := RX2) (T := TX2) (N := 13) (ci := 4) (v := .ref (x + 81)) B hu_X11_cached_X2 rfl 2 (Nat.le_of_ble_eq_true rfl) hv_X11_cached_146 rfl h_4 rfl dX11_cached_9 ?_
    obtain ⟨n_2, h_5, b_2⟩ := in17 (k := 81) hI rfl
    replace b_2 : n_2 ≤ 12 := b_2
    have h_6 : Φ (x + 81) = some (o_ 6 [.ref (x + 82), .int (nI n_2)]) := h_5
    refine z_get (ref := "FlowExporter$FlowTable") (C := RX4) (T := TX4) (N := 2) (ci := 6) (v := .int (nI n_2)) B hu_X11_cached_X4 rfl 1 (Nat.le_of_ble_eq_true rfl) hv_X11_cached_150 rfl h_6 rfl dX11_cached_12 ?_
    refine z_icmp_lt (tgt := 26) B dX11_cached_15 rfl (fun c_2 => ?_) (fun c_2 => ?_)
    · have e_2 : n_1 < n_2 := (nI_ltI (a := n_1) (b := n_2) (by omega) (by omega)).mp c_2
      refine z_iload_n B dX11_cached_26 rfl 2 rfl ?_
      refine z_if_lt (tgt := 36) B dX11_cached_27 rfl (fun c_3 => ?_) (fun c_3 => ?_)
      · exact zb_throw (cls := xIA) (ik := 116) (ic := 118) B hl9 htab9 (by decide) ⟨hI, (fun b9 h9 => rfl)⟩ (by decide) (by decide +kernel) (by decide +kernel) (by decide +kernel) (by decide +kernel) (by decide +kernel) (by decide +kernel) (by decide +kernel) dX11_cached_36 dX11_cached_39 dX11_cached_40 dX11_cached_43 ⟨Nat.le_of_ble_eq_true rfl, Nat.le_of_ble_eq_true rfl, Nat.le_of_ble_eq_true rfl, Nat.le_of_ble_eq_true rfl⟩ ⟨Nat.le_of_ble_eq_true rfl, Nat.le_of_ble_eq_true rfl⟩
      · obtain ⟨n_3, e_3, rfl⟩ := nI_of c_3
        refine z_iload_n B dX11_cached_30 rfl 2 rfl ?_
        refine z_bipush (v := 7) B dX11_cached_31 rfl ?_
        refine z_icmp_le (tgt := 44) B dX11_cached_33 rfl (fun c_4 => ?_) (fun c_4 => ?_)
        · have e_4 : n_3 ≤ 7 := (nI_leI (a := n_3) (b := 7) (by omega) (by omega)).mp c_4
          refine z_aload_n B dX11_cached_44 rfl 0 rfl ?_
          refine z_get (ref := "FlowExporter") (C := RX11) (T := TX11) (N := 8) (ci := 13) (v := .ref (x + 80)) B hu_X11_cached_X11 rfl 5 (Nat.le_of_ble_eq_true rfl) hv_X11_cached_55 rfl h_2 rfl dX11_cached_45 ?_
          refine z_get (ref := "FlowExporter$Exporter") (C := RX2) (T := TX2) (N := 13) (ci := 4) (v := .ref (x + 81)) B hu_X11_cached_X2 rfl 2 (Nat.le_of_ble_eq_true rfl) hv_X11_cached_146 rfl h_4 rfl dX11_cached_48 ?_
          refine z_iload_n B dX11_cached_51 rfl 1 rfl ?_
          refine z_callV (As := [.int (nI n_1)]) (rest := []) B (s_X4_flowAt G l Φ sz x (ca) 81 (nI n_1) hx hI rfl) (cwV 1 B.1.2.2.2.2 gX11_cached_X4_flowAt rfl rfl rfl (by decide +kernel) ⟨Nat.le_of_ble_eq_true rfl, Nat.le_of_ble_eq_true rfl⟩) h_6 rfl rfl rfl rfl (Nat.le_of_ble_eq_true rfl) dX11_cached_52 ⟨Nat.le_of_ble_eq_true rfl, Nat.le_of_ble_eq_true rfl⟩ (fun r_1 Φ1 sz1 st1 hp1 hs1 => ?_)
          obtain ⟨⟨m_1, hm_1, rfl⟩, hq1, hI1, hF1⟩ := hp1
          subst sz1
          replace hs1 : st1 = [.ref (x + (81 + 2 + m_1))] := hs1
          subst st1
          replace hI1 : In G x (ca) Φ1 := hI1
          replace hm_1 : m_1 < 12 := hm_1
          refine z_iload_n B dX11_cached_55 rfl 2 rfl ?_
          obtain ⟨v_10, v_11, v_12, v_13, v_14, h_7⟩ := in19 (k := 81 + 2 + m_1) hI1 (kd_f (kd_r rfl) hm_1)
          have h_8 : Φ1 (x + (81 + 2 + m_1)) = some (o_ 5 [.long v_10, .long v_11, .long v_12, .int v_13, .int v_14]) := h_7
          refine z_callV (As := [.int (nI n_3)]) (rest := []) B (s_X3_value G l Φ1 sz x (ca) (81 + 2 + m_1) (nI n_3) hx hI1 (kd_f (kd_r rfl) hm_1)) (cwV 1 B.1.2.2.2.2 gX11_cached_X3_value rfl rfl rfl (by decide +kernel) ⟨Nat.le_of_ble_eq_true rfl, Nat.le_of_ble_eq_true rfl⟩) h_8 rfl rfl rfl rfl (Nat.le_of_ble_eq_true rfl) dX11_cached_56 ⟨Nat.le_of_ble_eq_true rfl, Nat.le_of_ble_eq_true rfl⟩ (fun r_2 Φ2 sz2 st2 hp2 hs2 => ?_)
          obtain ⟨⟨v_15, rfl⟩, hq2, hI2, hF2⟩ := hp2
          subst sz2
          replace hs2 : st2 = [.long v_15] := hs2
          subst st2
          replace hI2 : In G x (ca) Φ2 := hI2
          exact zb_ret (Nat.le_of_ble_eq_true rfl) (Nat.le_of_ble_eq_true rfl) (z_ret_l B dX11_cached_59 ⟨⟨_, rfl⟩, rfl, hI2, (fun b9 h9 => ((hF2 b9 (fun j9 h8 h7 => (show False from h7).elim)).trans ((hF1 b9 (fun j9 h8 h7 => (show False from h7).elim)).trans rfl)))⟩)
        · have e_5 : ¬ (n_3 ≤ 7) := fun h9 => c_4 ((nI_leI (a := n_3) (b := 7) (by omega) (by omega)).mpr h9)
          exact zb_throw (cls := xIA) (ik := 116) (ic := 118) B hl9 htab9 (by decide) ⟨hI, (fun b9 h9 => rfl)⟩ (by decide) (by decide +kernel) (by decide +kernel) (by decide +kernel) (by decide +kernel) (by decide +kernel) (by decide +kernel) (by decide +kernel) dX11_cached_36 dX11_cached_39 dX11_cached_40 dX11_cached_43 ⟨Nat.le_of_ble_eq_true rfl, Nat.le_of_ble_eq_true rfl, Nat.le_of_ble_eq_true rfl, Nat.le_of_ble_eq_true rfl⟩ ⟨Nat.le_of_ble_eq_true rfl, Nat.le_of_ble_eq_true rfl⟩
    · have e_6 : ¬ (n_1 < n_2) := fun h9 => c_2 ((nI_ltI (a := n_1) (b := n_2) (by omega) (by omega)).mpr h9)
      exact zb_throw (cls := xIO) (ik := 153) (ic := 155) B hl9 htab9 (by decide) ⟨hI, (fun b9 h9 => rfl)⟩ (by decide) (by decide +kernel) (by decide +kernel) (by decide +kernel) (by decide +kernel) (by decide +kernel) (by decide +kernel) (by decide +kernel) dX11_cached_18 dX11_cached_21 dX11_cached_22 dX11_cached_25 ⟨Nat.le_of_ble_eq_true rfl, Nat.le_of_ble_eq_true rfl, Nat.le_of_ble_eq_true rfl, Nat.le_of_ble_eq_true rfl⟩ ⟨Nat.le_of_ble_eq_true rfl, Nat.le_of_ble_eq_true rfl⟩

theorem hu_X11_setSupport_X11 : ∀ w ∈ u_ws RX11 TX11 8, w ∈ wsX11_setSupport := fun _ h => List.mem_cons_of_mem _ (List.mem_append_left _ (List.mem_append_left _ (List.mem_append_left _ (List.mem_append_left _ (List.mem_append_left _ (List.mem_append_right _ (h)))))))

theorem hv_X11_setSupport_21 : Cond.fieldLink RX11 21 "FlowExporter" (TX11 1).2.1 (TX11 1).2.2.1 ∈ wsX11_setSupport := List.mem_cons_of_mem _ (List.mem_append_left _ (List.mem_append_left _ (List.mem_append_left _ (List.mem_append_left _ (List.mem_append_left _ (List.mem_append_left _ (List.mem_append_left _ (List.mem_of_getElem? (i := 2) rfl))))))))

theorem hu_X11_setSupport_X1 : ∀ w ∈ u_ws RX1 TX1 6, w ∈ wsX11_setSupport := fun _ h => List.mem_cons_of_mem _ (List.mem_append_left _ (List.mem_append_left _ (List.mem_append_left _ (List.mem_append_left _ (List.mem_append_right _ (h))))))

theorem hv_X11_setSupport_215 : Cond.fieldLink RX11 215 "FlowExporter$Config" (TX1 5).2.1 (TX1 5).2.2.1 ∈ wsX11_setSupport := List.mem_cons_of_mem _ (List.mem_append_left _ (List.mem_append_left _ (List.mem_append_left _ (List.mem_append_left _ (List.mem_append_left _ (List.mem_append_left _ (List.mem_append_left _ (List.mem_of_getElem? (i := 3) rfl))))))))

theorem fq_690 {x : Nat} : ∀ j9 : Nat, x = x + j9 → (3 ≤ j9 ∧ j9 < 3 + 21) → False := by
  intro j9 h1 h2
  omega

theorem hv_X11_setSupport_46 : Cond.fieldLink RX11 46 "FlowExporter" (TX11 4).2.1 (TX11 4).2.2.1 ∈ wsX11_setSupport := List.mem_cons_of_mem _ (List.mem_append_left _ (List.mem_append_left _ (List.mem_append_left _ (List.mem_append_left _ (List.mem_append_left _ (List.mem_append_left _ (List.mem_append_left _ (List.mem_of_getElem? (i := 4) rfl))))))))

theorem fq_692 : ∀ j9 : Nat, (3 ≤ j9 ∧ j9 < 3 + 21) → ((3 ≤ j9 ∧ j9 < 24) ∨ (46 ≤ j9 ∧ j9 < 149)) := by
  intro j9 h
  omega

set_option maxHeartbeats 4000000 in
set_option maxRecDepth 100000 in
theorem s_X11_setSupport (G : EnvG) (l : Launch) (hl9 : l.stackTraces = false) (Φ : Hm) (sz x ca : Nat) (a : Int32) (b : Int32) (hx : G.2.2.2 ≤ x) (hI : In G x ca Φ) (hb : b = 0 ∨ b = 1) : CtB G l yX11_setSupport wsX11_setSupport ({ frames := 6, cells := 1, slots := 6, locals := 81 }) 1 6 [.ref x, .int a, .int b] Φ sz (fun v Φ1 sz1 => (∃ r9 : Int32, v = some (.int r9) ∧ (r9 = 0 ∨ r9 = 1)) ∧ sz1 = sz ∧ In G x (ca) Φ1 ∧ Fr x (fun j9 => (3 ≤ j9 ∧ j9 < 24) ∨ (46 ≤ j9 ∧ j9 < 149)) Φ Φ1) (fun Φ1 => In G x ca Φ1 ∧ Fr x (fun j9 => False) Φ Φ1) [xIA] := by
  refine CtB.of (cc := cX11_setSupport) (maxL := 4) (ret := (some .boolean)) (by decide) rfl (Nat.le_of_ble_eq_true rfl) ?_
  intro p9 e9 s9 m9 w9 t9 k9 B htab9
  show Z p9 l e9 _ s9 m9 _ w9 t9 k9 _ G 4 0 [(0, .ref x), (1, .int a), (2, .int b)] [] Φ sz 0 0
  refine z_iload_n B dX11_setSupport_0 rfl 1 rfl ?_
  refine z_if_lt (tgt := 10) B dX11_setSupport_1 rfl (fun c_1 => ?_) (fun c_1 => ?_)
  · exact zb_throw (cls := xIA) (ik := 116) (ic := 118) B hl9 htab9 (by decide) ⟨hI, (fun b9 h9 => rfl)⟩ (by decide) (by decide +kernel) (by decide +kernel) (by decide +kernel) (by decide +kernel) (by decide +kernel) (by decide +kernel) (by decide +kernel) dX11_setSupport_10 dX11_setSupport_13 dX11_setSupport_14 dX11_setSupport_17 ⟨Nat.le_of_ble_eq_true rfl, Nat.le_of_ble_eq_true rfl, Nat.le_of_ble_eq_true rfl, Nat.le_of_ble_eq_true rfl⟩ ⟨Nat.le_of_ble_eq_true rfl, Nat.le_of_ble_eq_true rfl⟩
  · obtain ⟨n_1, e_1, rfl⟩ := nI_of c_1
    refine z_iload_n B dX11_setSupport_4 rfl 1 rfl ?_
    refine z_bipush (v := 9) B dX11_setSupport_5 rfl ?_
    refine z_icmp_lt (tgt := 18) B dX11_setSupport_7 rfl (fun c_2 => ?_) (fun c_2 => ?_)
    · have e_2 : n_1 < 9 := (nI_ltI (a := n_1) (b := 9) (by omega) (by omega)).mp c_2
      refine z_aload_n B dX11_setSupport_18 rfl 0 rfl ?_
      have h_1 := in0 (k := 0) hI rfl
      have h_2 : Φ x = some (o_ 13 [.ref (x + 1), .ref (x + 3), .ref (x + 24), .ref (x + 46), .ref (x + 74), .ref (x + 80), .ref (x + 132), .ref (x + 121)]) := h_1
      refine z_get (ref := "FlowExporter") (C := RX11) (T := TX11) (N := 8) (ci := 13) (v := .ref (x + 3)) B hu_X11_setSupport_X11 rfl 1 (Nat.le_of_ble_eq_true rfl) hv_X11_setSupport_21 rfl h_2 rfl dX11_setSupport_19 ?_
      obtain ⟨v_1, v_2, h_3⟩ := in3 (k := 3) hI rfl
      have h_4 : Φ (x + 3) = some (o_ 3 [.ref (x + 4), .ref (x + 5), .ref (x + 6), .ref (x + 7), .int v_1, .int v_2]) := h_3
      refine z_get (ref := "FlowExporter$Config") (C := RX1) (T := TX1) (N := 6) (ci := 3) (v := .int v_2) B hu_X11_setSupport_X1 rfl 5 (Nat.le_of_ble_eq_true rfl) hv_X11_setSupport_215 rfl h_4 rfl dX11_setSupport_22 ?_
      refine z_iload_n B dX11_setSupport_25 rfl 1 rfl ?_
      refine z_ishr B dX11_setSupport_26 ?_
      refine z_fi (fun v_3 => ?_)
      refine z_iconst (v := 1) B dX11_setSupport_27 rfl ?_
      refine z_iand B dX11_setSupport_28 ?_
      refine z_fi (fun v_4 => ?_)
      refine z_iconst (v := 1) B dX11_setSupport_29 rfl ?_
      refine z_icmp_ne (tgt := 37) B dX11_setSupport_30 rfl (fun c_3 => ?_) (fun c_3 => ?_)
      · refine z_iconst (v := 0) B dX11_setSupport_37 rfl ?_
        refine z_istore_n (lv' := [(3, .int 0), (0, .ref x), (1, .int (nI n_1)), (2, .int b)]) B dX11_setSupport_38 rfl (Nat.le_of_ble_eq_true rfl) rfl ?_
        refine z_iload_n B dX11_setSupport_39 rfl 0 rfl ?_
        refine z_iload_n B dX11_setSupport_40 rfl 3 rfl ?_
        refine z_icmp_eq (tgt := 70) B dX11_setSupport_41 rfl (fun c_4 => ?_) (fun c_4 => ?_)
        · refine z_iload_n B dX11_setSupport_70 rfl 0 rfl ?_
          exact zb_ret (Nat.le_of_ble_eq_true rfl) (Nat.le_of_ble_eq_true rfl) (z_ret_z B dX11_setSupport_71 (by decide) ⟨⟨_, rfl, by decide⟩, rfl, hI, (fun b9 h9 => rfl)⟩)
        · refine z_aload_n B dX11_setSupport_44 rfl 1 rfl ?_
          refine z_get (ref := "FlowExporter") (C := RX11) (T := TX11) (N := 8) (ci := 13) (v := .ref (x + 3)) B hu_X11_setSupport_X11 rfl 1 (Nat.le_of_ble_eq_true rfl) hv_X11_setSupport_21 rfl h_2 rfl dX11_setSupport_45 ?_
          refine z_aload_n B dX11_setSupport_48 rfl 1 rfl ?_
          refine z_get (ref := "FlowExporter") (C := RX11) (T := TX11) (N := 8) (ci := 13) (v := .ref (x + 3)) B hu_X11_setSupport_X11 rfl 1 (Nat.le_of_ble_eq_true rfl) hv_X11_setSupport_21 rfl h_2 rfl dX11_setSupport_49 ?_
          refine z_get (ref := "FlowExporter$Config") (C := RX1) (T := TX1) (N := 6) (ci := 3) (v := .int v_2) B hu_X11_setSupport_X1 rfl 5 (Nat.le_of_ble_eq_true rfl) hv_X11_setSupport_215 rfl h_4 rfl dX11_setSupport_52 ?_
          refine z_iconst (v := 1) B dX11_setSupport_55 rfl ?_
          refine z_iload_n B dX11_setSupport_56 rfl 2 rfl ?_
          refine z_ishl B dX11_setSupport_57 ?_
          refine z_fi (fun v_5 => ?_)
          refine z_ixor B dX11_setSupport_58 ?_
          refine z_fi (fun v_6 => ?_)
          refine z_callV (As := [.int v_6]) (rest := []) B (s_X1_support G l Φ sz x (ca) 3 v_6 hx hI rfl) (cwV 1 B.1.2.2.2.2 gX11_setSupport_X1_support rfl rfl rfl (by decide +kernel) ⟨Nat.le_of_ble_eq_true rfl, Nat.le_of_ble_eq_true rfl⟩) h_4 rfl rfl rfl rfl (Nat.le_of_ble_eq_true rfl) dX11_setSupport_59 ⟨Nat.le_of_ble_eq_true rfl, Nat.le_of_ble_eq_true rfl⟩ (fun r_1 Φ1 sz1 st1 hp1 hs1 => ?_)
          obtain ⟨rfl, hq1, hI1, hF1⟩ := hp1
          subst sz1
          replace hs1 : st1 = [] := hs1
          subst st1
          replace hI1 : In G x (ca) Φ1 := hI1
          refine z_aload_n B dX11_setSupport_62 rfl 1 rfl ?_
          have h_5 : Φ1 x = some (o_ 13 [.ref (x + 1), .ref (x + 3), .ref (x + 24), .ref (x + 46), .ref (x + 74), .ref (x + 80), .ref (x + 132), .ref (x + 121)]) := ((hF1 x fq_690).trans h_2)
          refine z_get (ref := "FlowExporter") (C := RX11) (T := TX11) (N := 8) (ci := 13) (v := .ref (x + 74)) B hu_X11_setSupport_X11 rfl 4 (Nat.le_of_ble_eq_true rfl) hv_X11_setSupport_46 rfl h_5 rfl dX11_setSupport_63 ?_
          refine z_iload_n B dX11_setSupport_66 rfl 2 rfl ?_
          obtain ⟨n_2, v_7, v_8, v_9, h_6, b_1⟩ := in13 (k := 74) hI1 rfl
          have h_7 : Φ1 (x + 74) = some (o_ 10 [.ref (x + 3), .ref (x + 46), .ref (x + 75), .ref (x + 77), .int (nI n_2), .ref (x + 78), .ref (x + 79), .int v_7, .long v_8, .int v_9]) := h_6
          refine z_callV (As := [.int (nI n_1)]) (rest := []) B (s_X8_forgetTemplatesWith G l Φ1 sz x (ca) (nI n_1) hx hI1 ) (cwV 1 B.1.2.2.2.2 gX11_setSupport_X8_forgetTemplatesWith rfl rfl rfl (by decide +kernel) ⟨Nat.le_of_ble_eq_true rfl, Nat.le_of_ble_eq_true rfl⟩) h_7 rfl rfl rfl rfl (Nat.le_of_ble_eq_true rfl) dX11_setSupport_67 ⟨Nat.le_of_ble_eq_true rfl, Nat.le_of_ble_eq_true rfl⟩ (fun r_2 Φ2 sz2 st2 hp2 hs2 => ?_)
          obtain ⟨rfl, hq2, hI2, hF2⟩ := hp2
          subst sz2
          replace hs2 : st2 = [] := hs2
          subst st2
          replace hI2 : In G x (ca) Φ2 := hI2
          refine z_iload_n B dX11_setSupport_70 rfl 0 rfl ?_
          exact zb_ret (Nat.le_of_ble_eq_true rfl) (Nat.le_of_ble_eq_true rfl) (z_ret_z B dX11_setSupport_71 (by decide) ⟨⟨_, rfl, by decide⟩, rfl, hI2, (fun b9 h9 => ((hF2 b9 (fun j9 h8 h7 => h9 j9 h8 (fq_453 j9 h7))).trans ((hF1 b9 (fun j9 h8 h7 => h9 j9 h8 (fq_692 j9 h7))).trans rfl)))⟩)
      · refine z_iconst (v := 1) B dX11_setSupport_33 rfl ?_
        refine z_goto (tgt := 38) B dX11_setSupport_34 rfl ?_
        refine z_istore_n (lv' := [(3, .int 1), (0, .ref x), (1, .int (nI n_1)), (2, .int b)]) B dX11_setSupport_38 rfl (Nat.le_of_ble_eq_true rfl) rfl ?_
        refine z_iload_n B dX11_setSupport_39 rfl 0 rfl ?_
        refine z_iload_n B dX11_setSupport_40 rfl 3 rfl ?_
        refine z_icmp_eq (tgt := 70) B dX11_setSupport_41 rfl (fun c_5 => ?_) (fun c_5 => ?_)
        · refine z_iload_n B dX11_setSupport_70 rfl 0 rfl ?_
          exact zb_ret (Nat.le_of_ble_eq_true rfl) (Nat.le_of_ble_eq_true rfl) (z_ret_z B dX11_setSupport_71 (by decide) ⟨⟨_, rfl, by decide⟩, rfl, hI, (fun b9 h9 => rfl)⟩)
        · refine z_aload_n B dX11_setSupport_44 rfl 1 rfl ?_
          refine z_get (ref := "FlowExporter") (C := RX11) (T := TX11) (N := 8) (ci := 13) (v := .ref (x + 3)) B hu_X11_setSupport_X11 rfl 1 (Nat.le_of_ble_eq_true rfl) hv_X11_setSupport_21 rfl h_2 rfl dX11_setSupport_45 ?_
          refine z_aload_n B dX11_setSupport_48 rfl 1 rfl ?_
          refine z_get (ref := "FlowExporter") (C := RX11) (T := TX11) (N := 8) (ci := 13) (v := .ref (x + 3)) B hu_X11_setSupport_X11 rfl 1 (Nat.le_of_ble_eq_true rfl) hv_X11_setSupport_21 rfl h_2 rfl dX11_setSupport_49 ?_
          refine z_get (ref := "FlowExporter$Config") (C := RX1) (T := TX1) (N := 6) (ci := 3) (v := .int v_2) B hu_X11_setSupport_X1 rfl 5 (Nat.le_of_ble_eq_true rfl) hv_X11_setSupport_215 rfl h_4 rfl dX11_setSupport_52 ?_
          refine z_iconst (v := 1) B dX11_setSupport_55 rfl ?_
          refine z_iload_n B dX11_setSupport_56 rfl 2 rfl ?_
          refine z_ishl B dX11_setSupport_57 ?_
          refine z_fi (fun v_10 => ?_)
          refine z_ixor B dX11_setSupport_58 ?_
          refine z_fi (fun v_11 => ?_)
          refine z_callV (As := [.int v_11]) (rest := []) B (s_X1_support G l Φ sz x (ca) 3 v_11 hx hI rfl) (cwV 1 B.1.2.2.2.2 gX11_setSupport_X1_support rfl rfl rfl (by decide +kernel) ⟨Nat.le_of_ble_eq_true rfl, Nat.le_of_ble_eq_true rfl⟩) h_4 rfl rfl rfl rfl (Nat.le_of_ble_eq_true rfl) dX11_setSupport_59 ⟨Nat.le_of_ble_eq_true rfl, Nat.le_of_ble_eq_true rfl⟩ (fun r_3 Φ3 sz3 st3 hp3 hs3 => ?_)
          obtain ⟨rfl, hq3, hI3, hF3⟩ := hp3
          subst sz3
          replace hs3 : st3 = [] := hs3
          subst st3
          replace hI3 : In G x (ca) Φ3 := hI3
          refine z_aload_n B dX11_setSupport_62 rfl 1 rfl ?_
          have h_8 : Φ3 x = some (o_ 13 [.ref (x + 1), .ref (x + 3), .ref (x + 24), .ref (x + 46), .ref (x + 74), .ref (x + 80), .ref (x + 132), .ref (x + 121)]) := ((hF3 x fq_690).trans h_2)
          refine z_get (ref := "FlowExporter") (C := RX11) (T := TX11) (N := 8) (ci := 13) (v := .ref (x + 74)) B hu_X11_setSupport_X11 rfl 4 (Nat.le_of_ble_eq_true rfl) hv_X11_setSupport_46 rfl h_8 rfl dX11_setSupport_63 ?_
          refine z_iload_n B dX11_setSupport_66 rfl 2 rfl ?_
          obtain ⟨n_3, v_12, v_13, v_14, h_9, b_2⟩ := in13 (k := 74) hI3 rfl
          have h_10 : Φ3 (x + 74) = some (o_ 10 [.ref (x + 3), .ref (x + 46), .ref (x + 75), .ref (x + 77), .int (nI n_3), .ref (x + 78), .ref (x + 79), .int v_12, .long v_13, .int v_14]) := h_9
          refine z_callV (As := [.int (nI n_1)]) (rest := []) B (s_X8_forgetTemplatesWith G l Φ3 sz x (ca) (nI n_1) hx hI3 ) (cwV 1 B.1.2.2.2.2 gX11_setSupport_X8_forgetTemplatesWith rfl rfl rfl (by decide +kernel) ⟨Nat.le_of_ble_eq_true rfl, Nat.le_of_ble_eq_true rfl⟩) h_10 rfl rfl rfl rfl (Nat.le_of_ble_eq_true rfl) dX11_setSupport_67 ⟨Nat.le_of_ble_eq_true rfl, Nat.le_of_ble_eq_true rfl⟩ (fun r_4 Φ4 sz4 st4 hp4 hs4 => ?_)
          obtain ⟨rfl, hq4, hI4, hF4⟩ := hp4
          subst sz4
          replace hs4 : st4 = [] := hs4
          subst st4
          replace hI4 : In G x (ca) Φ4 := hI4
          refine z_iload_n B dX11_setSupport_70 rfl 0 rfl ?_
          exact zb_ret (Nat.le_of_ble_eq_true rfl) (Nat.le_of_ble_eq_true rfl) (z_ret_z B dX11_setSupport_71 (by decide) ⟨⟨_, rfl, by decide⟩, rfl, hI4, (fun b9 h9 => ((hF4 b9 (fun j9 h8 h7 => h9 j9 h8 (fq_453 j9 h7))).trans ((hF3 b9 (fun j9 h8 h7 => h9 j9 h8 (fq_692 j9 h7))).trans rfl)))⟩)
    · have e_3 : ¬ (n_1 < 9) := fun h9 => c_2 ((nI_ltI (a := n_1) (b := 9) (by omega) (by omega)).mpr h9)
      exact zb_throw (cls := xIA) (ik := 116) (ic := 118) B hl9 htab9 (by decide) ⟨hI, (fun b9 h9 => rfl)⟩ (by decide) (by decide +kernel) (by decide +kernel) (by decide +kernel) (by decide +kernel) (by decide +kernel) (by decide +kernel) (by decide +kernel) dX11_setSupport_10 dX11_setSupport_13 dX11_setSupport_14 dX11_setSupport_17 ⟨Nat.le_of_ble_eq_true rfl, Nat.le_of_ble_eq_true rfl, Nat.le_of_ble_eq_true rfl, Nat.le_of_ble_eq_true rfl⟩ ⟨Nat.le_of_ble_eq_true rfl, Nat.le_of_ble_eq_true rfl⟩

theorem hu_X11_observe_X11 : ∀ w ∈ u_ws RX11 TX11 8, w ∈ wsX11_observe := fun _ h => List.mem_cons_of_mem _ (List.mem_append_left _ (List.mem_append_left _ (List.mem_append_left _ (List.mem_append_left _ (List.mem_append_left _ (List.mem_append_left _ (List.mem_append_left _ (List.mem_append_left _ (List.mem_append_left _ (List.mem_append_left _ (List.mem_append_left _ (List.mem_append_right _ (h)))))))))))))

theorem hv_X11_observe_55 : Cond.fieldLink RX11 55 "FlowExporter" (TX11 5).2.1 (TX11 5).2.2.1 ∈ wsX11_observe := List.mem_cons_of_mem _ (List.mem_append_left _ (List.mem_append_left _ (List.mem_append_left _ (List.mem_append_left _ (List.mem_append_left _ (List.mem_append_left _ (List.mem_append_left _ (List.mem_append_left _ (List.mem_append_left _ (List.mem_append_left _ (List.mem_append_left _ (List.mem_append_left _ (List.mem_append_left _ (List.mem_of_getElem? (i := 0) rfl))))))))))))))

theorem fq_695 : ∀ j9 : Nat, (46 ≤ j9 ∧ j9 < 121) → ((3 ≤ j9 ∧ j9 < 24) ∨ (46 ≤ j9 ∧ j9 < 149)) := by
  intro j9 h
  omega

set_option maxHeartbeats 4000000 in
set_option maxRecDepth 100000 in
theorem s_X11_observe (G : EnvG) (l : Launch) (hl9 : l.stackTraces = false) (Φ : Hm) (sz x ca : Nat) (a : Int32) (b : Int32) (d : Int32) (f : Int32) (g : Int32) (hx : G.2.2.2 ≤ x) (hI : In G x ca Φ)  : CtB G l yX11_observe wsX11_observe ({ frames := 7, cells := 1, slots := 6, locals := 151 }) 1 6 [.ref x, .int a, .int b, .int d, .int f, .int g] Φ sz (fun v Φ1 sz1 => (∃ r9 : Int32, v = some (.int r9) ∧ (r9 = 0 ∨ r9 = 1)) ∧ sz1 = sz ∧ In G x (ca) Φ1 ∧ Fr x (fun j9 => (3 ≤ j9 ∧ j9 < 24) ∨ (46 ≤ j9 ∧ j9 < 149)) Φ Φ1) (fun Φ1 => In G x ca Φ1 ∧ Fr x (fun j9 => False) Φ Φ1) [xIA] := by
  refine CtB.of (cc := cX11_observe) (maxL := 8) (ret := (some .boolean)) (by decide) rfl (Nat.le_of_ble_eq_true rfl) ?_
  intro p9 e9 s9 m9 w9 t9 k9 B htab9
  show Z p9 l e9 _ s9 m9 _ w9 t9 k9 _ G 8 0 [(0, .ref x), (1, .int a), (2, .int b), (3, .int d), (4, .int f), (5, .int g)] [] Φ sz 0 0
  refine z_iload_n B dX11_observe_0 rfl 1 rfl ?_
  refine z_iload_n B dX11_observe_1 rfl 2 rfl ?_
  refine z_iload_n B dX11_observe_2 rfl 3 rfl ?_
  refine z_iload B dX11_observe_3 4 rfl ?_
  refine z_callS (As := [.int a, .int b, .int d, .int f]) (rest := []) B (s_X3_keyOf G l Φ sz x (ca) a b d f hx hI ) (va_cwS 4 B.1.2.2.2.2 gX11_observe_X3_keyOf rfl rfl rfl (by decide +kernel) ⟨Nat.le_of_ble_eq_true rfl, Nat.le_of_ble_eq_true rfl⟩) rfl rfl (Nat.le_of_ble_eq_true rfl) dX11_observe_5 ⟨Nat.le_of_ble_eq_true rfl, Nat.le_of_ble_eq_true rfl⟩ (fun r_1 Φ1 sz1 st1 hp1 hs1 => ?_)
  obtain ⟨⟨v_1, rfl⟩, hq1, hI1, hF1⟩ := hp1
  subst sz1
  replace hs1 : st1 = [.long v_1] := hs1
  subst st1
  replace hI1 : In G x (ca) Φ1 := hI1
  refine z_lstore (lv' := [(6, .long v_1), (0, .ref x), (1, .int a), (2, .int b), (3, .int d), (4, .int f), (5, .int g)]) B dX11_observe_8 (Nat.le_of_ble_eq_true rfl) rfl ?_
  refine z_lload B dX11_observe_10 0 rfl ?_
  refine z_iload B dX11_observe_12 6 rfl ?_
  refine z_iconst (v := 1) B dX11_observe_14 rfl ?_
  refine zb_callS (As := [.long v_1, .int g, .int 1]) (rest := []) B htab9 (s_X11_requirePackets G l hl9 Φ1 sz x (ca) v_1 g 1 hx hI1 ) (va_cwS 3 B.1.2.2.2.2 gX11_observe_X11_requirePackets rfl rfl rfl (by decide +kernel) ⟨Nat.le_of_ble_eq_true rfl, Nat.le_of_ble_eq_true rfl⟩) rfl rfl (Nat.le_of_ble_eq_true rfl) dX11_observe_15 ⟨Nat.le_of_ble_eq_true rfl, Nat.le_of_ble_eq_true rfl⟩ ⟨Nat.le_of_ble_eq_true rfl, Nat.le_of_ble_eq_true rfl⟩ (by decide) (fun Φ9 h9 => ⟨h9.1, fun b9 h8 => ((h9.2 b9 h8).trans ((fun b9 h9 => ((hF1 b9 (fun j9 h8 h7 => (show False from h7).elim)).trans rfl)) b9 h8))⟩) (fun r_2 Φ2 sz2 st2 hp2 hs2 => ?_)
  obtain ⟨rfl, hq2, hI2, hF2⟩ := hp2
  subst sz2
  replace hs2 : st2 = [] := hs2
  subst st2
  replace hI2 : In G x (ca) Φ2 := hI2
  refine z_aload_n B dX11_observe_18 rfl 1 rfl ?_
  have h_1 := in0 (k := 0) hI2 rfl
  have h_2 : Φ2 x = some (o_ 13 [.ref (x + 1), .ref (x + 3), .ref (x + 24), .ref (x + 46), .ref (x + 74), .ref (x + 80), .ref (x + 132), .ref (x + 121)]) := h_1
  refine z_get (ref := "FlowExporter") (C := RX11) (T := TX11) (N := 8) (ci := 13) (v := .ref (x + 80)) B hu_X11_observe_X11 rfl 5 (Nat.le_of_ble_eq_true rfl) hv_X11_observe_55 rfl h_2 rfl dX11_observe_19 ?_
  refine z_lload B dX11_observe_22 0 rfl ?_
  refine z_iload B dX11_observe_24 6 rfl ?_
  refine z_iconst (v := 1) B dX11_observe_26 rfl ?_
  obtain ⟨v_2, v_3, v_4, v_5, v_6, v_7, v_8, v_9, v_10, h_3, b_1⟩ := in16 (k := 80) hI2 rfl
  have h_4 : Φ2 (x + 80) = some (o_ 4 [.ref (x + 3), .ref (x + 74), .ref (x + 81), .ref (x + 95), .int v_2, .int v_3, .int v_4, .int v_5, .int v_6, .int v_7, .long v_8, .long v_9, .long v_10]) := h_3
  refine z_callV (As := [.long v_1, .int g, .int 1]) (rest := []) B (s_X2_takePackets G l Φ2 sz x (ca) v_1 g 1 hx hI2 (show 1 ≤ 200 by omega)) (cwV 3 B.1.2.2.2.2 gX11_observe_X2_takePackets rfl rfl rfl (by decide +kernel) ⟨Nat.le_of_ble_eq_true rfl, Nat.le_of_ble_eq_true rfl⟩) h_4 rfl rfl rfl rfl (Nat.le_of_ble_eq_true rfl) dX11_observe_27 ⟨Nat.le_of_ble_eq_true rfl, Nat.le_of_ble_eq_true rfl⟩ (fun r_3 Φ3 sz3 st3 hp3 hs3 => ?_)
  obtain ⟨⟨v_11, rfl⟩, hq3, hI3, hF3⟩ := hp3
  subst sz3
  replace hs3 : st3 = [.int v_11] := hs3
  subst st3
  replace hI3 : In G x (ca) Φ3 := hI3
  refine z_iconst (v := 1) B dX11_observe_30 rfl ?_
  refine z_icmp_ne (tgt := 38) B dX11_observe_31 rfl (fun c_1 => ?_) (fun c_1 => ?_)
  · refine z_iconst (v := 0) B dX11_observe_38 rfl ?_
    exact zb_ret (Nat.le_of_ble_eq_true rfl) (Nat.le_of_ble_eq_true rfl) (z_ret_z B dX11_observe_39 (by decide) ⟨⟨_, rfl, by decide⟩, rfl, hI3, (fun b9 h9 => ((hF3 b9 (fun j9 h8 h7 => h9 j9 h8 (fq_695 j9 h7))).trans ((hF2 b9 (fun j9 h8 h7 => (show False from h7).elim)).trans ((hF1 b9 (fun j9 h8 h7 => (show False from h7).elim)).trans rfl))))⟩)
  · refine z_iconst (v := 1) B dX11_observe_34 rfl ?_
    refine z_goto (tgt := 39) B dX11_observe_35 rfl ?_
    exact zb_ret (Nat.le_of_ble_eq_true rfl) (Nat.le_of_ble_eq_true rfl) (z_ret_z B dX11_observe_39 (by decide) ⟨⟨_, rfl, by decide⟩, rfl, hI3, (fun b9 h9 => ((hF3 b9 (fun j9 h8 h7 => h9 j9 h8 (fq_695 j9 h7))).trans ((hF2 b9 (fun j9 h8 h7 => (show False from h7).elim)).trans ((hF1 b9 (fun j9 h8 h7 => (show False from h7).elim)).trans rfl))))⟩)

set_option maxHeartbeats 4000000 in
set_option maxRecDepth 100000 in
theorem s_X11_requireWhat2 (G : EnvG) (l : Launch) (hl9 : l.stackTraces = false) (Φ : Hm) (sz x ca : Nat) (a : Int32) (hx : G.2.2.2 ≤ x) (hI : In G x ca Φ)  : CtB G l yX11_requireWhat wsX11_requireWhat ({ frames := 6, cells := 1, slots := 6, locals := 81 }) 1 6 [.int a] Φ sz (fun v Φ1 sz1 => (v = none ∧ ∃ n9 : Nat, n9 < 2 ∧ a = nI n9) ∧ sz1 = sz ∧ In G x (ca) Φ1 ∧ Fr x (fun j9 => False) Φ Φ1) (fun Φ1 => In G x ca Φ1 ∧ Fr x (fun j9 => False) Φ Φ1) [xIA] := by
  refine CtB.of (cc := cX11_requireWhat) (maxL := 1) (ret := none) (by decide) rfl (Nat.le_of_ble_eq_true rfl) ?_
  intro p9 e9 s9 m9 w9 t9 k9 B htab9
  show Z p9 l e9 _ s9 m9 _ w9 t9 k9 _ G 1 0 [(0, .int a)] [] Φ sz 0 0
  refine z_iload_n B dX11_requireWhat_0 rfl 0 rfl ?_
  refine z_if_eq (tgt := 17) B dX11_requireWhat_1 rfl (fun c_1 => ?_) (fun c_1 => ?_)
  · exact zb_ret (Nat.le_of_ble_eq_true rfl) (Nat.le_of_ble_eq_true rfl) (z_ret_v B dX11_requireWhat_17 ⟨⟨rfl, 0, by decide, c_1⟩, rfl, hI, (fun b9 h9 => rfl)⟩)
  · refine z_iload_n B dX11_requireWhat_4 rfl 0 rfl ?_
    refine z_iconst (v := 1) B dX11_requireWhat_5 rfl ?_
    refine z_icmp_eq (tgt := 17) B dX11_requireWhat_6 rfl (fun c_2 => ?_) (fun c_2 => ?_)
    · exact zb_ret (Nat.le_of_ble_eq_true rfl) (Nat.le_of_ble_eq_true rfl) (z_ret_v B dX11_requireWhat_17 ⟨⟨rfl, 1, by decide, c_2⟩, rfl, hI, (fun b9 h9 => rfl)⟩)
    · exact zb_throw (cls := xIA) (ik := 116) (ic := 118) B hl9 htab9 (by decide) ⟨hI, (fun b9 h9 => rfl)⟩ (by decide) (by decide +kernel) (by decide +kernel) (by decide +kernel) (by decide +kernel) (by decide +kernel) (by decide +kernel) (by decide +kernel) dX11_requireWhat_9 dX11_requireWhat_12 dX11_requireWhat_13 dX11_requireWhat_16 ⟨Nat.le_of_ble_eq_true rfl, Nat.le_of_ble_eq_true rfl, Nat.le_of_ble_eq_true rfl, Nat.le_of_ble_eq_true rfl⟩ ⟨Nat.le_of_ble_eq_true rfl, Nat.le_of_ble_eq_true rfl⟩

set_option maxHeartbeats 4000000 in
set_option maxRecDepth 100000 in
theorem s_X11_requireKey2 (G : EnvG) (l : Launch) (hl9 : l.stackTraces = false) (Φ : Hm) (sz x ca : Nat) (a : Int32) (hx : G.2.2.2 ≤ x) (hI : In G x ca Φ)  : CtB G l yX11_requireKey wsX11_requireKey ({ frames := 6, cells := 1, slots := 6, locals := 81 }) 1 6 [.ref x, .int a] Φ sz (fun v Φ1 sz1 => (v = none ∧ ∃ n9 : Nat, n9 < 24 ∧ a = nI n9) ∧ sz1 = sz ∧ In G x (ca) Φ1 ∧ Fr x (fun j9 => False) Φ Φ1) (fun Φ1 => In G x ca Φ1 ∧ Fr x (fun j9 => False) Φ Φ1) [xIO] := by
  refine CtB.of (cc := cX11_requireKey) (maxL := 2) (ret := none) (by decide) rfl (Nat.le_of_ble_eq_true rfl) ?_
  intro p9 e9 s9 m9 w9 t9 k9 B htab9
  show Z p9 l e9 _ s9 m9 _ w9 t9 k9 _ G 2 0 [(0, .ref x), (1, .int a)] [] Φ sz 0 0
  refine z_iload_n B dX11_requireKey_0 rfl 1 rfl ?_
  refine z_if_lt (tgt := 15) B dX11_requireKey_1 rfl (fun c_1 => ?_) (fun c_1 => ?_)
  · exact zb_throw (cls := xIO) (ik := 153) (ic := 155) B hl9 htab9 (by decide) ⟨hI, (fun b9 h9 => rfl)⟩ (by decide) (by decide +kernel) (by decide +kernel) (by decide +kernel) (by decide +kernel) (by decide +kernel) (by decide +kernel) (by decide +kernel) dX11_requireKey_15 dX11_requireKey_18 dX11_requireKey_19 dX11_requireKey_22 ⟨Nat.le_of_ble_eq_true rfl, Nat.le_of_ble_eq_true rfl, Nat.le_of_ble_eq_true rfl, Nat.le_of_ble_eq_true rfl⟩ ⟨Nat.le_of_ble_eq_true rfl, Nat.le_of_ble_eq_true rfl⟩
  · obtain ⟨n_1, e_1, rfl⟩ := nI_of c_1
    refine z_iload_n B dX11_requireKey_4 rfl 1 rfl ?_
    refine z_aload_n B dX11_requireKey_5 rfl 0 rfl ?_
    have h_1 := in0 (k := 0) hI rfl
    have h_2 : Φ x = some (o_ 13 [.ref (x + 1), .ref (x + 3), .ref (x + 24), .ref (x + 46), .ref (x + 74), .ref (x + 80), .ref (x + 132), .ref (x + 121)]) := h_1
    refine z_get (ref := "FlowExporter") (C := RX11) (T := TX11) (N := 8) (ci := 13) (v := .ref (x + 121)) B hu_X11_requireKey_X11 rfl 7 (Nat.le_of_ble_eq_true rfl) hv_X11_requireKey_62 rfl h_2 rfl dX11_requireKey_6 ?_
    obtain ⟨n_2, h_3, b_1⟩ := in20 (k := 121) hI rfl
    have h_4 : Φ (x + 121) = some (o_ 11 [.ref (x + 122), .ref (x + 123), .ref (x + 126), .ref (x + 129), .int (nI n_2)]) := h_3
    refine z_get (ref := "FlowExporter$Sums") (C := RX9) (T := TX9) (N := 5) (ci := 11) (v := .int (nI n_2)) B hu_X11_requireKey_X9 rfl 4 (Nat.le_of_ble_eq_true rfl) hv_X11_requireKey_92 rfl h_4 rfl dX11_requireKey_9 ?_
    refine z_icmp_lt (tgt := 23) B dX11_requireKey_12 rfl (fun c_2 => ?_) (fun c_2 => ?_)
    · have e_2 : n_1 < n_2 := (nI_ltI (a := n_1) (b := n_2) (by omega) (by omega)).mp c_2
      exact zb_ret (Nat.le_of_ble_eq_true rfl) (Nat.le_of_ble_eq_true rfl) (z_ret_v B dX11_requireKey_23 ⟨⟨rfl, n_1, (show n_1 < 24 by omega), rfl⟩, rfl, hI, (fun b9 h9 => rfl)⟩)
    · have e_3 : ¬ (n_1 < n_2) := fun h9 => c_2 ((nI_ltI (a := n_1) (b := n_2) (by omega) (by omega)).mpr h9)
      exact zb_throw (cls := xIO) (ik := 153) (ic := 155) B hl9 htab9 (by decide) ⟨hI, (fun b9 h9 => rfl)⟩ (by decide) (by decide +kernel) (by decide +kernel) (by decide +kernel) (by decide +kernel) (by decide +kernel) (by decide +kernel) (by decide +kernel) dX11_requireKey_15 dX11_requireKey_18 dX11_requireKey_19 dX11_requireKey_22 ⟨Nat.le_of_ble_eq_true rfl, Nat.le_of_ble_eq_true rfl, Nat.le_of_ble_eq_true rfl, Nat.le_of_ble_eq_true rfl⟩ ⟨Nat.le_of_ble_eq_true rfl, Nat.le_of_ble_eq_true rfl⟩

set_option maxHeartbeats 4000000 in
set_option maxRecDepth 100000 in
theorem s_X11_requirePackets2 (G : EnvG) (l : Launch) (hl9 : l.stackTraces = false) (Φ : Hm) (sz x ca : Nat) (a : Int64) (b : Int32) (d : Int32) (hx : G.2.2.2 ≤ x) (hI : In G x ca Φ)  : CtB G l yX11_requirePackets wsX11_requirePackets ({ frames := 6, cells := 1, slots := 6, locals := 81 }) 1 6 [.long a, .int b, .int d] Φ sz (fun v Φ1 sz1 => (v = none ∧ ∃ n9 : Nat, n9 ≤ 200 ∧ d = nI n9) ∧ sz1 = sz ∧ In G x (ca) Φ1 ∧ Fr x (fun j9 => False) Φ Φ1) (fun Φ1 => In G x ca Φ1 ∧ Fr x (fun j9 => False) Φ Φ1) [xIA] := by
  refine CtB.of (cc := cX11_requirePackets) (maxL := 4) (ret := none) (by decide) rfl (Nat.le_of_ble_eq_true rfl) ?_
  intro p9 e9 s9 m9 w9 t9 k9 B htab9
  show Z p9 l e9 _ s9 m9 _ w9 t9 k9 _ G 4 0 [(0, .long a), (2, .int b), (3, .int d)] [] Φ sz 0 0
  refine z_lload_n B dX11_requirePackets_0 rfl 0 rfl ?_
  refine z_ldc2 (v := (-1)) B (by decide +kernel) dX11_requirePackets_1 ?_
  refine z_lcmp B dX11_requirePackets_4 ?_
  refine z_fi (fun v_1 => ?_)
  refine z_if_eq (tgt := 31) B dX11_requirePackets_5 rfl (fun c_1 => ?_) (fun c_1 => ?_)
  · exact zb_throw (cls := xIA) (ik := 116) (ic := 118) B hl9 htab9 (by decide) ⟨hI, (fun b9 h9 => rfl)⟩ (by decide) (by decide +kernel) (by decide +kernel) (by decide +kernel) (by decide +kernel) (by decide +kernel) (by decide +kernel) (by decide +kernel) dX11_requirePackets_31 dX11_requirePackets_34 dX11_requirePackets_35 dX11_requirePackets_38 ⟨Nat.le_of_ble_eq_true rfl, Nat.le_of_ble_eq_true rfl, Nat.le_of_ble_eq_true rfl, Nat.le_of_ble_eq_true rfl⟩ ⟨Nat.le_of_ble_eq_true rfl, Nat.le_of_ble_eq_true rfl⟩
  · refine z_iload_n B dX11_requirePackets_8 rfl 1 rfl ?_
    refine z_iconst (v := 1) B dX11_requirePackets_9 rfl ?_
    refine z_icmp_lt (tgt := 31) B dX11_requirePackets_10 rfl (fun c_2 => ?_) (fun c_2 => ?_)
    · exact zb_throw (cls := xIA) (ik := 116) (ic := 118) B hl9 htab9 (by decide) ⟨hI, (fun b9 h9 => rfl)⟩ (by decide) (by decide +kernel) (by decide +kernel) (by decide +kernel) (by decide +kernel) (by decide +kernel) (by decide +kernel) (by decide +kernel) dX11_requirePackets_31 dX11_requirePackets_34 dX11_requirePackets_35 dX11_requirePackets_38 ⟨Nat.le_of_ble_eq_true rfl, Nat.le_of_ble_eq_true rfl, Nat.le_of_ble_eq_true rfl, Nat.le_of_ble_eq_true rfl⟩ ⟨Nat.le_of_ble_eq_true rfl, Nat.le_of_ble_eq_true rfl⟩
    · obtain ⟨n_1, e_2, e_1, rfl⟩ := nI_ofge (c := 1) (by omega) c_2
      refine z_iload_n B dX11_requirePackets_13 rfl 1 rfl ?_
      refine z_ldc (v := 65535) B (by decide +kernel) dX11_requirePackets_14 ?_
      refine z_icmp_gt (tgt := 31) B dX11_requirePackets_16 rfl (fun c_3 => ?_) (fun c_3 => ?_)
      · have e_3 : 65535 < n_1 := (nI_ltI (a := 65535) (b := n_1) (by omega) (by omega)).mp c_3
        exact zb_throw (cls := xIA) (ik := 116) (ic := 118) B hl9 htab9 (by decide) ⟨hI, (fun b9 h9 => rfl)⟩ (by decide) (by decide +kernel) (by decide +kernel) (by decide +kernel) (by decide +kernel) (by decide +kernel) (by decide +kernel) (by decide +kernel) dX11_requirePackets_31 dX11_requirePackets_34 dX11_requirePackets_35 dX11_requirePackets_38 ⟨Nat.le_of_ble_eq_true rfl, Nat.le_of_ble_eq_true rfl, Nat.le_of_ble_eq_true rfl, Nat.le_of_ble_eq_true rfl⟩ ⟨Nat.le_of_ble_eq_true rfl, Nat.le_of_ble_eq_true rfl⟩
      · have e_4 : ¬ (65535 < n_1) := fun h9 => c_3 ((nI_ltI (a := 65535) (b := n_1) (by omega) (by omega)).mpr h9)
        refine z_iload_n B dX11_requirePackets_19 rfl 2 rfl ?_
        refine z_iconst (v := 1) B dX11_requirePackets_20 rfl ?_
        refine z_icmp_lt (tgt := 31) B dX11_requirePackets_21 rfl (fun c_4 => ?_) (fun c_4 => ?_)
        · exact zb_throw (cls := xIA) (ik := 116) (ic := 118) B hl9 htab9 (by decide) ⟨hI, (fun b9 h9 => rfl)⟩ (by decide) (by decide +kernel) (by decide +kernel) (by decide +kernel) (by decide +kernel) (by decide +kernel) (by decide +kernel) (by decide +kernel) dX11_requirePackets_31 dX11_requirePackets_34 dX11_requirePackets_35 dX11_requirePackets_38 ⟨Nat.le_of_ble_eq_true rfl, Nat.le_of_ble_eq_true rfl, Nat.le_of_ble_eq_true rfl, Nat.le_of_ble_eq_true rfl⟩ ⟨Nat.le_of_ble_eq_true rfl, Nat.le_of_ble_eq_true rfl⟩
        · obtain ⟨n_2, e_6, e_5, rfl⟩ := nI_ofge (c := 1) (by omega) c_4
          refine z_iload_n B dX11_requirePackets_24 rfl 2 rfl ?_
          refine z_sipush (v := 200) B dX11_requirePackets_25 rfl ?_
          refine z_icmp_le (tgt := 39) B dX11_requirePackets_28 rfl (fun c_5 => ?_) (fun c_5 => ?_)
          · have e_7 : n_2 ≤ 200 := (nI_leI (a := n_2) (b := 200) (by omega) (by omega)).mp c_5
            exact zb_ret (Nat.le_of_ble_eq_true rfl) (Nat.le_of_ble_eq_true rfl) (z_ret_v B dX11_requirePackets_39 ⟨⟨rfl, n_2, (show n_2 ≤ 200 by omega), rfl⟩, rfl, hI, (fun b9 h9 => rfl)⟩)
          · have e_8 : ¬ (n_2 ≤ 200) := fun h9 => c_5 ((nI_leI (a := n_2) (b := 200) (by omega) (by omega)).mpr h9)
            exact zb_throw (cls := xIA) (ik := 116) (ic := 118) B hl9 htab9 (by decide) ⟨hI, (fun b9 h9 => rfl)⟩ (by decide) (by decide +kernel) (by decide +kernel) (by decide +kernel) (by decide +kernel) (by decide +kernel) (by decide +kernel) (by decide +kernel) dX11_requirePackets_31 dX11_requirePackets_34 dX11_requirePackets_35 dX11_requirePackets_38 ⟨Nat.le_of_ble_eq_true rfl, Nat.le_of_ble_eq_true rfl, Nat.le_of_ble_eq_true rfl, Nat.le_of_ble_eq_true rfl⟩ ⟨Nat.le_of_ble_eq_true rfl, Nat.le_of_ble_eq_true rfl⟩

theorem hu_X11_lossRate_X11 : ∀ w ∈ u_ws RX11 TX11 8, w ∈ wsX11_lossRate := fun _ h => List.mem_cons_of_mem _ (List.mem_append_left _ (List.mem_append_left _ (List.mem_append_left _ (List.mem_append_right _ (h)))))

theorem hv_X11_lossRate_71 : Cond.fieldLink RX11 71 "FlowExporter" (TX11 6).2.1 (TX11 6).2.2.1 ∈ wsX11_lossRate := List.mem_cons_of_mem _ (List.mem_append_left _ (List.mem_append_left _ (List.mem_append_left _ (List.mem_append_left _ (List.mem_of_getElem? (i := 2) rfl)))))

theorem hu_X11_lossRate_X0 : ∀ w ∈ u_ws RX0 TX0 12, w ∈ wsX11_lossRate := fun _ h => List.mem_cons_of_mem _ (List.mem_append_left _ (List.mem_append_left _ (List.mem_append_right _ (h))))

theorem hv_X11_lossRate_289 : Cond.fieldLink RX11 289 "FlowExporter$Collector" (TX0 7).2.1 (TX0 7).2.2.1 ∈ wsX11_lossRate := List.mem_cons_of_mem _ (List.mem_append_left _ (List.mem_append_left _ (List.mem_append_left _ (List.mem_append_left _ (List.mem_of_getElem? (i := 3) rfl)))))

set_option maxHeartbeats 4000000 in
set_option maxRecDepth 100000 in
theorem s_X11_lossRate (G : EnvG) (l : Launch) (hl9 : l.stackTraces = false) (Φ : Hm) (sz x ca : Nat)  (hx : G.2.2.2 ≤ x) (hI : In G x ca Φ)  : CtB G l yX11_lossRate wsX11_lossRate ({ frames := 6, cells := 1, slots := 6, locals := 81 }) 1 6 [.ref x] Φ sz (fun v Φ1 sz1 => (∃ r9 : UInt64, v = some (.double r9) ∧ nn64 r9) ∧ sz1 = sz ∧ In G x (ca) Φ1 ∧ Fr x (fun j9 => (3 ≤ j9 ∧ j9 < 24) ∨ (46 ≤ j9 ∧ j9 < 149)) Φ Φ1) (fun Φ1 => In G x ca Φ1 ∧ Fr x (fun j9 => False) Φ Φ1) [xAE] := by
  refine CtB.of (cc := cX11_lossRate) (maxL := 5) (ret := (some .double)) (by decide) rfl (Nat.le_of_ble_eq_true rfl) ?_
  intro p9 e9 s9 m9 w9 t9 k9 B htab9
  show Z p9 l e9 _ s9 m9 _ w9 t9 k9 _ G 5 0 [(0, .ref x)] [] Φ sz 0 0
  refine z_aload_n B dX11_lossRate_0 rfl 0 rfl ?_
  have h_1 := in0 (k := 0) hI rfl
  have h_2 : Φ x = some (o_ 13 [.ref (x + 1), .ref (x + 3), .ref (x + 24), .ref (x + 46), .ref (x + 74), .ref (x + 80), .ref (x + 132), .ref (x + 121)]) := h_1
  refine z_get (ref := "FlowExporter") (C := RX11) (T := TX11) (N := 8) (ci := 13) (v := .ref (x + 132)) B hu_X11_lossRate_X11 rfl 6 (Nat.le_of_ble_eq_true rfl) hv_X11_lossRate_71 rfl h_2 rfl dX11_lossRate_1 ?_
  obtain ⟨n_1, v_1, v_2, h_3, b_1⟩ := in25 (k := 132) hI rfl
  have h_4 : Φ (x + 132) = some (o_ 2 [.ref (x + 3), .ref (x + 121), .ref (x + 133), .ref (x + 134), .ref (x + 135), .ref (x + 137), .ref (x + 138), .ref (x + 139), .ref (x + 140), .int (nI n_1), .int v_1, .int v_2]) := h_3
  refine z_get (ref := "FlowExporter$Collector") (C := RX0) (T := TX0) (N := 12) (ci := 2) (v := .ref (x + 139)) B hu_X11_lossRate_X0 rfl 7 (Nat.le_of_ble_eq_true rfl) hv_X11_lossRate_289 rfl h_4 rfl dX11_lossRate_4 ?_
  refine z_iconst (v := 0) B dX11_lossRate_7 rfl ?_
  obtain ⟨f_1, h_5⟩ := in28 (k := 139) hI rfl
  have h_6 : Φ (x + 139) = some (al_ G 9 f_1) := h_5
  refine z_lald B h_6 (vin rfl) dX11_lossRate_8 ?_
  refine z_fl (fun v_3 => ?_)
  refine z_lstore_n (lv' := [(1, .long v_3), (0, .ref x)]) B dX11_lossRate_9 rfl (Nat.le_of_ble_eq_true rfl) rfl ?_
  refine z_lload_n B dX11_lossRate_10 rfl 0 rfl ?_
  refine z_aload_n B dX11_lossRate_11 rfl 1 rfl ?_
  refine z_get (ref := "FlowExporter") (C := RX11) (T := TX11) (N := 8) (ci := 13) (v := .ref (x + 132)) B hu_X11_lossRate_X11 rfl 6 (Nat.le_of_ble_eq_true rfl) hv_X11_lossRate_71 rfl h_2 rfl dX11_lossRate_12 ?_
  refine z_get (ref := "FlowExporter$Collector") (C := RX0) (T := TX0) (N := 12) (ci := 2) (v := .ref (x + 139)) B hu_X11_lossRate_X0 rfl 7 (Nat.le_of_ble_eq_true rfl) hv_X11_lossRate_289 rfl h_4 rfl dX11_lossRate_15 ?_
  refine z_bipush (v := 7) B dX11_lossRate_18 rfl ?_
  refine z_lald B h_6 (vin rfl) dX11_lossRate_20 ?_
  refine z_fl (fun v_4 => ?_)
  refine z_ladd B dX11_lossRate_21 ?_
  refine z_fl (fun v_5 => ?_)
  refine z_lstore_n (lv' := [(3, .long v_5), (1, .long v_3), (0, .ref x)]) B dX11_lossRate_22 rfl (Nat.le_of_ble_eq_true rfl) rfl ?_
  refine z_lload_n B dX11_lossRate_23 rfl 0 rfl ?_
  refine z_lconst (v := 0) B dX11_lossRate_24 rfl ?_
  refine z_lcmp B dX11_lossRate_25 ?_
  refine z_if_ne (tgt := 37) B dX11_lossRate_26 rfl (fun c_1 => ?_) (fun c_1 => ?_)
  · refine z_lload_n B dX11_lossRate_37 rfl 1 rfl ?_
    refine z_l2d B dX11_lossRate_38 ?_
    refine z_fdq (P := fun u9 : UInt64 => sm64 12 u9) (l2d_sm v_3) (fun v_6 q_2 => ?_)
    replace q_2 : sm64 12 v_6 := q_2
    refine z_lload_n B dX11_lossRate_39 rfl 0 rfl ?_
    refine z_l2d B dX11_lossRate_40 ?_
    have q_4 : nn64 (FP.ddiv v_6 (FP.l2d v_5)) := (div_nnw (sm_nn q_2) (l2d_w (fun h8 => c_1 ((lg_cmp_eq _ _).mpr h8))))
    refine z_ddiv B dX11_lossRate_41 (vf_of q_4) ?_
    refine z_fdq (P := fun u9 : UInt64 => nn64 u9) q_4 (fun v_7 q_6 => ?_)
    replace q_6 : nn64 v_7 := q_6
    exact zb_ret (Nat.le_of_ble_eq_true rfl) (Nat.le_of_ble_eq_true rfl) (z_ret_d B dX11_lossRate_42 ⟨⟨_, rfl, q_6⟩, rfl, hI, (fun b9 h9 => rfl)⟩)
  · exact zb_throw (cls := xAE) (ik := 293) (ic := 295) B hl9 htab9 (by decide) ⟨hI, (fun b9 h9 => rfl)⟩ (by decide) (by decide +kernel) (by decide +kernel) (by decide +kernel) (by decide +kernel) (by decide +kernel) (by decide +kernel) (by decide +kernel) dX11_lossRate_29 dX11_lossRate_32 dX11_lossRate_33 dX11_lossRate_36 ⟨Nat.le_of_ble_eq_true rfl, Nat.le_of_ble_eq_true rfl, Nat.le_of_ble_eq_true rfl, Nat.le_of_ble_eq_true rfl⟩ ⟨Nat.le_of_ble_eq_true rfl, Nat.le_of_ble_eq_true rfl⟩

theorem hu_X11_key_X11 : ∀ w ∈ u_ws RX11 TX11 8, w ∈ wsX11_key := fun _ h => List.mem_cons_of_mem _ (List.mem_append_left _ (List.mem_append_left _ (List.mem_append_left _ (List.mem_append_left _ (List.mem_append_right _ (h))))))

theorem hv_X11_key_62 : Cond.fieldLink RX11 62 "FlowExporter" (TX11 7).2.1 (TX11 7).2.2.1 ∈ wsX11_key := List.mem_cons_of_mem _ (List.mem_append_left _ (List.mem_append_left _ (List.mem_append_left _ (List.mem_append_left _ (List.mem_append_left _ (List.mem_of_getElem? (i := 2) rfl))))))

theorem hu_X11_key_X9 : ∀ w ∈ u_ws RX9 TX9 5, w ∈ wsX11_key := fun _ h => List.mem_cons_of_mem _ (List.mem_append_left _ (List.mem_append_left _ (List.mem_append_left _ (List.mem_append_right _ (h)))))

theorem hv_X11_key_301 : Cond.fieldLink RX11 301 "FlowExporter$Sums" (TX9 0).2.1 (TX9 0).2.2.1 ∈ wsX11_key := List.mem_cons_of_mem _ (List.mem_append_left _ (List.mem_append_left _ (List.mem_append_left _ (List.mem_append_left _ (List.mem_append_left _ (List.mem_of_getElem? (i := 3) rfl))))))

set_option maxHeartbeats 4000000 in
set_option maxRecDepth 100000 in
theorem s_X11_key (G : EnvG) (l : Launch) (hl9 : l.stackTraces = false) (Φ : Hm) (sz x ca : Nat) (a : Int32) (b : Int32) (hx : G.2.2.2 ≤ x) (hI : In G x ca Φ)  : CtB G l yX11_key wsX11_key ({ frames := 7, cells := 2, slots := 12, locals := 102 }) 2 12 [.ref x, .int a, .int b] Φ sz (fun v Φ1 sz1 => (∃ r9 : Int32, v = some (.int r9)) ∧ sz1 = sz ∧ In G x (ca) Φ1 ∧ Fr x (fun j9 => (3 ≤ j9 ∧ j9 < 24) ∨ (46 ≤ j9 ∧ j9 < 149)) Φ Φ1) (fun Φ1 => In G x ca Φ1 ∧ Fr x (fun j9 => False) Φ Φ1) [xIO, xIA] := by
  refine CtB.of (cc := cX11_key) (maxL := 3) (ret := (some .int)) (by decide) rfl (Nat.le_of_ble_eq_true rfl) ?_
  intro p9 e9 s9 m9 w9 t9 k9 B htab9
  show Z p9 l e9 _ s9 m9 _ w9 t9 k9 _ G 3 0 [(0, .ref x), (1, .int a), (2, .int b)] [] Φ sz 0 0
  refine z_aload_n B dX11_key_0 rfl 0 rfl ?_
  refine z_iload_n B dX11_key_1 rfl 1 rfl ?_
  have h_1 := in0 (k := 0) hI rfl
  have h_2 : Φ x = some (o_ 13 [.ref (x + 1), .ref (x + 3), .ref (x + 24), .ref (x + 46), .ref (x + 74), .ref (x + 80), .ref (x + 132), .ref (x + 121)]) := h_1
  refine zb_callV (As := [.int a]) (rest := []) B htab9 (s_X11_requireKey2 G l hl9 Φ sz x (ca) a hx hI ) (cwV 1 B.1.2.2.2.2 gX11_key_X11_requireKey rfl rfl rfl (by decide +kernel) ⟨Nat.le_of_ble_eq_true rfl, Nat.le_of_ble_eq_true rfl⟩) h_2 rfl rfl rfl rfl (Nat.le_of_ble_eq_true rfl) dX11_key_2 ⟨Nat.le_of_ble_eq_true rfl, Nat.le_of_ble_eq_true rfl⟩ ⟨Nat.le_of_ble_eq_true rfl, Nat.le_of_ble_eq_true rfl⟩ (by decide) (fun Φ9 h9 => ⟨h9.1, fun b9 h8 => ((h9.2 b9 h8).trans ((fun b9 h9 => rfl) b9 h8))⟩) (fun r_1 Φ1 sz1 st1 hp1 hs1 => ?_)
  obtain ⟨⟨rfl, n_1, b_1, rfl⟩, hq1, hI1, hF1⟩ := hp1
  subst sz1
  replace hs1 : st1 = [] := hs1
  subst st1
  replace hI1 : In G x (ca) Φ1 := hI1
  replace b_1 : n_1 < 24 := b_1
  refine z_iload_n B dX11_key_5 rfl 2 rfl ?_
  refine z_if_lt (tgt := 14) B dX11_key_6 rfl (fun c_1 => ?_) (fun c_1 => ?_)
  · exact zb_throw (cls := xIA) (ik := 116) (ic := 118) B hl9 htab9 (by decide) ⟨hI1, (fun b9 h9 => ((hF1 b9 (fun j9 h8 h7 => (show False from h7).elim)).trans rfl))⟩ (by decide) (by decide +kernel) (by decide +kernel) (by decide +kernel) (by decide +kernel) (by decide +kernel) (by decide +kernel) (by decide +kernel) dX11_key_14 dX11_key_17 dX11_key_18 dX11_key_21 ⟨Nat.le_of_ble_eq_true rfl, Nat.le_of_ble_eq_true rfl, Nat.le_of_ble_eq_true rfl, Nat.le_of_ble_eq_true rfl⟩ ⟨Nat.le_of_ble_eq_true rfl, Nat.le_of_ble_eq_true rfl⟩
  · obtain ⟨n_2, e_1, rfl⟩ := nI_of c_1
    refine z_iload_n B dX11_key_9 rfl 2 rfl ?_
    refine z_iconst (v := 3) B dX11_key_10 rfl ?_
    refine z_icmp_le (tgt := 22) B dX11_key_11 rfl (fun c_2 => ?_) (fun c_2 => ?_)
    · have e_2 : n_2 ≤ 3 := (nI_leI (a := n_2) (b := 3) (by omega) (by omega)).mp c_2
      refine z_aload_n B dX11_key_22 rfl 0 rfl ?_
      have h_3 : Φ1 x = some (o_ 13 [.ref (x + 1), .ref (x + 3), .ref (x + 24), .ref (x + 46), .ref (x + 74), .ref (x + 80), .ref (x + 132), .ref (x + 121)]) := ((hF1 x (fun j9 h8 h7 => (show False from h7).elim)).trans h_2)
      refine z_get (ref := "FlowExporter") (C := RX11) (T := TX11) (N := 8) (ci := 13) (v := .ref (x + 121)) B hu_X11_key_X11 rfl 7 (Nat.le_of_ble_eq_true rfl) hv_X11_key_62 rfl h_3 rfl dX11_key_23 ?_
      obtain ⟨n_3, h_4, b_2⟩ := in20 (k := 121) hI1 rfl
      have h_5 : Φ1 (x + 121) = some (o_ 11 [.ref (x + 122), .ref (x + 123), .ref (x + 126), .ref (x + 129), .int (nI n_3)]) := h_4
      refine z_get (ref := "FlowExporter$Sums") (C := RX9) (T := TX9) (N := 5) (ci := 11) (v := .ref (x + 122)) B hu_X11_key_X9 rfl 0 (Nat.le_of_ble_eq_true rfl) hv_X11_key_301 rfl h_5 rfl dX11_key_26 ?_
      refine z_iload_n B dX11_key_29 rfl 1 rfl ?_
      obtain ⟨f_1, h_6⟩ := in21 (k := 122) hI1 rfl
      have h_7 : Φ1 (x + 122) = some (al_ G 24 f_1) := h_6
      refine z_lald B h_7 (vp_in_nI (by omega) (by omega)) dX11_key_30 ?_
      refine z_fl (fun v_1 => ?_)
      refine z_iload_n B dX11_key_31 rfl 2 rfl ?_
      refine z_callS (As := [.long v_1, .int (nI n_2)]) (rest := []) B (s_X3_partOf G l Φ1 sz x (ca) v_1 (nI n_2) hx hI1 ) (va_cwS 2 B.1.2.2.2.2 gX11_key_X3_partOf rfl rfl rfl (by decide +kernel) ⟨Nat.le_of_ble_eq_true rfl, Nat.le_of_ble_eq_true rfl⟩) rfl rfl (Nat.le_of_ble_eq_true rfl) dX11_key_32 ⟨Nat.le_of_ble_eq_true rfl, Nat.le_of_ble_eq_true rfl⟩ (fun r_2 Φ2 sz2 st2 hp2 hs2 => ?_)
      obtain ⟨⟨v_2, rfl⟩, hq2, hI2, hF2⟩ := hp2
      subst sz2
      replace hs2 : st2 = [.int v_2] := hs2
      subst st2
      replace hI2 : In G x (ca) Φ2 := hI2
      exact zb_ret (Nat.le_of_ble_eq_true rfl) (Nat.le_of_ble_eq_true rfl) (z_ret_i B dX11_key_35 ⟨⟨_, rfl⟩, rfl, hI2, (fun b9 h9 => ((hF2 b9 (fun j9 h8 h7 => (show False from h7).elim)).trans ((hF1 b9 (fun j9 h8 h7 => (show False from h7).elim)).trans rfl)))⟩)
    · have e_3 : ¬ (n_2 ≤ 3) := fun h9 => c_2 ((nI_leI (a := n_2) (b := 3) (by omega) (by omega)).mpr h9)
      exact zb_throw (cls := xIA) (ik := 116) (ic := 118) B hl9 htab9 (by decide) ⟨hI1, (fun b9 h9 => ((hF1 b9 (fun j9 h8 h7 => (show False from h7).elim)).trans rfl))⟩ (by decide) (by decide +kernel) (by decide +kernel) (by decide +kernel) (by decide +kernel) (by decide +kernel) (by decide +kernel) (by decide +kernel) dX11_key_14 dX11_key_17 dX11_key_18 dX11_key_21 ⟨Nat.le_of_ble_eq_true rfl, Nat.le_of_ble_eq_true rfl, Nat.le_of_ble_eq_true rfl, Nat.le_of_ble_eq_true rfl⟩ ⟨Nat.le_of_ble_eq_true rfl, Nat.le_of_ble_eq_true rfl⟩

theorem hu_X11_raw_X11 : ∀ w ∈ u_ws RX11 TX11 8, w ∈ wsX11_raw := fun _ h => List.mem_cons_of_mem _ (List.mem_append_left _ (List.mem_append_left _ (List.mem_append_left _ (List.mem_append_left _ (List.mem_append_right _ (h))))))

theorem hv_X11_raw_62 : Cond.fieldLink RX11 62 "FlowExporter" (TX11 7).2.1 (TX11 7).2.2.1 ∈ wsX11_raw := List.mem_cons_of_mem _ (List.mem_append_left _ (List.mem_append_left _ (List.mem_append_left _ (List.mem_append_left _ (List.mem_append_left _ (List.mem_of_getElem? (i := 0) rfl))))))

theorem hu_X11_raw_X9 : ∀ w ∈ u_ws RX9 TX9 5, w ∈ wsX11_raw := fun _ h => List.mem_cons_of_mem _ (List.mem_append_left _ (List.mem_append_left _ (List.mem_append_left _ (List.mem_append_right _ (h)))))

theorem hv_X11_raw_315 : Cond.fieldLink RX11 315 "FlowExporter$Sums" (TX9 1).2.1 (TX9 1).2.2.1 ∈ wsX11_raw := List.mem_cons_of_mem _ (List.mem_append_left _ (List.mem_append_left _ (List.mem_append_left _ (List.mem_append_left _ (List.mem_append_left _ (List.mem_of_getElem? (i := 1) rfl))))))

set_option maxHeartbeats 4000000 in
set_option maxRecDepth 100000 in
theorem s_X11_raw (G : EnvG) (l : Launch) (hl9 : l.stackTraces = false) (Φ : Hm) (sz x ca : Nat) (a : Int32) (b : Int32) (hx : G.2.2.2 ≤ x) (hI : In G x ca Φ)  : CtB G l yX11_raw wsX11_raw ({ frames := 7, cells := 2, slots := 12, locals := 102 }) 2 12 [.ref x, .int a, .int b] Φ sz (fun v Φ1 sz1 => (∃ r9 : Int64, v = some (.long r9)) ∧ sz1 = sz ∧ In G x (ca) Φ1 ∧ Fr x (fun j9 => (3 ≤ j9 ∧ j9 < 24) ∨ (46 ≤ j9 ∧ j9 < 149)) Φ Φ1) (fun Φ1 => In G x ca Φ1 ∧ Fr x (fun j9 => False) Φ Φ1) [xIO, xIA] := by
  refine CtB.of (cc := cX11_raw) (maxL := 3) (ret := (some .long)) (by decide) rfl (Nat.le_of_ble_eq_true rfl) ?_
  intro p9 e9 s9 m9 w9 t9 k9 B htab9
  show Z p9 l e9 _ s9 m9 _ w9 t9 k9 _ G 3 0 [(0, .ref x), (1, .int a), (2, .int b)] [] Φ sz 0 0
  refine z_aload_n B dX11_raw_0 rfl 0 rfl ?_
  refine z_iload_n B dX11_raw_1 rfl 1 rfl ?_
  have h_1 := in0 (k := 0) hI rfl
  have h_2 : Φ x = some (o_ 13 [.ref (x + 1), .ref (x + 3), .ref (x + 24), .ref (x + 46), .ref (x + 74), .ref (x + 80), .ref (x + 132), .ref (x + 121)]) := h_1
  refine zb_callV (As := [.int a]) (rest := []) B htab9 (s_X11_requireKey2 G l hl9 Φ sz x (ca) a hx hI ) (cwV 1 B.1.2.2.2.2 gX11_raw_X11_requireKey rfl rfl rfl (by decide +kernel) ⟨Nat.le_of_ble_eq_true rfl, Nat.le_of_ble_eq_true rfl⟩) h_2 rfl rfl rfl rfl (Nat.le_of_ble_eq_true rfl) dX11_raw_2 ⟨Nat.le_of_ble_eq_true rfl, Nat.le_of_ble_eq_true rfl⟩ ⟨Nat.le_of_ble_eq_true rfl, Nat.le_of_ble_eq_true rfl⟩ (by decide) (fun Φ9 h9 => ⟨h9.1, fun b9 h8 => ((h9.2 b9 h8).trans ((fun b9 h9 => rfl) b9 h8))⟩) (fun r_1 Φ1 sz1 st1 hp1 hs1 => ?_)
  obtain ⟨⟨rfl, n_1, b_1, rfl⟩, hq1, hI1, hF1⟩ := hp1
  subst sz1
  replace hs1 : st1 = [] := hs1
  subst st1
  replace hI1 : In G x (ca) Φ1 := hI1
  replace b_1 : n_1 < 24 := b_1
  refine z_iload_n B dX11_raw_5 rfl 2 rfl ?_
  refine zb_callS (As := [.int b]) (rest := []) B htab9 (s_X11_requireWhat2 G l hl9 Φ1 sz x (ca) b hx hI1 ) (va_cwS 1 B.1.2.2.2.2 gX11_raw_X11_requireWhat rfl rfl rfl (by decide +kernel) ⟨Nat.le_of_ble_eq_true rfl, Nat.le_of_ble_eq_true rfl⟩) rfl rfl (Nat.le_of_ble_eq_true rfl) dX11_raw_6 ⟨Nat.le_of_ble_eq_true rfl, Nat.le_of_ble_eq_true rfl⟩ ⟨Nat.le_of_ble_eq_true rfl, Nat.le_of_ble_eq_true rfl⟩ (by decide) (fun Φ9 h9 => ⟨h9.1, fun b9 h8 => ((h9.2 b9 h8).trans ((fun b9 h9 => ((hF1 b9 (fun j9 h8 h7 => (show False from h7).elim)).trans rfl)) b9 h8))⟩) (fun r_2 Φ2 sz2 st2 hp2 hs2 => ?_)
  obtain ⟨⟨rfl, n_2, b_2, rfl⟩, hq2, hI2, hF2⟩ := hp2
  subst sz2
  replace hs2 : st2 = [] := hs2
  subst st2
  replace hI2 : In G x (ca) Φ2 := hI2
  replace b_2 : n_2 < 2 := b_2
  refine z_aload_n B dX11_raw_9 rfl 0 rfl ?_
  have h_3 : Φ2 x = some (o_ 13 [.ref (x + 1), .ref (x + 3), .ref (x + 24), .ref (x + 46), .ref (x + 74), .ref (x + 80), .ref (x + 132), .ref (x + 121)]) := ((hF2 x (fun j9 h8 h7 => (show False from h7).elim)).trans ((hF1 x (fun j9 h8 h7 => (show False from h7).elim)).trans h_2))
  refine z_get (ref := "FlowExporter") (C := RX11) (T := TX11) (N := 8) (ci := 13) (v := .ref (x + 121)) B hu_X11_raw_X11 rfl 7 (Nat.le_of_ble_eq_true rfl) hv_X11_raw_62 rfl h_3 rfl dX11_raw_10 ?_
  obtain ⟨n_3, h_4, b_3⟩ := in20 (k := 121) hI2 rfl
  have h_5 : Φ2 (x + 121) = some (o_ 11 [.ref (x + 122), .ref (x + 123), .ref (x + 126), .ref (x + 129), .int (nI n_3)]) := h_4
  refine z_get (ref := "FlowExporter$Sums") (C := RX9) (T := TX9) (N := 5) (ci := 11) (v := .ref (x + 123)) B hu_X11_raw_X9 rfl 1 (Nat.le_of_ble_eq_true rfl) hv_X11_raw_315 rfl h_5 rfl dX11_raw_13 ?_
  refine z_iload_n B dX11_raw_16 rfl 2 rfl ?_
  obtain ⟨f_1, h_6, r_3⟩ := in22 (k := 123) hI2 rfl
  have h_7 : Φ2 (x + 123) = some (aq_ G 7 2 f_1) := h_6
  refine z_aaldA (b := x + (123 + 1 + n_2)) B rfl h_7 (vp_in_nI (by omega) (by omega)) ((congrArg f_1 (nI_clamp (by omega))).trans (r_3 n_2 (by omega))) dX11_raw_17 ?_
  refine z_iload_n B dX11_raw_18 rfl 1 rfl ?_
  obtain ⟨f_2, h_8⟩ := in21 (k := 123 + 1 + n_2) hI2 (kd_2a (by omega))
  have h_9 : Φ2 (x + (123 + 1 + n_2)) = some (al_ G 24 f_2) := h_8
  refine z_lald B h_9 (vp_in_nI (by omega) (by omega)) dX11_raw_19 ?_
  refine z_fl (fun v_1 => ?_)
  exact zb_ret (Nat.le_of_ble_eq_true rfl) (Nat.le_of_ble_eq_true rfl) (z_ret_l B dX11_raw_20 ⟨⟨_, rfl⟩, rfl, hI2, (fun b9 h9 => ((hF2 b9 (fun j9 h8 h7 => (show False from h7).elim)).trans ((hF1 b9 (fun j9 h8 h7 => (show False from h7).elim)).trans rfl)))⟩)

theorem hu_X11_estimate_X11 : ∀ w ∈ u_ws RX11 TX11 8, w ∈ wsX11_estimate := fun _ h => List.mem_cons_of_mem _ (List.mem_append_left _ (List.mem_append_left _ (List.mem_append_left _ (List.mem_append_left _ (List.mem_append_right _ (h))))))

theorem hv_X11_estimate_62 : Cond.fieldLink RX11 62 "FlowExporter" (TX11 7).2.1 (TX11 7).2.2.1 ∈ wsX11_estimate := List.mem_cons_of_mem _ (List.mem_append_left _ (List.mem_append_left _ (List.mem_append_left _ (List.mem_append_left _ (List.mem_append_left _ (List.mem_of_getElem? (i := 0) rfl))))))

theorem hu_X11_estimate_X9 : ∀ w ∈ u_ws RX9 TX9 5, w ∈ wsX11_estimate := fun _ h => List.mem_cons_of_mem _ (List.mem_append_left _ (List.mem_append_left _ (List.mem_append_left _ (List.mem_append_right _ (h)))))

theorem hv_X11_estimate_319 : Cond.fieldLink RX11 319 "FlowExporter$Sums" (TX9 2).2.1 (TX9 2).2.2.1 ∈ wsX11_estimate := List.mem_cons_of_mem _ (List.mem_append_left _ (List.mem_append_left _ (List.mem_append_left _ (List.mem_append_left _ (List.mem_append_left _ (List.mem_of_getElem? (i := 1) rfl))))))
