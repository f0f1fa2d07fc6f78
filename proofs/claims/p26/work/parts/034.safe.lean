set_option maxRecDepth 20000 in
theorem ggX11_load_X6_readText : GoodIn wsX11_load wsX6_readText := goodIn_ca ((goodIn_ca (goodIn_ca (goodIn_ca (goodIn_ca (goodIn_ca (goodIn_r _ [8, 9, 10, 11, 12, 13, 14, 15, 16, 17, 18, 19, 20, 21, 22, 23, 24, 25, 26, 27, 28, 29, 30, 31, 32, 33, 34, 35, 36, 37, 38, 39, 40, 41, 42, 43, 7, 44, 45, 46, 47, 48, 49, 50, 51, 52, 53, 54, 55, 56, 57, 58, 59, 60, 61, 62, 63, 64, 65, 66, 67, 68, 69, 70, 71, 72, 73, 74, 75, 76, 77, 78, 79, 80, 81, 82, 83, 84, 85, 86, 87, 88, 89, 90, 91, 92, 93, 94, 95, 96, 97, 98, 99, 100, 101, 102, 103, 104, 105, 106, 107, 108, 109, 110, 111, 112, 113, 114, 115, 116, 117, 118, 119, 120, 121, 122, 123, 124, 125, 126, 127, 128, 129, 130, 131, 132, 133, 134, 135, 136, 137, 138, 139, 140, 141, 142, 143, 144, 145, 146, 147, 148, 149, 150, 151, 152, 153, 154, 155, 156, 157, 158, 159, 160, 161, 162, 163, 164, 165, 166, 167, 168, 169, 170, 171, 172, 173, 174] rfl (by decide +kernel)) (goodIn_sub (fun _ h => List.mem_cons_of_mem _ (List.mem_append_left _ (List.mem_append_left _ (List.mem_append_left _ (List.mem_append_left _ (List.mem_append_left _ (List.mem_append_left _ (List.mem_append_left _ (List.mem_append_left _ (List.mem_append_left _ (List.mem_append_left _ (List.mem_append_right _ h)))))))))))) gw_wsX60)) (goodIn_sub (fun _ h => List.mem_cons_of_mem _ (List.mem_append_left _ (List.mem_append_left _ (List.mem_append_left _ (List.mem_append_left _ (List.mem_append_left _ (List.mem_append_left _ (List.mem_append_left _ (List.mem_append_left _ (List.mem_append_left _ (List.mem_append_right _ h))))))))))) gw_wsX10)) (goodIn_sub (fun _ h => List.mem_cons_of_mem _ (List.mem_append_left _ (List.mem_append_left _ (List.mem_append_left _ (List.mem_append_left _ (List.mem_append_left _ (List.mem_append_left _ (List.mem_append_left _ (List.mem_append_left _ (List.mem_append_right _ h)))))))))) gw_wsX100)) (goodIn_sub (fun _ h => List.mem_cons_of_mem _ (List.mem_append_left _ (List.mem_append_left _ (List.mem_append_left _ (List.mem_append_left _ (List.mem_append_left _ (List.mem_append_left _ (List.mem_append_left _ (List.mem_append_left _ (List.mem_append_left _ (List.mem_append_left _ (List.mem_append_left _ (List.mem_append_right _ h))))))))))))) gw_wsX50)) (goodIn_sub (fun _ h => List.mem_cons_of_mem _ (List.mem_append_left _ (List.mem_append_left _ (List.mem_append_left _ (List.mem_append_left _ (List.mem_append_left _ (List.mem_append_left _ (List.mem_append_left _ (List.mem_append_right _ h))))))))) gw_wsJ00))) (goodIn_sub (fun _ h => List.mem_cons_of_mem _ (List.mem_append_right _ h)) (all_fg _))
set_option maxRecDepth 20000 in
theorem gX11_load_X6_readText : GoodIn wsX11_load (wsV RX11 75 RX6 yX6_readText wsX6_readText) := goodIn_app (goodIn_m (mem_cA (List.mem_cons_of_mem _ (List.mem_append_left _ (List.mem_append_left _ (List.mem_append_left _ (List.mem_append_left _ (List.mem_append_left _ (List.mem_append_left _ (List.mem_append_left _ (List.mem_append_left _ (List.mem_append_left _ (List.mem_append_left _ (List.mem_append_left _ (List.mem_append_left _ (List.mem_append_left _ (List.mem_append_left _ (List.mem_of_getElem? (i := 3) rfl)))))))))))))))) (mem_cA (List.mem_cons_of_mem _ (List.mem_append_left _ (List.mem_append_left _ (List.mem_append_left _ (List.mem_append_left _ (List.mem_append_left _ (List.mem_append_left _ (List.mem_append_left _ (List.mem_append_left _ (List.mem_append_left _ (List.mem_append_left _ (List.mem_append_left _ (List.mem_append_left _ (List.mem_append_left _ (List.mem_append_left _ (List.mem_of_getElem? (i := 4) rfl)))))))))))))))) (mem_cA (List.mem_cons_of_mem _ (List.mem_append_left _ (List.mem_append_left _ (List.mem_append_left _ (List.mem_append_left _ (List.mem_append_left _ (List.mem_append_left _ (List.mem_append_left _ (List.mem_append_left _ (List.mem_append_left _ (List.mem_append_left _ (List.mem_append_left _ (List.mem_append_left _ (List.mem_append_left _ (List.mem_append_left _ (List.mem_of_getElem? (i := 5) rfl)))))))))))))))) (mem_cA (List.mem_cons_of_mem _ (List.mem_append_left _ (List.mem_append_left _ (List.mem_append_left _ (List.mem_append_left _ (List.mem_append_left _ (List.mem_append_left _ (List.mem_append_left _ (List.mem_append_left _ (List.mem_append_left _ (List.mem_append_left _ (List.mem_append_left _ (List.mem_append_left _ (List.mem_append_left _ (List.mem_append_left _ (List.mem_of_getElem? (i := 6) rfl)))))))))))))))) mem_cZ)))) (by decide +kernel)) ggX11_load_X6_readText
set_option maxRecDepth 20000 in
theorem ggX11_load_X11_startAnew : GoodIn wsX11_load wsX11_startAnew := goodIn_ca ((goodIn_ca (goodIn_ca (goodIn_ca (goodIn_ca (goodIn_ca (goodIn_ca (goodIn_ca (goodIn_ca (goodIn_ca (goodIn_ca (goodIn_ca (goodIn_r _ [179, 180, 1, 181, 182, 183, 184, 185, 186, 187, 188, 189, 190, 18, 191, 20, 21, 22, 23, 24, 25, 26, 27, 28, 192, 193, 194, 36, 195, 38, 196, 34, 35, 37, 39, 40, 197, 198, 199, 200, 66, 201, 63, 64, 65, 202, 203, 204, 205, 206, 207, 208, 209, 210, 211, 212, 213, 214, 215, 216, 217, 218, 219, 220, 221, 222, 223, 224, 225, 226, 227, 228, 229, 230, 231, 232, 233, 234, 235, 236, 237, 238, 30, 31, 32, 239, 240, 241, 242, 243, 244, 245, 246, 247, 248, 249, 250, 251, 252, 253, 254, 255, 256, 257, 258, 259, 260, 261, 262, 263, 264, 265, 266, 267, 268, 269, 270, 271, 272, 273, 274, 275, 276, 277] rfl (by decide +kernel)) (goodIn_sub (fun _ h => List.mem_cons_of_mem _ (List.mem_append_left _ (List.mem_append_left _ (List.mem_append_left _ (List.mem_append_left _ (List.mem_append_left _ (List.mem_append_left _ (List.mem_append_left _ (List.mem_append_left _ (List.mem_append_left _ (List.mem_append_left _ (List.mem_append_left _ (List.mem_append_left _ (List.mem_append_right _ h)))))))))))))) gw_wsX110)) (goodIn_sub (fun _ h => List.mem_cons_of_mem _ (List.mem_append_left _ (List.mem_append_left _ (List.mem_append_left _ (List.mem_append_left _ (List.mem_append_left _ (List.mem_append_left _ (List.mem_append_left _ (List.mem_append_left _ (List.mem_append_left _ (List.mem_append_left _ (List.mem_append_right _ h)))))))))))) gw_wsX60)) (goodIn_sub (fun _ h => List.mem_cons_of_mem _ (List.mem_append_left _ (List.mem_append_left _ (List.mem_append_left _ (List.mem_append_left _ (List.mem_append_left _ (List.mem_append_left _ (List.mem_append_right _ h)))))))) gw_wsX90)) (goodIn_sub (fun _ h => List.mem_cons_of_mem _ (List.mem_append_left _ (List.mem_append_left _ (List.mem_append_left _ (List.mem_append_left _ (List.mem_append_left _ (List.mem_append_left _ (List.mem_append_left _ (List.mem_append_left _ (List.mem_append_left _ (List.mem_append_right _ h))))))))))) gw_wsX10)) (goodIn_sub (fun _ h => List.mem_cons_of_mem _ (List.mem_append_left _ (List.mem_append_left _ (List.mem_append_left _ (List.mem_append_left _ (List.mem_append_left _ (List.mem_append_left _ (List.mem_append_left _ (List.mem_append_left _ (List.mem_append_right _ h)))))))))) gw_wsX100)) (goodIn_sub (fun _ h => List.mem_cons_of_mem _ (List.mem_append_left _ (List.mem_append_left _ (List.mem_append_left _ (List.mem_append_left _ (List.mem_append_left _ (List.mem_append_right _ h))))))) gw_wsX70)) (goodIn_sub (fun _ h => List.mem_cons_of_mem _ (List.mem_append_left _ (List.mem_append_left _ (List.mem_append_left _ (List.mem_append_left _ (List.mem_append_right _ h)))))) gw_wsX80)) (goodIn_sub (fun _ h => List.mem_cons_of_mem _ (List.mem_append_left _ (List.mem_append_left _ (List.mem_append_left _ (List.mem_append_left _ (List.mem_append_left _ (List.mem_append_left _ (List.mem_append_left _ (List.mem_append_left _ (List.mem_append_left _ (List.mem_append_left _ (List.mem_append_left _ (List.mem_append_right _ h))))))))))))) gw_wsX50)) (goodIn_sub (fun _ h => List.mem_cons_of_mem _ (List.mem_append_left _ (List.mem_append_left _ (List.mem_append_left _ (List.mem_append_right _ h))))) gw_wsX20)) (goodIn_sub (fun _ h => List.mem_cons_of_mem _ (List.mem_append_left _ (List.mem_append_left _ (List.mem_append_right _ h)))) gw_wsX40)) (goodIn_sub (fun _ h => List.mem_cons_of_mem _ (List.mem_append_left _ (List.mem_append_right _ h))) gw_wsX00))) (goodIn_sub (fun _ h => List.mem_cons_of_mem _ (List.mem_append_right _ h)) (all_fg _))
set_option maxRecDepth 20000 in
theorem gX11_load_X11_startAnew : GoodIn wsX11_load (wsV RX11 79 RX11 yX11_startAnew wsX11_startAnew) := goodIn_app (goodIn_m (mem_cA (List.mem_cons_of_mem _ (List.mem_append_left _ (List.mem_append_left _ (List.mem_append_left _ (List.mem_append_left _ (List.mem_append_left _ (List.mem_append_left _ (List.mem_append_left _ (List.mem_append_left _ (List.mem_append_left _ (List.mem_append_left _ (List.mem_append_left _ (List.mem_append_left _ (List.mem_append_left _ (List.mem_append_right _ (List.mem_append_right _ (List.mem_append_right _ (List.mem_append_right _ (List.mem_append_right _ (List.mem_append_right _ (List.mem_append_right _ (List.mem_append_left _ (List.mem_of_getElem? (i := 6) rfl))))))))))))))))))))))) (mem_cA (List.mem_cons_of_mem _ (List.mem_append_left _ (List.mem_append_left _ (List.mem_append_left _ (List.mem_append_left _ (List.mem_append_left _ (List.mem_append_left _ (List.mem_append_left _ (List.mem_append_left _ (List.mem_append_left _ (List.mem_append_left _ (List.mem_append_left _ (List.mem_append_left _ (List.mem_append_left _ (List.mem_append_right _ (List.mem_append_right _ (List.mem_append_right _ (List.mem_append_right _ (List.mem_append_right _ (List.mem_append_right _ (List.mem_append_right _ (List.mem_append_left _ (List.mem_of_getElem? (i := 7) rfl))))))))))))))))))))))) (mem_cA (List.mem_cons_of_mem _ (List.mem_append_left _ (List.mem_append_left _ (List.mem_append_left _ (List.mem_append_left _ (List.mem_append_left _ (List.mem_append_left _ (List.mem_append_left _ (List.mem_append_left _ (List.mem_append_left _ (List.mem_append_left _ (List.mem_append_left _ (List.mem_append_left _ (List.mem_append_left _ (List.mem_append_right _ (List.mem_append_right _ (List.mem_append_right _ (List.mem_append_right _ (List.mem_append_right _ (List.mem_append_right _ (List.mem_append_right _ (List.mem_append_left _ (List.mem_of_getElem? (i := 8) rfl))))))))))))))))))))))) (mem_cA (List.mem_cons_of_mem _ (List.mem_append_left _ (List.mem_append_left _ (List.mem_append_left _ (List.mem_append_left _ (List.mem_append_left _ (List.mem_append_left _ (List.mem_append_left _ (List.mem_append_left _ (List.mem_append_left _ (List.mem_append_left _ (List.mem_append_left _ (List.mem_append_left _ (List.mem_append_left _ (List.mem_append_right _ (List.mem_append_right _ (List.mem_append_right _ (List.mem_append_right _ (List.mem_append_right _ (List.mem_append_right _ (List.mem_append_right _ (List.mem_append_left _ (List.mem_of_getElem? (i := 9) rfl))))))))))))))))))))))) mem_cZ)))) (by decide +kernel)) ggX11_load_X11_startAnew
theorem dX11_load_0 : decode cX11_load 0 = .ok (.aload_n 0, 1) := by decide +kernel
theorem dX11_load_1 : decode cX11_load 1 = .ok (.getfield 30, 3) := by decide +kernel
theorem dX11_load_4 : decode cX11_load 4 = .ok (.invokevirtual 75, 3) := by decide +kernel
theorem dX11_load_7 : decode cX11_load 7 = .ok (.istore_n 1, 1) := by decide +kernel
theorem dX11_load_8 : decode cX11_load 8 = .ok (.aload_n 0, 1) := by decide +kernel
theorem dX11_load_9 : decode cX11_load 9 = .ok (.getfield 14, 3) := by decide +kernel
theorem dX11_load_12 : decode cX11_load 12 = .ok (.iconst 0, 1) := by decide +kernel
theorem dX11_load_13 : decode cX11_load 13 = .ok (.putfield 97, 3) := by decide +kernel
theorem dX11_load_16 : decode cX11_load 16 = .ok (.iload_n 1, 1) := by decide +kernel
theorem dX11_load_17 : decode cX11_load 17 = .ok (.ifCond .lt 7, 3) := by decide +kernel
theorem dX11_load_20 : decode cX11_load 20 = .ok (.aload_n 0, 1) := by decide +kernel
theorem dX11_load_21 : decode cX11_load 21 = .ok (.invokevirtual 79, 3) := by decide +kernel
theorem dX11_load_24 : decode cX11_load 24 = .ok (.iload_n 1, 1) := by decide +kernel
theorem dX11_load_25 : decode cX11_load 25 = .ok (.ireturn, 1) := by decide +kernel
theorem dX11_requirePackets_0 : decode cX11_requirePackets 0 = .ok (.lload_n 0, 1) := by decide +kernel
theorem dX11_requirePackets_1 : decode cX11_requirePackets 1 = .ok (.ldc2_w 113, 3) := by decide +kernel
theorem dX11_requirePackets_4 : decode cX11_requirePackets 4 = .ok (.lcmp, 1) := by decide +kernel
theorem dX11_requirePackets_5 : decode cX11_requirePackets 5 = .ok (.ifCond .eq 26, 3) := by decide +kernel
theorem dX11_requirePackets_8 : decode cX11_requirePackets 8 = .ok (.iload_n 2, 1) := by decide +kernel
theorem dX11_requirePackets_9 : decode cX11_requirePackets 9 = .ok (.iconst 1, 1) := by decide +kernel
theorem dX11_requirePackets_10 : decode cX11_requirePackets 10 = .ok (.if_icmp .lt 21, 3) := by decide +kernel
theorem dX11_requirePackets_13 : decode cX11_requirePackets 13 = .ok (.iload_n 2, 1) := by decide +kernel
theorem dX11_requirePackets_14 : decode cX11_requirePackets 14 = .ok (.ldc 115, 2) := by decide +kernel
theorem dX11_requirePackets_16 : decode cX11_requirePackets 16 = .ok (.if_icmp .gt 15, 3) := by decide +kernel
theorem dX11_requirePackets_19 : decode cX11_requirePackets 19 = .ok (.iload_n 3, 1) := by decide +kernel
theorem dX11_requirePackets_20 : decode cX11_requirePackets 20 = .ok (.iconst 1, 1) := by decide +kernel
theorem dX11_requirePackets_21 : decode cX11_requirePackets 21 = .ok (.if_icmp .lt 10, 3) := by decide +kernel
theorem dX11_requirePackets_24 : decode cX11_requirePackets 24 = .ok (.iload_n 3, 1) := by decide +kernel
theorem dX11_requirePackets_25 : decode cX11_requirePackets 25 = .ok (.sipush 200, 3) := by decide +kernel
theorem dX11_requirePackets_28 : decode cX11_requirePackets 28 = .ok (.if_icmp .le 11, 3) := by decide +kernel
theorem dX11_requirePackets_31 : decode cX11_requirePackets 31 = .ok (.new 116, 3) := by decide +kernel
theorem dX11_requirePackets_34 : decode cX11_requirePackets 34 = .ok (.dup, 1) := by decide +kernel
theorem dX11_requirePackets_35 : decode cX11_requirePackets 35 = .ok (.invokespecial 118, 3) := by decide +kernel
theorem dX11_requirePackets_38 : decode cX11_requirePackets 38 = .ok (.athrow, 1) := by decide +kernel
theorem dX11_requirePackets_39 : decode cX11_requirePackets 39 = .ok (.return_, 1) := by decide +kernel
theorem dX11_requireTemplate_0 : decode cX11_requireTemplate 0 = .ok (.iload_n 1, 1) := by decide +kernel
theorem dX11_requireTemplate_1 : decode cX11_requireTemplate 1 = .ok (.ifCond .lt 14, 3) := by decide +kernel
theorem dX11_requireTemplate_4 : decode cX11_requireTemplate 4 = .ok (.iload_n 1, 1) := by decide +kernel
theorem dX11_requireTemplate_5 : decode cX11_requireTemplate 5 = .ok (.aload_n 0, 1) := by decide +kernel
theorem dX11_requireTemplate_6 : decode cX11_requireTemplate 6 = .ok (.getfield 21, 3) := by decide +kernel
theorem dX11_requireTemplate_9 : decode cX11_requireTemplate 9 = .ok (.getfield 191, 3) := by decide +kernel
theorem dX11_requireTemplate_12 : decode cX11_requireTemplate 12 = .ok (.if_icmp .lt 11, 3) := by decide +kernel
theorem dX11_requireTemplate_15 : decode cX11_requireTemplate 15 = .ok (.new 153, 3) := by decide +kernel
theorem dX11_requireTemplate_18 : decode cX11_requireTemplate 18 = .ok (.dup, 1) := by decide +kernel
theorem dX11_requireTemplate_19 : decode cX11_requireTemplate 19 = .ok (.invokespecial 155, 3) := by decide +kernel
theorem dX11_requireTemplate_22 : decode cX11_requireTemplate 22 = .ok (.athrow, 1) := by decide +kernel
theorem dX11_requireTemplate_23 : decode cX11_requireTemplate 23 = .ok (.return_, 1) := by decide +kernel
set_option maxRecDepth 20000 in
theorem ggX11_isDue_X11_requireTemplate : GoodIn wsX11_isDue wsX11_requireTemplate := goodIn_ca ((goodIn_ca (goodIn_ca (goodIn_r _ [8, 9, 10, 11, 12] rfl (by decide +kernel)) (goodIn_sub (fun _ h => List.mem_cons_of_mem _ (List.mem_append_left _ (List.mem_append_left _ (List.mem_append_left _ (List.mem_append_left _ (List.mem_append_left _ (List.mem_append_left _ (List.mem_append_right _ h)))))))) gw_wsX110)) (goodIn_sub (fun _ h => List.mem_cons_of_mem _ (List.mem_append_left _ (List.mem_append_left _ (List.mem_append_left _ (List.mem_append_left _ (List.mem_append_right _ h)))))) gw_wsX10))) (goodIn_sub (fun _ h => List.mem_cons_of_mem _ (List.mem_append_left _ (List.mem_append_right _ h))) (all_fg _))
set_option maxRecDepth 20000 in
theorem gX11_isDue_X11_requireTemplate : GoodIn wsX11_isDue (wsV RX11 194 RX11 yX11_requireTemplate wsX11_requireTemplate) := goodIn_app (goodIn_m (mem_cA (List.mem_cons_of_mem _ (List.mem_append_left _ (List.mem_append_left _ (List.mem_append_left _ (List.mem_append_left _ (List.mem_append_left _ (List.mem_append_left _ (List.mem_append_left _ (List.mem_append_left _ (List.mem_of_getElem? (i := 3) rfl)))))))))) (mem_cA (List.mem_cons_of_mem _ (List.mem_append_left _ (List.mem_append_left _ (List.mem_append_left _ (List.mem_append_left _ (List.mem_append_left _ (List.mem_append_left _ (List.mem_append_left _ (List.mem_append_left _ (List.mem_of_getElem? (i := 4) rfl)))))))))) (mem_cA (List.mem_cons_of_mem _ (List.mem_append_left _ (List.mem_append_left _ (List.mem_append_left _ (List.mem_append_left _ (List.mem_append_left _ (List.mem_append_left _ (List.mem_append_left _ (List.mem_append_left _ (List.mem_of_getElem? (i := 5) rfl)))))))))) (mem_cA (List.mem_cons_of_mem _ (List.mem_append_left _ (List.mem_append_left _ (List.mem_append_left _ (List.mem_append_left _ (List.mem_append_left _ (List.mem_append_left _ (List.mem_append_left _ (List.mem_append_left _ (List.mem_of_getElem? (i := 6) rfl)))))))))) mem_cZ)))) (by decide +kernel)) ggX11_isDue_X11_requireTemplate
set_option maxRecDepth 20000 in
theorem ggX11_isDue_X8_mustSend : GoodIn wsX11_isDue wsX8_mustSend := goodIn_ca ((goodIn_ca (goodIn_ca (goodIn_ca (goodIn_r _ [17, 18, 19, 20, 21, 22, 23, 24, 25, 26, 27, 28, 29, 30, 31, 32, 33] rfl (by decide +kernel)) (goodIn_sub (fun _ h => List.mem_cons_of_mem _ (List.mem_append_left _ (List.mem_append_left _ (List.mem_append_left _ (List.mem_append_right _ h))))) gw_wsX80)) (goodIn_sub (fun _ h => List.mem_cons_of_mem _ (List.mem_append_left _ (List.mem_append_left _ (List.mem_append_right _ h)))) gw_wsX100)) (goodIn_sub (fun _ h => List.mem_cons_of_mem _ (List.mem_append_left _ (List.mem_append_left _ (List.mem_append_left _ (List.mem_append_left _ (List.mem_append_right _ h)))))) gw_wsX10))) (goodIn_sub (fun _ h => List.mem_cons_of_mem _ (List.mem_append_right _ h)) (all_fg _))
set_option maxRecDepth 20000 in
theorem gX11_isDue_X8_mustSend : GoodIn wsX11_isDue (wsV RX11 227 RX8 yX8_mustSend wsX8_mustSend) := goodIn_app (goodIn_m (mem_cA (List.mem_cons_of_mem _ (List.mem_append_left _ (List.mem_append_left _ (List.mem_append_left _ (List.mem_append_left _ (List.mem_append_left _ (List.mem_append_left _ (List.mem_append_left _ (List.mem_append_left _ (List.mem_of_getElem? (i := 12) rfl)))))))))) (mem_cA (List.mem_cons_of_mem _ (List.mem_append_left _ (List.mem_append_left _ (List.mem_append_left _ (List.mem_append_left _ (List.mem_append_left _ (List.mem_append_left _ (List.mem_append_left _ (List.mem_append_left _ (List.mem_of_getElem? (i := 13) rfl)))))))))) (mem_cA (List.mem_cons_of_mem _ (List.mem_append_left _ (List.mem_append_left _ (List.mem_append_left _ (List.mem_append_left _ (List.mem_append_left _ (List.mem_append_left _ (List.mem_append_left _ (List.mem_append_left _ (List.mem_of_getElem? (i := 14) rfl)))))))))) (mem_cA (List.mem_cons_of_mem _ (List.mem_append_left _ (List.mem_append_left _ (List.mem_append_left _ (List.mem_append_left _ (List.mem_append_left _ (List.mem_append_left _ (List.mem_append_left _ (List.mem_append_left _ (List.mem_of_getElem? (i := 15) rfl)))))))))) mem_cZ)))) (by decide +kernel)) ggX11_isDue_X8_mustSend
theorem dX11_isDue_0 : decode cX11_isDue 0 = .ok (.aload_n 0, 1) := by decide +kernel
theorem dX11_isDue_1 : decode cX11_isDue 1 = .ok (.iload_n 1, 1) := by decide +kernel
theorem dX11_isDue_2 : decode cX11_isDue 2 = .ok (.invokevirtual 194, 3) := by decide +kernel
theorem dX11_isDue_5 : decode cX11_isDue 5 = .ok (.aload_n 0, 1) := by decide +kernel
theorem dX11_isDue_6 : decode cX11_isDue 6 = .ok (.getfield 46, 3) := by decide +kernel
theorem dX11_isDue_9 : decode cX11_isDue 9 = .ok (.iload_n 1, 1) := by decide +kernel
theorem dX11_isDue_10 : decode cX11_isDue 10 = .ok (.aload_n 0, 1) := by decide +kernel
theorem dX11_isDue_11 : decode cX11_isDue 11 = .ok (.getfield 55, 3) := by decide +kernel
theorem dX11_isDue_14 : decode cX11_isDue 14 = .ok (.getfield 110, 3) := by decide +kernel
theorem dX11_isDue_17 : decode cX11_isDue 17 = .ok (.invokevirtual 227, 3) := by decide +kernel
theorem dX11_isDue_20 : decode cX11_isDue 20 = .ok (.ireturn, 1) := by decide +kernel
theorem dX11_requireMessage_0 : decode cX11_requireMessage 0 = .ok (.iload_n 1, 1) := by decide +kernel
theorem dX11_requireMessage_1 : decode cX11_requireMessage 1 = .ok (.ifCond .lt 14, 3) := by decide +kernel
theorem dX11_requireMessage_4 : decode cX11_requireMessage 4 = .ok (.iload_n 1, 1) := by decide +kernel
theorem dX11_requireMessage_5 : decode cX11_requireMessage 5 = .ok (.aload_n 0, 1) := by decide +kernel
theorem dX11_requireMessage_6 : decode cX11_requireMessage 6 = .ok (.getfield 37, 3) := by decide +kernel
theorem dX11_requireMessage_9 : decode cX11_requireMessage 9 = .ok (.getfield 231, 3) := by decide +kernel
theorem dX11_requireMessage_12 : decode cX11_requireMessage 12 = .ok (.if_icmp .lt 11, 3) := by decide +kernel
theorem dX11_requireMessage_15 : decode cX11_requireMessage 15 = .ok (.new 153, 3) := by decide +kernel
theorem dX11_requireMessage_18 : decode cX11_requireMessage 18 = .ok (.dup, 1) := by decide +kernel
theorem dX11_requireMessage_19 : decode cX11_requireMessage 19 = .ok (.invokespecial 155, 3) := by decide +kernel
theorem dX11_requireMessage_22 : decode cX11_requireMessage 22 = .ok (.athrow, 1) := by decide +kernel
theorem dX11_requireMessage_23 : decode cX11_requireMessage 23 = .ok (.return_, 1) := by decide +kernel
set_option maxRecDepth 20000 in
theorem ggX11_messageLength_X11_requireMessage : GoodIn wsX11_messageLength wsX11_requireMessage := goodIn_ca ((goodIn_ca (goodIn_ca (goodIn_r _ [7, 8, 9, 1, 10] rfl (by decide +kernel)) (goodIn_sub (fun _ h => List.mem_cons_of_mem _ (List.mem_append_left _ (List.mem_append_left _ (List.mem_append_left _ (List.mem_append_right _ h))))) gw_wsX110)) (goodIn_sub (fun _ h => List.mem_cons_of_mem _ (List.mem_append_left _ (List.mem_append_right _ h))) gw_wsX70))) (goodIn_sub (fun _ h => List.mem_cons_of_mem _ (List.mem_append_right _ h)) (all_fg _))
set_option maxRecDepth 20000 in
theorem gX11_messageLength_X11_requireMessage : GoodIn wsX11_messageLength (wsV RX11 243 RX11 yX11_requireMessage wsX11_requireMessage) := goodIn_app (goodIn_m (mem_cA (List.mem_cons_of_mem _ (List.mem_append_left _ (List.mem_append_left _ (List.mem_append_left _ (List.mem_append_left _ (List.mem_of_getElem? (i := 2) rfl)))))) (mem_cA (List.mem_cons_of_mem _ (List.mem_append_left _ (List.mem_append_left _ (List.mem_append_left _ (List.mem_append_left _ (List.mem_of_getElem? (i := 3) rfl)))))) (mem_cA (List.mem_cons_of_mem _ (List.mem_append_left _ (List.mem_append_left _ (List.mem_append_left _ (List.mem_append_left _ (List.mem_of_getElem? (i := 4) rfl)))))) (mem_cA (List.mem_cons_of_mem _ (List.mem_append_left _ (List.mem_append_left _ (List.mem_append_left _ (List.mem_append_left _ (List.mem_of_getElem? (i := 5) rfl)))))) mem_cZ)))) (by decide +kernel)) ggX11_messageLength_X11_requireMessage
set_option maxRecDepth 20000 in
theorem ggX11_messageLength_X7_messageAt : GoodIn wsX11_messageLength wsX7_messageAt := (goodIn_ca (goodIn_r _ [15, 16] rfl (by decide +kernel)) (goodIn_sub (fun _ h => List.mem_cons_of_mem _ (List.mem_append_left _ (List.mem_append_right _ h))) gw_wsX70))
set_option maxRecDepth 20000 in
theorem gX11_messageLength_X7_messageAt : GoodIn wsX11_messageLength (wsV RX11 246 RX7 yX7_messageAt wsX7_messageAt) := goodIn_app (goodIn_m (mem_cA (List.mem_cons_of_mem _ (List.mem_append_left _ (List.mem_append_left _ (List.mem_append_left _ (List.mem_append_left _ (List.mem_of_getElem? (i := 10) rfl)))))) (mem_cA (List.mem_cons_of_mem _ (List.mem_append_left _ (List.mem_append_left _ (List.mem_append_left _ (List.mem_append_left _ (List.mem_of_getElem? (i := 11) rfl)))))) (mem_cA (List.mem_cons_of_mem _ (List.mem_append_left _ (List.mem_append_left _ (List.mem_append_left _ (List.mem_append_left _ (List.mem_of_getElem? (i := 12) rfl)))))) (mem_cA (List.mem_cons_of_mem _ (List.mem_append_left _ (List.mem_append_left _ (List.mem_append_left _ (List.mem_append_left _ (List.mem_of_getElem? (i := 13) rfl)))))) mem_cZ)))) (by decide +kernel)) ggX11_messageLength_X7_messageAt
theorem dX11_messageLength_0 : decode cX11_messageLength 0 = .ok (.aload_n 0, 1) := by decide +kernel
theorem dX11_messageLength_1 : decode cX11_messageLength 1 = .ok (.iload_n 1, 1) := by decide +kernel
theorem dX11_messageLength_2 : decode cX11_messageLength 2 = .ok (.invokevirtual 243, 3) := by decide +kernel
theorem dX11_messageLength_5 : decode cX11_messageLength 5 = .ok (.aload_n 0, 1) := by decide +kernel
theorem dX11_messageLength_6 : decode cX11_messageLength 6 = .ok (.getfield 37, 3) := by decide +kernel
theorem dX11_messageLength_9 : decode cX11_messageLength 9 = .ok (.iload_n 1, 1) := by decide +kernel
theorem dX11_messageLength_10 : decode cX11_messageLength 10 = .ok (.invokevirtual 246, 3) := by decide +kernel
theorem dX11_messageLength_13 : decode cX11_messageLength 13 = .ok (.getfield 97, 3) := by decide +kernel
theorem dX11_messageLength_16 : decode cX11_messageLength 16 = .ok (.ireturn, 1) := by decide +kernel
set_option maxRecDepth 20000 in
theorem ggX11_messageByte_X11_requireMessage : GoodIn wsX11_messageByte wsX11_requireMessage := goodIn_ca ((goodIn_ca (goodIn_ca (goodIn_r _ [6, 7, 8, 1, 9] rfl (by decide +kernel)) (goodIn_sub (fun _ h => List.mem_cons_of_mem _ (List.mem_append_left _ (List.mem_append_left _ (List.mem_append_left _ (List.mem_append_left _ (List.mem_append_right _ h)))))) gw_wsX110)) (goodIn_sub (fun _ h => List.mem_cons_of_mem _ (List.mem_append_left _ (List.mem_append_left _ (List.mem_append_left _ (List.mem_append_right _ h))))) gw_wsX70))) (goodIn_sub (fun _ h => List.mem_cons_of_mem _ (List.mem_append_left _ (List.mem_append_right _ h))) (all_fg _))
set_option maxRecDepth 20000 in
theorem gX11_messageByte_X11_requireMessage : GoodIn wsX11_messageByte (wsV RX11 243 RX11 yX11_requireMessage wsX11_requireMessage) := goodIn_app (goodIn_m (mem_cA (List.mem_cons_of_mem _ (List.mem_append_left _ (List.mem_append_left _ (List.mem_append_left _ (List.mem_append_left _ (List.mem_append_left _ (List.mem_of_getElem? (i := 1) rfl))))))) (mem_cA (List.mem_cons_of_mem _ (List.mem_append_left _ (List.mem_append_left _ (List.mem_append_left _ (List.mem_append_left _ (List.mem_append_left _ (List.mem_of_getElem? (i := 2) rfl))))))) (mem_cA (List.mem_cons_of_mem _ (List.mem_append_left _ (List.mem_append_left _ (List.mem_append_left _ (List.mem_append_left _ (List.mem_append_left _ (List.mem_of_getElem? (i := 3) rfl))))))) (mem_cA (List.mem_cons_of_mem _ (List.mem_append_left _ (List.mem_append_left _ (List.mem_append_left _ (List.mem_append_left _ (List.mem_append_left _ (List.mem_of_getElem? (i := 4) rfl))))))) mem_cZ)))) (by decide +kernel)) ggX11_messageByte_X11_requireMessage
set_option maxRecDepth 20000 in
theorem ggX11_messageByte_X7_messageAt : GoodIn wsX11_messageByte wsX7_messageAt := (goodIn_ca (goodIn_r _ [14, 15] rfl (by decide +kernel)) (goodIn_sub (fun _ h => List.mem_cons_of_mem _ (List.mem_append_left _ (List.mem_append_left _ (List.mem_append_left _ (List.mem_append_right _ h))))) gw_wsX70))
set_option maxRecDepth 20000 in
theorem gX11_messageByte_X7_messageAt : GoodIn wsX11_messageByte (wsV RX11 246 RX7 yX7_messageAt wsX7_messageAt) := goodIn_app (goodIn_m (mem_cA (List.mem_cons_of_mem _ (List.mem_append_left _ (List.mem_append_left _ (List.mem_append_left _ (List.mem_append_left _ (List.mem_append_left _ (List.mem_of_getElem? (i := 9) rfl))))))) (mem_cA (List.mem_cons_of_mem _ (List.mem_append_left _ (List.mem_append_left _ (List.mem_append_left _ (List.mem_append_left _ (List.mem_append_left _ (List.mem_of_getElem? (i := 10) rfl))))))) (mem_cA (List.mem_cons_of_mem _ (List.mem_append_left _ (List.mem_append_left _ (List.mem_append_left _ (List.mem_append_left _ (List.mem_append_left _ (List.mem_of_getElem? (i := 11) rfl))))))) (mem_cA (List.mem_cons_of_mem _ (List.mem_append_left _ (List.mem_append_left _ (List.mem_append_left _ (List.mem_append_left _ (List.mem_append_left _ (List.mem_of_getElem? (i := 12) rfl))))))) mem_cZ)))) (by decide +kernel)) ggX11_messageByte_X7_messageAt
set_option maxRecDepth 20000 in
theorem ggX11_messageByte_X5_byteAt : GoodIn wsX11_messageByte wsX5_byteAt := goodIn_ca ((goodIn_ca (goodIn_r _ [20, 21, 22] rfl (by decide +kernel)) (goodIn_sub (fun _ h => List.mem_cons_of_mem _ (List.mem_append_left _ (List.mem_append_left _ (List.mem_append_right _ h)))) gw_wsX50))) (goodIn_sub (fun _ h => List.mem_cons_of_mem _ (List.mem_append_right _ h)) (all_fg _))
set_option maxRecDepth 20000 in
theorem gX11_messageByte_X5_byteAt : GoodIn wsX11_messageByte (wsV RX11 250 RX5 yX5_byteAt wsX5_byteAt) := goodIn_app (goodIn_m (mem_cA (List.mem_cons_of_mem _ (List.mem_append_left _ (List.mem_append_left _ (List.mem_append_left _ (List.mem_append_left _ (List.mem_append_left _ (List.mem_of_getElem? (i := 15) rfl))))))) (mem_cA (List.mem_cons_of_mem _ (List.mem_append_left _ (List.mem_append_left _ (List.mem_append_left _ (List.mem_append_left _ (List.mem_append_left _ (List.mem_of_getElem? (i := 16) rfl))))))) (mem_cA (List.mem_cons_of_mem _ (List.mem_append_left _ (List.mem_append_left _ (List.mem_append_left _ (List.mem_append_left _ (List.mem_append_left _ (List.mem_of_getElem? (i := 17) rfl))))))) (mem_cA (List.mem_cons_of_mem _ (List.mem_append_left _ (List.mem_append_left _ (List.mem_append_left _ (List.mem_append_left _ (List.mem_append_left _ (List.mem_of_getElem? (i := 18) rfl))))))) mem_cZ)))) (by decide +kernel)) ggX11_messageByte_X5_byteAt
theorem dX11_messageByte_0 : decode cX11_messageByte 0 = .ok (.aload_n 0, 1) := by decide +kernel
theorem dX11_messageByte_1 : decode cX11_messageByte 1 = .ok (.iload_n 1, 1) := by decide +kernel
theorem dX11_messageByte_2 : decode cX11_messageByte 2 = .ok (.invokevirtual 243, 3) := by decide +kernel
theorem dX11_messageByte_5 : decode cX11_messageByte 5 = .ok (.aload_n 0, 1) := by decide +kernel
theorem dX11_messageByte_6 : decode cX11_messageByte 6 = .ok (.getfield 37, 3) := by decide +kernel
theorem dX11_messageByte_9 : decode cX11_messageByte 9 = .ok (.iload_n 1, 1) := by decide +kernel
theorem dX11_messageByte_10 : decode cX11_messageByte 10 = .ok (.invokevirtual 246, 3) := by decide +kernel
theorem dX11_messageByte_13 : decode cX11_messageByte 13 = .ok (.iload_n 2, 1) := by decide +kernel
theorem dX11_messageByte_14 : decode cX11_messageByte 14 = .ok (.invokevirtual 250, 3) := by decide +kernel
theorem dX11_messageByte_17 : decode cX11_messageByte 17 = .ok (.ireturn, 1) := by decide +kernel
theorem dX11_requireWhat_0 : decode cX11_requireWhat 0 = .ok (.iload_n 0, 1) := by decide +kernel
theorem dX11_requireWhat_1 : decode cX11_requireWhat 1 = .ok (.ifCond .eq 16, 3) := by decide +kernel
theorem dX11_requireWhat_4 : decode cX11_requireWhat 4 = .ok (.iload_n 0, 1) := by decide +kernel
theorem dX11_requireWhat_5 : decode cX11_requireWhat 5 = .ok (.iconst 1, 1) := by decide +kernel
theorem dX11_requireWhat_6 : decode cX11_requireWhat 6 = .ok (.if_icmp .eq 11, 3) := by decide +kernel
theorem dX11_requireWhat_9 : decode cX11_requireWhat 9 = .ok (.new 116, 3) := by decide +kernel
theorem dX11_requireWhat_12 : decode cX11_requireWhat 12 = .ok (.dup, 1) := by decide +kernel
theorem dX11_requireWhat_13 : decode cX11_requireWhat 13 = .ok (.invokespecial 118, 3) := by decide +kernel
theorem dX11_requireWhat_16 : decode cX11_requireWhat 16 = .ok (.athrow, 1) := by decide +kernel
theorem dX11_requireWhat_17 : decode cX11_requireWhat 17 = .ok (.return_, 1) := by decide +kernel
theorem dX11_requireKey_0 : decode cX11_requireKey 0 = .ok (.iload_n 1, 1) := by decide +kernel
theorem dX11_requireKey_1 : decode cX11_requireKey 1 = .ok (.ifCond .lt 14, 3) := by decide +kernel
theorem dX11_requireKey_4 : decode cX11_requireKey 4 = .ok (.iload_n 1, 1) := by decide +kernel
theorem dX11_requireKey_5 : decode cX11_requireKey 5 = .ok (.aload_n 0, 1) := by decide +kernel
theorem dX11_requireKey_6 : decode cX11_requireKey 6 = .ok (.getfield 62, 3) := by decide +kernel
theorem dX11_requireKey_9 : decode cX11_requireKey 9 = .ok (.getfield 92, 3) := by decide +kernel
theorem dX11_requireKey_12 : decode cX11_requireKey 12 = .ok (.if_icmp .lt 11, 3) := by decide +kernel
theorem dX11_requireKey_15 : decode cX11_requireKey 15 = .ok (.new 153, 3) := by decide +kernel
theorem dX11_requireKey_18 : decode cX11_requireKey 18 = .ok (.dup, 1) := by decide +kernel
theorem dX11_requireKey_19 : decode cX11_requireKey 19 = .ok (.invokespecial 155, 3) := by decide +kernel
theorem dX11_requireKey_22 : decode cX11_requireKey 22 = .ok (.athrow, 1) := by decide +kernel
theorem dX11_requireKey_23 : decode cX11_requireKey 23 = .ok (.return_, 1) := by decide +kernel
theorem hv_X11_load_30 : Cond.fieldLink RX11 30 "FlowExporter" (TX11 2).2.1 (TX11 2).2.2.1 ∈ wsX11_load := List.mem_cons_of_mem _ (List.mem_append_left _ (List.mem_append_left _ (List.mem_append_left _ (List.mem_append_left _ (List.mem_append_left _ (List.mem_append_left _ (List.mem_append_left _ (List.mem_append_left _ (List.mem_append_left _ (List.mem_append_left _ (List.mem_append_left _ (List.mem_append_left _ (List.mem_append_left _ (List.mem_append_left _ (List.mem_of_getElem? (i := 0) rfl)))))))))))))))

theorem fq_622 {x : Nat} : ∀ j9 : Nat, x = x + j9 → (24 ≤ j9 ∧ j9 < 46) → False := by
  intro j9 h1 h2
  omega

theorem hv_X11_load_14 : Cond.fieldLink RX11 14 "FlowExporter" (TX11 0).2.1 (TX11 0).2.2.1 ∈ wsX11_load := List.mem_cons_of_mem _ (List.mem_append_left _ (List.mem_append_left _ (List.mem_append_left _ (List.mem_append_left _ (List.mem_append_left _ (List.mem_append_left _ (List.mem_append_left _ (List.mem_append_left _ (List.mem_append_left _ (List.mem_append_left _ (List.mem_append_left _ (List.mem_append_left _ (List.mem_append_left _ (List.mem_append_left _ (List.mem_of_getElem? (i := 1) rfl)))))))))))))))

theorem hu_X11_load_X5 : ∀ w ∈ u_ws RX5 TX5 2, w ∈ wsX11_load := fun _ h => List.mem_cons_of_mem _ (List.mem_append_left _ (List.mem_append_left _ (List.mem_append_left _ (List.mem_append_left _ (List.mem_append_left _ (List.mem_append_left _ (List.mem_append_left _ (List.mem_append_left _ (List.mem_append_left _ (List.mem_append_left _ (List.mem_append_left _ (List.mem_append_right _ (h)))))))))))))

theorem hv_X11_load_97 : Cond.fieldLink RX11 97 "FlowExporter$Message" (TX5 1).2.1 (TX5 1).2.2.1 ∈ wsX11_load := List.mem_cons_of_mem _ (List.mem_append_left _ (List.mem_append_left _ (List.mem_append_left _ (List.mem_append_left _ (List.mem_append_left _ (List.mem_append_left _ (List.mem_append_left _ (List.mem_append_left _ (List.mem_append_left _ (List.mem_append_left _ (List.mem_append_left _ (List.mem_append_left _ (List.mem_append_left _ (List.mem_append_left _ (List.mem_of_getElem? (i := 2) rfl)))))))))))))))

theorem fq_626 {x : Nat} : ∀ j9 : Nat, x + 80 = x + j9 → (24 ≤ j9 ∧ j9 < 46) → False := by
  intro j9 h1 h2
  omega

theorem fq_627 : ∀ j9 : Nat, (24 ≤ j9 ∧ j9 < 46) → (1 ≤ j9 ∧ ¬ j9 = 2 ∧ j9 < 149) := by
  intro j9 h
  omega

theorem fq_628 {x : Nat} : ∀ j9 : Nat, x + 24 = x + j9 → ((3 ≤ j9 ∧ j9 < 24) ∨ (46 ≤ j9 ∧ j9 < 149)) → False := by
  intro j9 h1 h2
  omega

theorem fq_629 {x : Nat} : ∀ j9 : Nat, x + 1 = x + j9 → ((3 ≤ j9 ∧ j9 < 24) ∨ (46 ≤ j9 ∧ j9 < 149)) → False := by
  intro j9 h1 h2
  omega

theorem fq_630 : ∀ j9 : Nat, ((3 ≤ j9 ∧ j9 < 24) ∨ (46 ≤ j9 ∧ j9 < 149)) → (1 ≤ j9 ∧ ¬ j9 = 2 ∧ j9 < 149) := by
  intro j9 h
  omega

set_option maxHeartbeats 4000000 in
set_option maxRecDepth 100000 in
theorem s_X11_loadE (G : EnvG) (l : Launch) (Φ : Hm) (sz x ca : Nat) (n : Nat) (f : Nat → Int32) (co : Int32) (po : Int32) (nx : Nat) (ki : Nat) (sa : Nat) (nu : Nat) (nw : Int32) (rt : Int32) (dw : Int32) (aq : Int32) (xp : Int32) (xb : Int32) (ob : Int64) (sm : Int64) (un : Int64) (t : Nat) (s : Nat) (c : Cf) (hx : G.2.2.2 ≤ x) (hI : In G x ca Φ) (hc0 : Φ (x + 1) = some (o_ 7 [.ref (x + 2), .int (nI n)])) (hc1 : Φ (x + 2) = some (ab_ G 700 f)) (hc2 : Φ (x + 24) = some (o_ 8 [.ref (x + 25), .int co, .int po, .ref (x + 1), .int (nI nx), .int (nI ki), .int (nI sa), .int (nI nu)])) (hc3 : Φ (x + 80) = some (o_ 4 [.ref (x + 3), .ref (x + 74), .ref (x + 81), .ref (x + 95), .int nw, .int rt, .int dw, .int aq, .int xp, .int xb, .long ob, .long sm, .long un])) (hcf0 : CfA G x t s c Φ) (hn : n ≤ 700) (had : aq = 0 ∨ aq = 1) : Ct G l yX11_load wsX11_load ({ frames := 9, cells := 0, slots := 0, locals := 198 }) 0 0 [.ref x] Φ sz (fun v Φ1 sz1 => ((∃ (co8 po8 : Int32) (nx8 ki8 sa8 nu8 : Nat) (nw8 rt8 dw8 aq8 xp8 xb8 : Int32) (ob8 sm8 un8 : Int64), Φ1 (x + 24) = some (o_ 8 [.ref (x + 25), .int co8, .int po8, .ref (x + 1), .int (nI nx8), .int (nI ki8), .int (nI sa8), .int (nI nu8)]) ∧ Φ1 (x + 1) = some (o_ 7 [.ref (x + 2), .int (nI 0)]) ∧ Φ1 (x + 80) = some (o_ 4 [.ref (x + 3), .ref (x + 74), .ref (x + 81), .ref (x + 95), .int nw8, .int rt8, .int dw8, .int aq8, .int xp8, .int xb8, .long ob8, .long sm8, .long un8]) ∧ LdW (bA f n) v co8 po8 nw aq ob nw8 aq8 ob8) ∧ ∃ (t8 s8 : Nat) (c8 : Cf), CfA G x t8 s8 c8 Φ1 ∧ CfL (bA f n) c c8) ∧ sz1 = sz ∧ In G x (ca) Φ1 ∧ Fr x (fun j9 => 1 ≤ j9 ∧ ¬ j9 = 2 ∧ j9 < 149) Φ Φ1) := by
  refine Ct.of (cc := cX11_load) (maxL := 2) (ret := (some .int)) (by decide) rfl (Nat.le_of_ble_eq_true rfl) ?_
  intro p9 e9 s9 m9 w9 t9 k9 B
  show Z p9 l e9 _ s9 m9 _ w9 t9 k9 _ G 2 0 [(0, .ref x)] [] Φ sz 0 0
  refine z_aload_n B dX11_load_0 rfl 0 rfl ?_
  have h_1 := in0 (k := 0) hI rfl
  have h_2 : Φ x = some (o_ 13 [.ref (x + 1), .ref (x + 3), .ref (x + 24), .ref (x + 46), .ref (x + 74), .ref (x + 80), .ref (x + 132), .ref (x + 121)]) := h_1
  refine z_get (ref := "FlowExporter") (C := RX11) (T := TX11) (N := 8) (ci := 13) (v := .ref (x + 24)) B hu_X11_load_X11 rfl 2 (Nat.le_of_ble_eq_true rfl) hv_X11_load_30 rfl h_2 rfl dX11_load_1 ?_
  refine z_callV (As := []) (rest := []) B (s_X6_readText G l Φ sz x (ca) n f co po nx ki sa nu hx hI hc0 hc1 hc2 (show n ≤ 700 by omega)) (cwV 0 B.1.2.2.2.2 gX11_load_X6_readText rfl rfl rfl (by decide +kernel) ⟨Nat.le_of_ble_eq_true rfl, Nat.le_of_ble_eq_true rfl⟩) hc2 rfl rfl rfl rfl (Nat.le_of_ble_eq_true rfl) dX11_load_4 ⟨Nat.le_of_ble_eq_true rfl, Nat.le_of_ble_eq_true rfl⟩ (fun r_1 Φ1 sz1 st1 hp1 hs1 => ?_)
  obtain ⟨ha1, hq1, hI1, hF1⟩ := hp1
  subst sz1
  replace hI1 : In G x (ca) Φ1 := hI1
  rcases ha1 with ⟨m_1, e_1, k_1, s_1, u_1, q_1, t_1, c_1, rfl, hN1, h_3, b_1, hcg1⟩ | ⟨er_1, s_2, e_2, k_2, u_2, m_2, c_2, rfl, hN2, he1, h_4⟩
  · replace b_1 : m_1 ≤ 700 := b_1
    replace hs1 : st1 = [.int (nI m_1)] := hs1
    subst st1
    refine z_istore_n (lv' := [(1, .int (nI m_1)), (0, .ref x)]) B dX11_load_7 rfl (Nat.le_of_ble_eq_true rfl) rfl ?_
    refine z_aload_n B dX11_load_8 rfl 1 rfl ?_
    have h_5 : Φ1 x = some (o_ 13 [.ref (x + 1), .ref (x + 3), .ref (x + 24), .ref (x + 46), .ref (x + 74), .ref (x + 80), .ref (x + 132), .ref (x + 121)]) := ((hF1 x fq_622).trans h_2)
    refine z_get (ref := "FlowExporter") (C := RX11) (T := TX11) (N := 8) (ci := 13) (v := .ref (x + 1)) B hu_X11_load_X11 rfl 0 (Nat.le_of_ble_eq_true rfl) hv_X11_load_14 rfl h_5 rfl dX11_load_9 ?_
    refine z_iconst (v := 0) B dX11_load_12 rfl ?_
    have h_6 : Φ1 (x + 1) = some (o_ 7 [.ref (x + 2), .int (nI n)]) := ((hF1 (x + 1) fq_575).trans hc0)
    refine z_put (ref := "FlowExporter$Message") (C := RX5) (T := TX5) (N := 2) (ci := 7) (v := .int 0) B hu_X11_load_X5 tyX5 tyX5_ok nmX5 rfl 1 (Nat.le_of_ble_eq_true rfl) hv_X11_load_97 rfl (Or.inl rfl) h_6 (Nat.le_trans hx (Nat.le_add_right x 1)) rfl rfl (Nat.le_of_ble_eq_true rfl) dX11_load_13 (fun Φ2 hΦ1 => ?_)
    have h_7 : Φ2 (x + 1) = some (o_ 7 [.ref (x + 2), .int 0]) := fset_at hΦ1
    have hI2 : In G x (ca) Φ2 := In.put (k := 1) hI1 hΦ1 (ok1 (k := 1) rfl ⟨0, rfl, (show 0 ≤ 700 by omega)⟩)
    refine z_iload_n B dX11_load_16 rfl 0 rfl ?_
    refine z_if_lt (tgt := 24) B dX11_load_17 rfl (fun c_3 => ?_) (fun c_3 => ?_)
    · have e_3 : m_1 < 0 := (nI_ltI (a := m_1) (b := 0) (by omega) (by omega)).mp c_3
      refine z_iload_n B dX11_load_24 rfl 0 rfl ?_
      have h_8 : Φ2 (x + 24) = some (o_ 8 [.ref (x + 25), .int 0, .int (-1), .ref (x + 1), .int (nI e_1), .int (nI k_1), .int (nI s_1), .int (nI u_1)]) := ((fset_fr hΦ1 (ne_off (x := x) (i := 24) (j := 1) rfl)).trans h_3)
      have h_9 : Φ2 (x + 80) = some (o_ 4 [.ref (x + 3), .ref (x + 74), .ref (x + 81), .ref (x + 95), .int nw, .int rt, .int dw, .int aq, .int xp, .int xb, .long ob, .long sm, .long un]) := ((fset_fr hΦ1 (ne_off (x := x) (i := 80) (j := 1) rfl)).trans ((hF1 (x + 80) fq_626).trans hc3))
      exact z_ret_i B dX11_load_25 ⟨((show False by omega).elim), rfl, hI2, (fun b9 h9 => ((fset_fr hΦ1 (fun h8 => h9 (1) h8 (show 1 ≤ 1 ∧ ¬ 1 = 2 ∧ 1 < 149 by decide))).trans ((hF1 b9 (fun j9 h8 h7 => h9 j9 h8 (fq_627 j9 h7))).trans rfl)))⟩
    · have e_4 : ¬ (m_1 < 0) := fun h9 => c_3 ((nI_ltI (a := m_1) (b := 0) (by omega) (by omega)).mpr h9)
      refine z_aload_n B dX11_load_20 rfl 1 rfl ?_
      have hcg2 : CfP G x 25 t_1 4 (finC c_1) Φ2 := (CfP.off (k := 1) hcg1 hΦ1 (by intros; omega))
      have b_2 := hcg2.2.1
      have h_10 : Φ2 (x + 80) = some (o_ 4 [.ref (x + 3), .ref (x + 74), .ref (x + 81), .ref (x + 95), .int nw, .int rt, .int dw, .int aq, .int xp, .int xb, .long ob, .long sm, .long un]) := ((fset_fr hΦ1 (ne_off (x := x) (i := 80) (j := 1) rfl)).trans ((hF1 (x + 80) fq_626).trans hc3))
      have h_11 : Φ2 x = some (o_ 13 [.ref (x + 1), .ref (x + 3), .ref (x + 24), .ref (x + 46), .ref (x + 74), .ref (x + 80), .ref (x + 132), .ref (x + 121)]) := ((fset_fr hΦ1 (ne_off (x := x) (i := 0) (j := 1) rfl)).trans h_5)
      refine z_callV (As := []) (rest := []) B (s_X11_startAnewE G l Φ2 sz x (ca) t_1 (finC c_1) nw rt dw aq xp xb ob sm un hx hI2 h_10 hcg2 (show t_1 ≤ 4 by omega) had) (cwV 0 B.1.2.2.2.2 gX11_load_X11_startAnew rfl rfl rfl (by decide +kernel) ⟨Nat.le_of_ble_eq_true rfl, Nat.le_of_ble_eq_true rfl⟩) h_11 rfl rfl rfl rfl (Nat.le_of_ble_eq_true rfl) dX11_load_21 ⟨Nat.le_of_ble_eq_true rfl, Nat.le_of_ble_eq_true rfl⟩ (fun r_2 Φ3 sz2 st2 hp2 hs2 => ?_)
      obtain ⟨⟨⟨rfl, s_3, hcg3⟩, v_1, h_12⟩, hq2, hI3, hF2⟩ := hp2
      subst sz2
      replace hs2 : st2 = [] := hs2
      subst st2
      replace hI3 : In G x (ca) Φ3 := hI3
      refine z_iload_n B dX11_load_24 rfl 0 rfl ?_
      have h_13 : Φ3 (x + 24) = some (o_ 8 [.ref (x + 25), .int 0, .int (-1), .ref (x + 1), .int (nI e_1), .int (nI k_1), .int (nI s_1), .int (nI u_1)]) := ((hF2 (x + 24) fq_628).trans ((fset_fr hΦ1 (ne_off (x := x) (i := 24) (j := 1) rfl)).trans h_3))
      have h_14 : Φ3 (x + 1) = some (o_ 7 [.ref (x + 2), .int 0]) := ((hF2 (x + 1) fq_629).trans h_7)
      exact z_ret_i B dX11_load_25 ⟨⟨⟨0, (-1), e_1, k_1, s_1, u_1, 0, v_1, 1, 0, 0, 0, 0, 0, 0, h_13, (h_14.trans (congrArg (fun w9 : Nat => some (o_ 7 [.ref (x + 2), .int (nI w9)])) (show 0 = 0 by omega))), h_12, Or.inl ⟨_, _, _, rfl, hN1, rfl, rfl, rfl, rfl, rfl⟩⟩, t_1, s_3, finC c_1, hcg3, Or.inl ⟨_, _, _, hN1, rfl⟩⟩, rfl, hI3, (fun b9 h9 => ((hF2 b9 (fun j9 h8 h7 => h9 j9 h8 (fq_630 j9 h7))).trans ((fset_fr hΦ1 (fun h8 => h9 (1) h8 (show 1 ≤ 1 ∧ ¬ 1 = 2 ∧ 1 < 149 by decide))).trans ((hF1 b9 (fun j9 h8 h7 => h9 j9 h8 (fq_627 j9 h7))).trans rfl))))⟩
  · replace hs1 : st1 = [.int (-2)] := hs1
    subst st1
    refine z_istore_n (lv' := [(1, .int (-2)), (0, .ref x)]) B dX11_load_7 rfl (Nat.le_of_ble_eq_true rfl) rfl ?_
    refine z_aload_n B dX11_load_8 rfl 1 rfl ?_
    have h_15 : Φ1 x = some (o_ 13 [.ref (x + 1), .ref (x + 3), .ref (x + 24), .ref (x + 46), .ref (x + 74), .ref (x + 80), .ref (x + 132), .ref (x + 121)]) := ((hF1 x fq_622).trans h_2)
    refine z_get (ref := "FlowExporter") (C := RX11) (T := TX11) (N := 8) (ci := 13) (v := .ref (x + 1)) B hu_X11_load_X11 rfl 0 (Nat.le_of_ble_eq_true rfl) hv_X11_load_14 rfl h_15 rfl dX11_load_9 ?_
    refine z_iconst (v := 0) B dX11_load_12 rfl ?_
    have h_16 : Φ1 (x + 1) = some (o_ 7 [.ref (x + 2), .int (nI n)]) := ((hF1 (x + 1) fq_575).trans hc0)
    refine z_put (ref := "FlowExporter$Message") (C := RX5) (T := TX5) (N := 2) (ci := 7) (v := .int 0) B hu_X11_load_X5 tyX5 tyX5_ok nmX5 rfl 1 (Nat.le_of_ble_eq_true rfl) hv_X11_load_97 rfl (Or.inl rfl) h_16 (Nat.le_trans hx (Nat.le_add_right x 1)) rfl rfl (Nat.le_of_ble_eq_true rfl) dX11_load_13 (fun Φ4 hΦ2 => ?_)
    have h_17 : Φ4 (x + 1) = some (o_ 7 [.ref (x + 2), .int 0]) := fset_at hΦ2
    have hI4 : In G x (ca) Φ4 := In.put (k := 1) hI1 hΦ2 (ok1 (k := 1) rfl ⟨0, rfl, (show 0 ≤ 700 by omega)⟩)
    refine z_iload_n B dX11_load_16 rfl 0 rfl ?_
    refine z_if_lt (tgt := 24) B dX11_load_17 rfl (fun c_4 => ?_) (fun h9 => absurd (by decide) h9)
    refine z_iload_n B dX11_load_24 rfl 0 rfl ?_
    have h_18 : Φ4 (x + 24) = some (o_ 8 [.ref (x + 25), .int (nI er_1), .int (nI s_2), .ref (x + 1), .int (nI e_2), .int (nI k_2), .int (nI s_2), .int (nI u_2)]) := ((fset_fr hΦ2 (ne_off (x := x) (i := 24) (j := 1) rfl)).trans h_4)
    have h_19 : Φ4 (x + 80) = some (o_ 4 [.ref (x + 3), .ref (x + 74), .ref (x + 81), .ref (x + 95), .int nw, .int rt, .int dw, .int aq, .int xp, .int xb, .long ob, .long sm, .long un]) := ((fset_fr hΦ2 (ne_off (x := x) (i := 80) (j := 1) rfl)).trans ((hF1 (x + 80) fq_626).trans hc3))
    have hcg4 : CfA G x t s c Φ4 := (CfA.off (k := 1) (CfA.fr hcf0 hF1 (fun j9 h7 => by have h6 : 24 ≤ j9 ∧ j9 < 46 := h7; intros; omega)) hΦ2 (by intros; omega))
    exact z_ret_i B dX11_load_25 ⟨⟨⟨nI er_1, nI s_2, e_2, k_2, s_2, u_2, nw, rt, dw, aq, xp, xb, ob, sm, un, h_18, (h_17.trans (congrArg (fun w9 : Nat => some (o_ 7 [.ref (x + 2), .int (nI w9)])) (show 0 = 0 by omega))), h_19, Or.inr ⟨_, _, _, _, rfl, hN2, he1, rfl, rfl, rfl, rfl, rfl⟩⟩, t, s, c, hcg4, Or.inr ⟨_, _, _, _, hN2, he1, rfl⟩⟩, rfl, hI4, (fun b9 h9 => ((fset_fr hΦ2 (fun h8 => h9 (1) h8 (show 1 ≤ 1 ∧ ¬ 1 = 2 ∧ 1 < 149 by decide))).trans ((hF1 b9 (fun j9 h8 h7 => h9 j9 h8 (fq_627 j9 h7))).trans rfl)))⟩

set_option maxHeartbeats 4000000 in
set_option maxRecDepth 100000 in
theorem s_X11_errorCodeE (G : EnvG) (l : Launch) (Φ : Hm) (sz x ca : Nat) (co : Int32) (po : Int32) (nx : Nat) (ki : Nat) (sa : Nat) (nu : Nat) (hx : G.2.2.2 ≤ x) (hI : In G x ca Φ) (hc0 : Φ (x + 24) = some (o_ 8 [.ref (x + 25), .int co, .int po, .ref (x + 1), .int (nI nx), .int (nI ki), .int (nI sa), .int (nI nu)])) : Ct G l yX11_errorCode wsX11_errorCode ({ frames := 0, cells := 0, slots := 0, locals := 0 }) 0 0 [.ref x] Φ sz (fun v Φ1 sz1 => (v = some (.int co)) ∧ sz1 = sz ∧ In G x (ca) Φ1 ∧ Fr x (fun j9 => False) Φ Φ1) := by
  refine Ct.of (cc := cX11_errorCode) (maxL := 1) (ret := (some .int)) (by decide) rfl (Nat.le_of_ble_eq_true rfl) ?_
  intro p9 e9 s9 m9 w9 t9 k9 B
  show Z p9 l e9 _ s9 m9 _ w9 t9 k9 _ G 1 0 [(0, .ref x)] [] Φ sz 0 0
  refine z_aload_n B dX11_errorCode_0 rfl 0 rfl ?_
  have h_1 := in0 (k := 0) hI rfl
  have h_2 : Φ x = some (o_ 13 [.ref (x + 1), .ref (x + 3), .ref (x + 24), .ref (x + 46), .ref (x + 74), .ref (x + 80), .ref (x + 132), .ref (x + 121)]) := h_1
  refine z_get (ref := "FlowExporter") (C := RX11) (T := TX11) (N := 8) (ci := 13) (v := .ref (x + 24)) B hu_X11_errorCode_X11 rfl 2 (Nat.le_of_ble_eq_true rfl) hv_X11_errorCode_30 rfl h_2 rfl dX11_errorCode_1 ?_
  refine z_get (ref := "FlowExporter$Parser") (C := RX6) (T := TX6) (N := 8) (ci := 8) (v := .int co) B hu_X11_errorCode_X6 rfl 1 (Nat.le_of_ble_eq_true rfl) hv_X11_errorCode_104 rfl hc0 rfl dX11_errorCode_4 ?_
  exact z_ret_i B dX11_errorCode_7 ⟨rfl, rfl, hI, (fun b9 h9 => rfl)⟩

set_option maxHeartbeats 4000000 in
set_option maxRecDepth 100000 in
theorem s_X11_errorPositionE (G : EnvG) (l : Launch) (Φ : Hm) (sz x ca : Nat) (co : Int32) (po : Int32) (nx : Nat) (ki : Nat) (sa : Nat) (nu : Nat) (hx : G.2.2.2 ≤ x) (hI : In G x ca Φ) (hc0 : Φ (x + 24) = some (o_ 8 [.ref (x + 25), .int co, .int po, .ref (x + 1), .int (nI nx), .int (nI ki), .int (nI sa), .int (nI nu)])) : Ct G l yX11_errorPosition wsX11_errorPosition ({ frames := 0, cells := 0, slots := 0, locals := 0 }) 0 0 [.ref x] Φ sz (fun v Φ1 sz1 => (v = some (.int po)) ∧ sz1 = sz ∧ In G x (ca) Φ1 ∧ Fr x (fun j9 => False) Φ Φ1) := by
  refine Ct.of (cc := cX11_errorPosition) (maxL := 1) (ret := (some .int)) (by decide) rfl (Nat.le_of_ble_eq_true rfl) ?_
  intro p9 e9 s9 m9 w9 t9 k9 B
  show Z p9 l e9 _ s9 m9 _ w9 t9 k9 _ G 1 0 [(0, .ref x)] [] Φ sz 0 0
  refine z_aload_n B dX11_errorPosition_0 rfl 0 rfl ?_
  have h_1 := in0 (k := 0) hI rfl
  have h_2 : Φ x = some (o_ 13 [.ref (x + 1), .ref (x + 3), .ref (x + 24), .ref (x + 46), .ref (x + 74), .ref (x + 80), .ref (x + 132), .ref (x + 121)]) := h_1
  refine z_get (ref := "FlowExporter") (C := RX11) (T := TX11) (N := 8) (ci := 13) (v := .ref (x + 24)) B hu_X11_errorPosition_X11 rfl 2 (Nat.le_of_ble_eq_true rfl) hv_X11_errorPosition_30 rfl h_2 rfl dX11_errorPosition_1 ?_
  refine z_get (ref := "FlowExporter$Parser") (C := RX6) (T := TX6) (N := 8) (ci := 8) (v := .int po) B hu_X11_errorPosition_X6 rfl 2 (Nat.le_of_ble_eq_true rfl) hv_X11_errorPosition_107 rfl hc0 rfl dX11_errorPosition_4 ?_
  exact z_ret_i B dX11_errorPosition_7 ⟨rfl, rfl, hI, (fun b9 h9 => rfl)⟩

set_option maxHeartbeats 4000000 in
set_option maxRecDepth 100000 in
theorem s_X11_requirePackets (G : EnvG) (l : Launch) (hl9 : l.stackTraces = false) (Φ : Hm) (sz x ca : Nat) (a : Int64) (b : Int32) (d : Int32) (hx : G.2.2.2 ≤ x) (hI : In G x ca Φ)  : CtB G l yX11_requirePackets wsX11_requirePackets ({ frames := 6, cells := 1, slots := 6, locals := 81 }) 1 6 [.long a, .int b, .int d] Φ sz (fun v Φ1 sz1 => (v = none ∧ (∃ n9 : Nat, n9 ≤ 200 ∧ d = nI n9) ∧ ¬ RqP a b d) ∧ sz1 = sz ∧ In G x (ca) Φ1 ∧ Fr x (fun j9 => False) Φ Φ1) (fun Φ1 => (RqP a b d) ∧ In G x ca Φ1 ∧ Fr x (fun j9 => False) Φ Φ1) [xIA] := by
  refine CtB.of (cc := cX11_requirePackets) (maxL := 4) (ret := none) (by decide) rfl (Nat.le_of_ble_eq_true rfl) ?_
  intro p9 e9 s9 m9 w9 t9 k9 B htab9
  show Z p9 l e9 _ s9 m9 _ w9 t9 k9 _ G 4 0 [(0, .long a), (2, .int b), (3, .int d)] [] Φ sz 0 0
  refine z_lload_n B dX11_requirePackets_0 rfl 0 rfl ?_
  refine z_ldc2 (v := (-1)) B (by decide +kernel) dX11_requirePackets_1 ?_
  refine z_lcmp B dX11_requirePackets_4 ?_
  refine z_if_eq (tgt := 31) B dX11_requirePackets_5 rfl (fun c_1 => ?_) (fun c_1 => ?_)
  · exact zb_throw (cls := xIA) (ik := 116) (ic := 118) B hl9 htab9 (by decide) ⟨(Or.inl ((lg_cmp_eq _ _).mp c_1)), hI, (fun b9 h9 => rfl)⟩ (by decide) (by decide +kernel) (by decide +kernel) (by decide +kernel) (by decide +kernel) (by decide +kernel) (by decide +kernel) (by decide +kernel) dX11_requirePackets_31 dX11_requirePackets_34 dX11_requirePackets_35 dX11_requirePackets_38 ⟨Nat.le_of_ble_eq_true rfl, Nat.le_of_ble_eq_true rfl, Nat.le_of_ble_eq_true rfl, Nat.le_of_ble_eq_true rfl⟩ ⟨Nat.le_of_ble_eq_true rfl, Nat.le_of_ble_eq_true rfl⟩
  · refine z_iload_n B dX11_requirePackets_8 rfl 1 rfl ?_
    refine z_iconst (v := 1) B dX11_requirePackets_9 rfl ?_
    refine z_icmp_lt (tgt := 31) B dX11_requirePackets_10 rfl (fun c_2 => ?_) (fun c_2 => ?_)
    · have k_1 : (0 : Int32).toInt = 0 := by decide
      have q_1 : ¬ ((lg_cmp a (-1)).toInt = (0 : Int32).toInt) := fun h9 => c_1 (Int32.toInt_inj.mp h9)
      have k_2 : (1 : Int32).toInt = 1 := by decide
      have q_2 : (b.toInt < (1 : Int32).toInt) := Int32.lt_iff_toInt_lt.mp c_2
      exact zb_throw (cls := xIA) (ik := 116) (ic := 118) B hl9 htab9 (by decide) ⟨(Or.inr (by omega)), hI, (fun b9 h9 => rfl)⟩ (by decide) (by decide +kernel) (by decide +kernel) (by decide +kernel) (by decide +kernel) (by decide +kernel) (by decide +kernel) (by decide +kernel) dX11_requirePackets_31 dX11_requirePackets_34 dX11_requirePackets_35 dX11_requirePackets_38 ⟨Nat.le_of_ble_eq_true rfl, Nat.le_of_ble_eq_true rfl, Nat.le_of_ble_eq_true rfl, Nat.le_of_ble_eq_true rfl⟩ ⟨Nat.le_of_ble_eq_true rfl, Nat.le_of_ble_eq_true rfl⟩
    · obtain ⟨n_1, e_2, e_1, rfl⟩ := nI_ofge (c := 1) (by omega) c_2
      refine z_iload_n B dX11_requirePackets_13 rfl 1 rfl ?_
      refine z_ldc (v := 65535) B (by decide +kernel) dX11_requirePackets_14 ?_
      refine z_icmp_gt (tgt := 31) B dX11_requirePackets_16 rfl (fun c_3 => ?_) (fun c_3 => ?_)
      · have e_3 : 65535 < n_1 := (nI_ltI (a := 65535) (b := n_1) (by omega) (by omega)).mp c_3
        have k_3 : (nI n_1).toInt = ((n_1 : Nat) : Int) := nI_toInt (by omega)
        have k_4 : (0 : Int32).toInt = 0 := by decide
        have q_3 : ¬ ((lg_cmp a (-1)).toInt = (0 : Int32).toInt) := fun h9 => c_1 (Int32.toInt_inj.mp h9)
        have k_5 : (1 : Int32).toInt = 1 := by decide
        have q_4 : ¬ ((nI n_1).toInt < (1 : Int32).toInt) := fun h9 => c_2 (Int32.lt_iff_toInt_lt.mpr h9)
        have k_6 : (65535 : Int32).toInt = 65535 := by decide
        have q_5 : ((65535 : Int32).toInt < (nI n_1).toInt) := Int32.lt_iff_toInt_lt.mp c_3
        exact zb_throw (cls := xIA) (ik := 116) (ic := 118) B hl9 htab9 (by decide) ⟨(Or.inr (by omega)), hI, (fun b9 h9 => rfl)⟩ (by decide) (by decide +kernel) (by decide +kernel) (by decide +kernel) (by decide +kernel) (by decide +kernel) (by decide +kernel) (by decide +kernel) dX11_requirePackets_31 dX11_requirePackets_34 dX11_requirePackets_35 dX11_requirePackets_38 ⟨Nat.le_of_ble_eq_true rfl, Nat.le_of_ble_eq_true rfl, Nat.le_of_ble_eq_true rfl, Nat.le_of_ble_eq_true rfl⟩ ⟨Nat.le_of_ble_eq_true rfl, Nat.le_of_ble_eq_true rfl⟩
      · have e_4 : ¬ (65535 < n_1) := fun h9 => c_3 ((nI_ltI (a := 65535) (b := n_1) (by omega) (by omega)).mpr h9)
        refine z_iload_n B dX11_requirePackets_19 rfl 2 rfl ?_
        refine z_iconst (v := 1) B dX11_requirePackets_20 rfl ?_
        refine z_icmp_lt (tgt := 31) B dX11_requirePackets_21 rfl (fun c_4 => ?_) (fun c_4 => ?_)
        · have k_7 : (nI n_1).toInt = ((n_1 : Nat) : Int) := nI_toInt (by omega)
          have k_8 : (0 : Int32).toInt = 0 := by decide
          have q_6 : ¬ ((lg_cmp a (-1)).toInt = (0 : Int32).toInt) := fun h9 => c_1 (Int32.toInt_inj.mp h9)
          have k_9 : (1 : Int32).toInt = 1 := by decide
          have q_7 : ¬ ((nI n_1).toInt < (1 : Int32).toInt) := fun h9 => c_2 (Int32.lt_iff_toInt_lt.mpr h9)
          have k_10 : (65535 : Int32).toInt = 65535 := by decide
          have q_8 : ¬ ((65535 : Int32).toInt < (nI n_1).toInt) := fun h9 => c_3 (Int32.lt_iff_toInt_lt.mpr h9)
          have q_9 : (d.toInt < (1 : Int32).toInt) := Int32.lt_iff_toInt_lt.mp c_4
          exact zb_throw (cls := xIA) (ik := 116) (ic := 118) B hl9 htab9 (by decide) ⟨(Or.inr (by omega)), hI, (fun b9 h9 => rfl)⟩ (by decide) (by decide +kernel) (by decide +kernel) (by decide +kernel) (by decide +kernel) (by decide +kernel) (by decide +kernel) (by decide +kernel) dX11_requirePackets_31 dX11_requirePackets_34 dX11_requirePackets_35 dX11_requirePackets_38 ⟨Nat.le_of_ble_eq_true rfl, Nat.le_of_ble_eq_true rfl, Nat.le_of_ble_eq_true rfl, Nat.le_of_ble_eq_true rfl⟩ ⟨Nat.le_of_ble_eq_true rfl, Nat.le_of_ble_eq_true rfl⟩
        · obtain ⟨n_2, e_6, e_5, rfl⟩ := nI_ofge (c := 1) (by omega) c_4
          refine z_iload_n B dX11_requirePackets_24 rfl 2 rfl ?_
          refine z_sipush (v := 200) B dX11_requirePackets_25 rfl ?_
          refine z_icmp_le (tgt := 39) B dX11_requirePackets_28 rfl (fun c_5 => ?_) (fun c_5 => ?_)
          · have e_7 : n_2 ≤ 200 := (nI_leI (a := n_2) (b := 200) (by omega) (by omega)).mp c_5
            have k_11 : (nI n_1).toInt = ((n_1 : Nat) : Int) := nI_toInt (by omega)
            have k_12 : (nI n_2).toInt = ((n_2 : Nat) : Int) := nI_toInt (by omega)
            have k_13 : (0 : Int32).toInt = 0 := by decide
            have q_10 : ¬ ((lg_cmp a (-1)).toInt = (0 : Int32).toInt) := fun h9 => c_1 (Int32.toInt_inj.mp h9)
            have k_14 : (1 : Int32).toInt = 1 := by decide
            have q_11 : ¬ ((nI n_1).toInt < (1 : Int32).toInt) := fun h9 => c_2 (Int32.lt_iff_toInt_lt.mpr h9)
            have k_15 : (65535 : Int32).toInt = 65535 := by decide
            have q_12 : ¬ ((65535 : Int32).toInt < (nI n_1).toInt) := fun h9 => c_3 (Int32.lt_iff_toInt_lt.mpr h9)
            have q_13 : ¬ ((nI n_2).toInt < (1 : Int32).toInt) := fun h9 => c_4 (Int32.lt_iff_toInt_lt.mpr h9)
            have k_16 : (200 : Int32).toInt = 200 := by decide
            have q_14 : ((nI n_2).toInt ≤ (200 : Int32).toInt) := Int32.le_iff_toInt_le.mp c_5
            exact zb_ret (Nat.le_of_ble_eq_true rfl) (Nat.le_of_ble_eq_true rfl) (z_ret_v B dX11_requirePackets_39 ⟨⟨rfl, ⟨n_2, (show n_2 ≤ 200 by omega), rfl⟩, (fun h9 => h9.elim (fun h8 => c_1 ((lg_cmp_eq _ _).mpr h8)) (fun h8 => by omega))⟩, rfl, hI, (fun b9 h9 => rfl)⟩)
          · have e_8 : ¬ (n_2 ≤ 200) := fun h9 => c_5 ((nI_leI (a := n_2) (b := 200) (by omega) (by omega)).mpr h9)
            have k_17 : (nI n_1).toInt = ((n_1 : Nat) : Int) := nI_toInt (by omega)
            have k_18 : (nI n_2).toInt = ((n_2 : Nat) : Int) := nI_toInt (by omega)
            have k_19 : (0 : Int32).toInt = 0 := by decide
            have q_15 : ¬ ((lg_cmp a (-1)).toInt = (0 : Int32).toInt) := fun h9 => c_1 (Int32.toInt_inj.mp h9)
            have k_20 : (1 : Int32).toInt = 1 := by decide
            have q_16 : ¬ ((nI n_1).toInt < (1 : Int32).toInt) := fun h9 => c_2 (Int32.lt_iff_toInt_lt.mpr h9)
            have k_21 : (65535 : Int32).toInt = 65535 := by decide
            have q_17 : ¬ ((65535 : Int32).toInt < (nI n_1).toInt) := fun h9 => c_3 (Int32.lt_iff_toInt_lt.mpr h9)
            have q_18 : ¬ ((nI n_2).toInt < (1 : Int32).toInt) := fun h9 => c_4 (Int32.lt_iff_toInt_lt.mpr h9)
            have k_22 : (200 : Int32).toInt = 200 := by decide
            have q_19 : ¬ ((nI n_2).toInt ≤ (200 : Int32).toInt) := fun h9 => c_5 (Int32.le_iff_toInt_le.mpr h9)
            exact zb_throw (cls := xIA) (ik := 116) (ic := 118) B hl9 htab9 (by decide) ⟨(Or.inr (by omega)), hI, (fun b9 h9 => rfl)⟩ (by decide) (by decide +kernel) (by decide +kernel) (by decide +kernel) (by decide +kernel) (by decide +kernel) (by decide +kernel) (by decide +kernel) dX11_requirePackets_31 dX11_requirePackets_34 dX11_requirePackets_35 dX11_requirePackets_38 ⟨Nat.le_of_ble_eq_true rfl, Nat.le_of_ble_eq_true rfl, Nat.le_of_ble_eq_true rfl, Nat.le_of_ble_eq_true rfl⟩ ⟨Nat.le_of_ble_eq_true rfl, Nat.le_of_ble_eq_true rfl⟩

set_option maxHeartbeats 4000000 in
set_option maxRecDepth 100000 in
theorem s_X11_requireWhat (G : EnvG) (l : Launch) (hl9 : l.stackTraces = false) (Φ : Hm) (sz x ca : Nat) (a : Int32) (hx : G.2.2.2 ≤ x) (hI : In G x ca Φ)  : CtB G l yX11_requireWhat wsX11_requireWhat ({ frames := 6, cells := 1, slots := 6, locals := 81 }) 1 6 [.int a] Φ sz (fun v Φ1 sz1 => (v = none) ∧ sz1 = sz ∧ In G x (ca) Φ1 ∧ Fr x (fun j9 => False) Φ Φ1) (fun Φ1 => In G x ca Φ1 ∧ Fr x (fun j9 => False) Φ Φ1) [xIA] := by
  refine CtB.of (cc := cX11_requireWhat) (maxL := 1) (ret := none) (by decide) rfl (Nat.le_of_ble_eq_true rfl) ?_
  intro p9 e9 s9 m9 w9 t9 k9 B htab9
  show Z p9 l e9 _ s9 m9 _ w9 t9 k9 _ G 1 0 [(0, .int a)] [] Φ sz 0 0
  refine z_iload_n B dX11_requireWhat_0 rfl 0 rfl ?_
  refine z_if_eq (tgt := 17) B dX11_requireWhat_1 rfl (fun c_1 => ?_) (fun c_1 => ?_)
  · exact zb_ret (Nat.le_of_ble_eq_true rfl) (Nat.le_of_ble_eq_true rfl) (z_ret_v B dX11_requireWhat_17 ⟨rfl, rfl, hI, (fun b9 h9 => rfl)⟩)
  · refine z_iload_n B dX11_requireWhat_4 rfl 0 rfl ?_
    refine z_iconst (v := 1) B dX11_requireWhat_5 rfl ?_
    refine z_icmp_eq (tgt := 17) B dX11_requireWhat_6 rfl (fun c_2 => ?_) (fun c_2 => ?_)
    · exact zb_ret (Nat.le_of_ble_eq_true rfl) (Nat.le_of_ble_eq_true rfl) (z_ret_v B dX11_requireWhat_17 ⟨rfl, rfl, hI, (fun b9 h9 => rfl)⟩)
    · exact zb_throw (cls := xIA) (ik := 116) (ic := 118) B hl9 htab9 (by decide) ⟨hI, (fun b9 h9 => rfl)⟩ (by decide) (by decide +kernel) (by decide +kernel) (by decide +kernel) (by decide +kernel) (by decide +kernel) (by decide +kernel) (by decide +kernel) dX11_requireWhat_9 dX11_requireWhat_12 dX11_requireWhat_13 dX11_requireWhat_16 ⟨Nat.le_of_ble_eq_true rfl, Nat.le_of_ble_eq_true rfl, Nat.le_of_ble_eq_true rfl, Nat.le_of_ble_eq_true rfl⟩ ⟨Nat.le_of_ble_eq_true rfl, Nat.le_of_ble_eq_true rfl⟩

theorem hu_X11_requireTemplate_X11 : ∀ w ∈ u_ws RX11 TX11 8, w ∈ wsX11_requireTemplate := fun _ h => List.mem_cons_of_mem _ (List.mem_append_left _ (List.mem_append_left _ (List.mem_append_right _ (h))))

theorem hv_X11_requireTemplate_21 : Cond.fieldLink RX11 21 "FlowExporter" (TX11 1).2.1 (TX11 1).2.2.1 ∈ wsX11_requireTemplate := List.mem_cons_of_mem _ (List.mem_append_left _ (List.mem_append_left _ (List.mem_append_left _ (List.mem_of_getElem? (i := 2) rfl))))

theorem hu_X11_requireTemplate_X1 : ∀ w ∈ u_ws RX1 TX1 6, w ∈ wsX11_requireTemplate := fun _ h => List.mem_cons_of_mem _ (List.mem_append_left _ (List.mem_append_right _ (h)))

theorem hv_X11_requireTemplate_191 : Cond.fieldLink RX11 191 "FlowExporter$Config" (TX1 4).2.1 (TX1 4).2.2.1 ∈ wsX11_requireTemplate := List.mem_cons_of_mem _ (List.mem_append_left _ (List.mem_append_left _ (List.mem_append_left _ (List.mem_of_getElem? (i := 3) rfl))))

set_option maxHeartbeats 4000000 in
set_option maxRecDepth 100000 in
theorem s_X11_requireTemplate (G : EnvG) (l : Launch) (hl9 : l.stackTraces = false) (Φ : Hm) (sz x ca : Nat) (a : Int32) (hx : G.2.2.2 ≤ x) (hI : In G x ca Φ)  : CtB G l yX11_requireTemplate wsX11_requireTemplate ({ frames := 6, cells := 1, slots := 6, locals := 81 }) 1 6 [.ref x, .int a] Φ sz (fun v Φ1 sz1 => (v = none) ∧ sz1 = sz ∧ In G x (ca) Φ1 ∧ Fr x (fun j9 => False) Φ Φ1) (fun Φ1 => In G x ca Φ1 ∧ Fr x (fun j9 => False) Φ Φ1) [xIO] := by
  refine CtB.of (cc := cX11_requireTemplate) (maxL := 2) (ret := none) (by decide) rfl (Nat.le_of_ble_eq_true rfl) ?_
  intro p9 e9 s9 m9 w9 t9 k9 B htab9
  show Z p9 l e9 _ s9 m9 _ w9 t9 k9 _ G 2 0 [(0, .ref x), (1, .int a)] [] Φ sz 0 0
  refine z_iload_n B dX11_requireTemplate_0 rfl 1 rfl ?_
  refine z_if_lt (tgt := 15) B dX11_requireTemplate_1 rfl (fun c_1 => ?_) (fun c_1 => ?_)
  · exact zb_throw (cls := xIO) (ik := 153) (ic := 155) B hl9 htab9 (by decide) ⟨hI, (fun b9 h9 => rfl)⟩ (by decide) (by decide +kernel) (by decide +kernel) (by decide +kernel) (by decide +kernel) (by decide +kernel) (by decide +kernel) (by decide +kernel) dX11_requireTemplate_15 dX11_requireTemplate_18 dX11_requireTemplate_19 dX11_requireTemplate_22 ⟨Nat.le_of_ble_eq_true rfl, Nat.le_of_ble_eq_true rfl, Nat.le_of_ble_eq_true rfl, Nat.le_of_ble_eq_true rfl⟩ ⟨Nat.le_of_ble_eq_true rfl, Nat.le_of_ble_eq_true rfl⟩
  · obtain ⟨n_1, e_1, rfl⟩ := nI_of c_1
    refine z_iload_n B dX11_requireTemplate_4 rfl 1 rfl ?_
    refine z_aload_n B dX11_requireTemplate_5 rfl 0 rfl ?_
    have h_1 := in0 (k := 0) hI rfl
    have h_2 : Φ x = some (o_ 13 [.ref (x + 1), .ref (x + 3), .ref (x + 24), .ref (x + 46), .ref (x + 74), .ref (x + 80), .ref (x + 132), .ref (x + 121)]) := h_1
    refine z_get (ref := "FlowExporter") (C := RX11) (T := TX11) (N := 8) (ci := 13) (v := .ref (x + 3)) B hu_X11_requireTemplate_X11 rfl 1 (Nat.le_of_ble_eq_true rfl) hv_X11_requireTemplate_21 rfl h_2 rfl dX11_requireTemplate_6 ?_
    obtain ⟨v_1, v_2, h_3⟩ := in3 (k := 3) hI rfl
    have h_4 : Φ (x + 3) = some (o_ 3 [.ref (x + 4), .ref (x + 5), .ref (x + 6), .ref (x + 7), .int v_1, .int v_2]) := h_3
    refine z_get (ref := "FlowExporter$Config") (C := RX1) (T := TX1) (N := 6) (ci := 3) (v := .int v_1) B hu_X11_requireTemplate_X1 rfl 4 (Nat.le_of_ble_eq_true rfl) hv_X11_requireTemplate_191 rfl h_4 rfl dX11_requireTemplate_9 ?_
    refine z_icmp_lt (tgt := 23) B dX11_requireTemplate_12 rfl (fun c_2 => ?_) (fun c_2 => ?_)
    · exact zb_ret (Nat.le_of_ble_eq_true rfl) (Nat.le_of_ble_eq_true rfl) (z_ret_v B dX11_requireTemplate_23 ⟨rfl, rfl, hI, (fun b9 h9 => rfl)⟩)
    · exact zb_throw (cls := xIO) (ik := 153) (ic := 155) B hl9 htab9 (by decide) ⟨hI, (fun b9 h9 => rfl)⟩ (by decide) (by decide +kernel) (by decide +kernel) (by decide +kernel) (by decide +kernel) (by decide +kernel) (by decide +kernel) (by decide +kernel) dX11_requireTemplate_15 dX11_requireTemplate_18 dX11_requireTemplate_19 dX11_requireTemplate_22 ⟨Nat.le_of_ble_eq_true rfl, Nat.le_of_ble_eq_true rfl, Nat.le_of_ble_eq_true rfl, Nat.le_of_ble_eq_true rfl⟩ ⟨Nat.le_of_ble_eq_true rfl, Nat.le_of_ble_eq_true rfl⟩

theorem hu_X11_requireMessage_X11 : ∀ w ∈ u_ws RX11 TX11 8, w ∈ wsX11_requireMessage := fun _ h => List.mem_cons_of_mem _ (List.mem_append_left _ (List.mem_append_left _ (List.mem_append_right _ (h))))

theorem hv_X11_requireMessage_37 : Cond.fieldLink RX11 37 "FlowExporter" (TX11 3).2.1 (TX11 3).2.2.1 ∈ wsX11_requireMessage := List.mem_cons_of_mem _ (List.mem_append_left _ (List.mem_append_left _ (List.mem_append_left _ (List.mem_of_getElem? (i := 2) rfl))))

theorem hu_X11_requireMessage_X7 : ∀ w ∈ u_ws RX7 TX7 3, w ∈ wsX11_requireMessage := fun _ h => List.mem_cons_of_mem _ (List.mem_append_left _ (List.mem_append_right _ (h)))

theorem hv_X11_requireMessage_231 : Cond.fieldLink RX11 231 "FlowExporter$Queue" (TX7 1).2.1 (TX7 1).2.2.1 ∈ wsX11_requireMessage := List.mem_cons_of_mem _ (List.mem_append_left _ (List.mem_append_left _ (List.mem_append_left _ (List.mem_of_getElem? (i := 3) rfl))))

set_option maxHeartbeats 4000000 in
set_option maxRecDepth 100000 in
theorem s_X11_requireMessage (G : EnvG) (l : Launch) (hl9 : l.stackTraces = false) (Φ : Hm) (sz x ca : Nat) (a : Int32) (hx : G.2.2.2 ≤ x) (hI : In G x ca Φ)  : CtB G l yX11_requireMessage wsX11_requireMessage ({ frames := 6, cells := 1, slots := 6, locals := 81 }) 1 6 [.ref x, .int a] Φ sz (fun v Φ1 sz1 => (v = none) ∧ sz1 = sz ∧ In G x (ca) Φ1 ∧ Fr x (fun j9 => False) Φ Φ1) (fun Φ1 => In G x ca Φ1 ∧ Fr x (fun j9 => False) Φ Φ1) [xIO] := by
  refine CtB.of (cc := cX11_requireMessage) (maxL := 2) (ret := none) (by decide) rfl (Nat.le_of_ble_eq_true rfl) ?_
  intro p9 e9 s9 m9 w9 t9 k9 B htab9
  show Z p9 l e9 _ s9 m9 _ w9 t9 k9 _ G 2 0 [(0, .ref x), (1, .int a)] [] Φ sz 0 0
  refine z_iload_n B dX11_requireMessage_0 rfl 1 rfl ?_
  refine z_if_lt (tgt := 15) B dX11_requireMessage_1 rfl (fun c_1 => ?_) (fun c_1 => ?_)
  · exact zb_throw (cls := xIO) (ik := 153) (ic := 155) B hl9 htab9 (by decide) ⟨hI, (fun b9 h9 => rfl)⟩ (by decide) (by decide +kernel) (by decide +kernel) (by decide +kernel) (by decide +kernel) (by decide +kernel) (by decide +kernel) (by decide +kernel) dX11_requireMessage_15 dX11_requireMessage_18 dX11_requireMessage_19 dX11_requireMessage_22 ⟨Nat.le_of_ble_eq_true rfl, Nat.le_of_ble_eq_true rfl, Nat.le_of_ble_eq_true rfl, Nat.le_of_ble_eq_true rfl⟩ ⟨Nat.le_of_ble_eq_true rfl, Nat.le_of_ble_eq_true rfl⟩
  · obtain ⟨n_1, e_1, rfl⟩ := nI_of c_1
    refine z_iload_n B dX11_requireMessage_4 rfl 1 rfl ?_
    refine z_aload_n B dX11_requireMessage_5 rfl 0 rfl ?_
    have h_1 := in0 (k := 0) hI rfl
    have h_2 : Φ x = some (o_ 13 [.ref (x + 1), .ref (x + 3), .ref (x + 24), .ref (x + 46), .ref (x + 74), .ref (x + 80), .ref (x + 132), .ref (x + 121)]) := h_1
    refine z_get (ref := "FlowExporter") (C := RX11) (T := TX11) (N := 8) (ci := 13) (v := .ref (x + 46)) B hu_X11_requireMessage_X11 rfl 3 (Nat.le_of_ble_eq_true rfl) hv_X11_requireMessage_37 rfl h_2 rfl dX11_requireMessage_6 ?_
    obtain ⟨n_2, v_1, h_3, b_1⟩ := in11 (k := 46) hI rfl
    have h_4 : Φ (x + 46) = some (o_ 9 [.ref (x + 47), .int (nI n_2), .int v_1]) := h_3
    refine z_get (ref := "FlowExporter$Queue") (C := RX7) (T := TX7) (N := 3) (ci := 9) (v := .int (nI n_2)) B hu_X11_requireMessage_X7 rfl 1 (Nat.le_of_ble_eq_true rfl) hv_X11_requireMessage_231 rfl h_4 rfl dX11_requireMessage_9 ?_
    refine z_icmp_lt (tgt := 23) B dX11_requireMessage_12 rfl (fun c_2 => ?_) (fun c_2 => ?_)
    · have e_2 : n_1 < n_2 := (nI_ltI (a := n_1) (b := n_2) (by omega) (by omega)).mp c_2
      exact zb_ret (Nat.le_of_ble_eq_true rfl) (Nat.le_of_ble_eq_true rfl) (z_ret_v B dX11_requireMessage_23 ⟨rfl, rfl, hI, (fun b9 h9 => rfl)⟩)
    · have e_3 : ¬ (n_1 < n_2) := fun h9 => c_2 ((nI_ltI (a := n_1) (b := n_2) (by omega) (by omega)).mpr h9)
      exact zb_throw (cls := xIO) (ik := 153) (ic := 155) B hl9 htab9 (by decide) ⟨hI, (fun b9 h9 => rfl)⟩ (by decide) (by decide +kernel) (by decide +kernel) (by decide +kernel) (by decide +kernel) (by decide +kernel) (by decide +kernel) (by decide +kernel) dX11_requireMessage_15 dX11_requireMessage_18 dX11_requireMessage_19 dX11_requireMessage_22 ⟨Nat.le_of_ble_eq_true rfl, Nat.le_of_ble_eq_true rfl, Nat.le_of_ble_eq_true rfl, Nat.le_of_ble_eq_true rfl⟩ ⟨Nat.le_of_ble_eq_true rfl, Nat.le_of_ble_eq_true rfl⟩

theorem hu_X11_requireKey_X11 : ∀ w ∈ u_ws RX11 TX11 8, w ∈ wsX11_requireKey := fun _ h => List.mem_cons_of_mem _ (List.mem_append_left _ (List.mem_append_left _ (List.mem_append_right _ (h))))

theorem hv_X11_requireKey_62 : Cond.fieldLink RX11 62 "FlowExporter" (TX11 7).2.1 (TX11 7).2.2.1 ∈ wsX11_requireKey := List.mem_cons_of_mem _ (List.mem_append_left _ (List.mem_append_left _ (List.mem_append_left _ (List.mem_of_getElem? (i := 2) rfl))))

theorem hu_X11_requireKey_X9 : ∀ w ∈ u_ws RX9 TX9 5, w ∈ wsX11_requireKey := fun _ h => List.mem_cons_of_mem _ (List.mem_append_left _ (List.mem_append_right _ (h)))

theorem hv_X11_requireKey_92 : Cond.fieldLink RX11 92 "FlowExporter$Sums" (TX9 4).2.1 (TX9 4).2.2.1 ∈ wsX11_requireKey := List.mem_cons_of_mem _ (List.mem_append_left _ (List.mem_append_left _ (List.mem_append_left _ (List.mem_of_getElem? (i := 3) rfl))))

set_option maxHeartbeats 4000000 in
set_option maxRecDepth 100000 in
theorem s_X11_requireKey (G : EnvG) (l : Launch) (hl9 : l.stackTraces = false) (Φ : Hm) (sz x ca : Nat) (a : Int32) (hx : G.2.2.2 ≤ x) (hI : In G x ca Φ)  : CtB G l yX11_requireKey wsX11_requireKey ({ frames := 6, cells := 1, slots := 6, locals := 81 }) 1 6 [.ref x, .int a] Φ sz (fun v Φ1 sz1 => (v = none) ∧ sz1 = sz ∧ In G x (ca) Φ1 ∧ Fr x (fun j9 => False) Φ Φ1) (fun Φ1 => In G x ca Φ1 ∧ Fr x (fun j9 => False) Φ Φ1) [xIO] := by
  refine CtB.of (cc := cX11_requireKey) (maxL := 2) (ret := none) (by decide) rfl (Nat.le_of_ble_eq_true rfl) ?_
  intro p9 e9 s9 m9 w9 t9 k9 B htab9
  show Z p9 l e9 _ s9 m9 _ w9 t9 k9 _ G 2 0 [(0, .ref x), (1, .int a)] [] Φ sz 0 0
  refine z_iload_n B dX11_requireKey_0 rfl 1 rfl ?_
  refine z_if_lt (tgt := 15) B dX11_requireKey_1 rfl (fun c_1 => ?_) (fun c_1 => ?_)
  · exact zb_throw (cls := xIO) (ik := 153) (ic := 155) B hl9 htab9 (by decide) ⟨hI, (fun b9 h9 => rfl)⟩ (by decide) (by decide +kernel) (by decide +kernel) (by decide +kernel) (by decide +kernel) (by decide +kernel) (by decide +kernel) (by decide +kernel) dX11_requireKey_15 dX11_requireKey_18 dX11_requireKey_19 dX11_requireKey_22 ⟨Nat.le_of_ble_eq_true rfl, Nat.le_of_ble_eq_true rfl, Nat.le_of_ble_eq_true rfl, Nat.le_of_ble_eq_true rfl⟩ ⟨Nat.le_of_ble_eq_true rfl, Nat.le_of_ble_eq_true rfl⟩
  · obtain ⟨n_1, e_1, rfl⟩ := nI_of c_1
    refine z_iload_n B dX11_requireKey_4 rfl 1 rfl ?_
    refine z_aload_n B dX11_requireKey_5 rfl 0 rfl ?_
    have h_1 := in0 (k := 0) hI rfl
    have h_2 : Φ x = some (o_ 13 [.ref (x + 1), .ref (x + 3), .ref (x + 24), .ref (x + 46), .ref (x + 74), .ref (x + 80), .ref (x + 132), .ref (x + 121)]) := h_1
    refine z_get (ref := "FlowExporter") (C := RX11) (T := TX11) (N := 8) (ci := 13) (v := .ref (x + 121)) B hu_X11_requireKey_X11 rfl 7 (Nat.le_of_ble_eq_true rfl) hv_X11_requireKey_62 rfl h_2 rfl dX11_requireKey_6 ?_
    obtain ⟨n_2, h_3, b_1⟩ := in20 (k := 121) hI rfl
    have h_4 : Φ (x + 121) = some (o_ 11 [.ref (x + 122), .ref (x + 123), .ref (x + 126), .ref (x + 129), .int (nI n_2)]) := h_3
    refine z_get (ref := "FlowExporter$Sums") (C := RX9) (T := TX9) (N := 5) (ci := 11) (v := .int (nI n_2)) B hu_X11_requireKey_X9 rfl 4 (Nat.le_of_ble_eq_true rfl) hv_X11_requireKey_92 rfl h_4 rfl dX11_requireKey_9 ?_
    refine z_icmp_lt (tgt := 23) B dX11_requireKey_12 rfl (fun c_2 => ?_) (fun c_2 => ?_)
    · have e_2 : n_1 < n_2 := (nI_ltI (a := n_1) (b := n_2) (by omega) (by omega)).mp c_2
      exact zb_ret (Nat.le_of_ble_eq_true rfl) (Nat.le_of_ble_eq_true rfl) (z_ret_v B dX11_requireKey_23 ⟨rfl, rfl, hI, (fun b9 h9 => rfl)⟩)
    · have e_3 : ¬ (n_1 < n_2) := fun h9 => c_2 ((nI_ltI (a := n_1) (b := n_2) (by omega) (by omega)).mpr h9)
      exact zb_throw (cls := xIO) (ik := 153) (ic := 155) B hl9 htab9 (by decide) ⟨hI, (fun b9 h9 => rfl)⟩ (by decide) (by decide +kernel) (by decide +kernel) (by decide +kernel) (by decide +kernel) (by decide +kernel) (by decide +kernel) (by decide +kernel) dX11_requireKey_15 dX11_requireKey_18 dX11_requireKey_19 dX11_requireKey_22 ⟨Nat.le_of_ble_eq_true rfl, Nat.le_of_ble_eq_true rfl, Nat.le_of_ble_eq_true rfl, Nat.le_of_ble_eq_true rfl⟩ ⟨Nat.le_of_ble_eq_true rfl, Nat.le_of_ble_eq_true rfl⟩

theorem hu_X11_templateFields_X11 : ∀ w ∈ u_ws RX11 TX11 8, w ∈ wsX11_templateFields := fun _ h => List.mem_cons_of_mem _ (List.mem_append_left _ (List.mem_append_left _ (List.mem_append_left _ (List.mem_append_right _ (h)))))

theorem hv_X11_templateFields_21 : Cond.fieldLink RX11 21 "FlowExporter" (TX11 1).2.1 (TX11 1).2.2.1 ∈ wsX11_templateFields := List.mem_cons_of_mem _ (List.mem_append_left _ (List.mem_append_left _ (List.mem_append_left _ (List.mem_append_left _ (List.mem_of_getElem? (i := 0) rfl)))))

theorem hu_X11_templateFields_X10 : ∀ w ∈ u_ws RX10 TX10 4, w ∈ wsX11_templateFields := fun _ h => List.mem_cons_of_mem _ (List.mem_append_left _ (List.mem_append_left _ (List.mem_append_right _ (h))))

theorem hv_X11_templateFields_201 : Cond.fieldLink RX11 201 "FlowExporter$Template" (TX10 2).2.1 (TX10 2).2.2.1 ∈ wsX11_templateFields := List.mem_cons_of_mem _ (List.mem_append_left _ (List.mem_append_left _ (List.mem_append_left _ (List.mem_append_left _ (List.mem_of_getElem? (i := 1) rfl)))))

theorem hu_X11_effectiveFields_X11 : ∀ w ∈ u_ws RX11 TX11 8, w ∈ wsX11_effectiveFields := fun _ h => List.mem_cons_of_mem _ (List.mem_append_left _ (List.mem_append_left _ (List.mem_append_left _ (List.mem_append_right _ (h)))))

theorem hv_X11_effectiveFields_21 : Cond.fieldLink RX11 21 "FlowExporter" (TX11 1).2.1 (TX11 1).2.2.1 ∈ wsX11_effectiveFields := List.mem_cons_of_mem _ (List.mem_append_left _ (List.mem_append_left _ (List.mem_append_left _ (List.mem_append_left _ (List.mem_of_getElem? (i := 0) rfl)))))

theorem hu_X11_effectiveFields_X10 : ∀ w ∈ u_ws RX10 TX10 4, w ∈ wsX11_effectiveFields := fun _ h => List.mem_cons_of_mem _ (List.mem_append_left _ (List.mem_append_left _ (List.mem_append_right _ (h))))

theorem hv_X11_effectiveFields_201 : Cond.fieldLink RX11 201 "FlowExporter$Template" (TX10 2).2.1 (TX10 2).2.2.1 ∈ wsX11_effectiveFields := List.mem_cons_of_mem _ (List.mem_append_left _ (List.mem_append_left _ (List.mem_append_left _ (List.mem_append_left _ (List.mem_of_getElem? (i := 1) rfl)))))

theorem hu_X11_recordLength_X11 : ∀ w ∈ u_ws RX11 TX11 8, w ∈ wsX11_recordLength := fun _ h => List.mem_cons_of_mem _ (List.mem_append_left _ (List.mem_append_left _ (List.mem_append_left _ (List.mem_append_right _ (h)))))

theorem hv_X11_recordLength_21 : Cond.fieldLink RX11 21 "FlowExporter" (TX11 1).2.1 (TX11 1).2.2.1 ∈ wsX11_recordLength := List.mem_cons_of_mem _ (List.mem_append_left _ (List.mem_append_left _ (List.mem_append_left _ (List.mem_append_left _ (List.mem_of_getElem? (i := 0) rfl)))))

theorem hu_X11_recordLength_X10 : ∀ w ∈ u_ws RX10 TX10 4, w ∈ wsX11_recordLength := fun _ h => List.mem_cons_of_mem _ (List.mem_append_left _ (List.mem_append_left _ (List.mem_append_right _ (h))))

theorem hv_X11_recordLength_212 : Cond.fieldLink RX11 212 "FlowExporter$Template" (TX10 3).2.1 (TX10 3).2.2.1 ∈ wsX11_recordLength := List.mem_cons_of_mem _ (List.mem_append_left _ (List.mem_append_left _ (List.mem_append_left _ (List.mem_append_left _ (List.mem_of_getElem? (i := 1) rfl)))))

theorem hu_X11_isDue_X11 : ∀ w ∈ u_ws RX11 TX11 8, w ∈ wsX11_isDue := fun _ h => List.mem_cons_of_mem _ (List.mem_append_left _ (List.mem_append_left _ (List.mem_append_left _ (List.mem_append_left _ (List.mem_append_left _ (List.mem_append_left _ (List.mem_append_right _ (h))))))))

theorem hv_X11_isDue_46 : Cond.fieldLink RX11 46 "FlowExporter" (TX11 4).2.1 (TX11 4).2.2.1 ∈ wsX11_isDue := List.mem_cons_of_mem _ (List.mem_append_left _ (List.mem_append_left _ (List.mem_append_left _ (List.mem_append_left _ (List.mem_append_left _ (List.mem_append_left _ (List.mem_append_left _ (List.mem_append_left _ (List.mem_of_getElem? (i := 0) rfl)))))))))

theorem hv_X11_isDue_55 : Cond.fieldLink RX11 55 "FlowExporter" (TX11 5).2.1 (TX11 5).2.2.1 ∈ wsX11_isDue := List.mem_cons_of_mem _ (List.mem_append_left _ (List.mem_append_left _ (List.mem_append_left _ (List.mem_append_left _ (List.mem_append_left _ (List.mem_append_left _ (List.mem_append_left _ (List.mem_append_left _ (List.mem_of_getElem? (i := 1) rfl)))))))))

theorem hu_X11_isDue_X2 : ∀ w ∈ u_ws RX2 TX2 13, w ∈ wsX11_isDue := fun _ h => List.mem_cons_of_mem _ (List.mem_append_left _ (List.mem_append_left _ (List.mem_append_left _ (List.mem_append_left _ (List.mem_append_left _ (List.mem_append_right _ (h)))))))

theorem hv_X11_isDue_110 : Cond.fieldLink RX11 110 "FlowExporter$Exporter" (TX2 4).2.1 (TX2 4).2.2.1 ∈ wsX11_isDue := List.mem_cons_of_mem _ (List.mem_append_left _ (List.mem_append_left _ (List.mem_append_left _ (List.mem_append_left _ (List.mem_append_left _ (List.mem_append_left _ (List.mem_append_left _ (List.mem_append_left _ (List.mem_of_getElem? (i := 2) rfl)))))))))

set_option maxHeartbeats 4000000 in
set_option maxRecDepth 100000 in
theorem s_X11_isDue (G : EnvG) (l : Launch) (hl9 : l.stackTraces = false) (Φ : Hm) (sz x ca : Nat) (a : Int32) (hx : G.2.2.2 ≤ x) (hI : In G x ca Φ)  : CtB G l yX11_isDue wsX11_isDue ({ frames := 7, cells := 1, slots := 6, locals := 102 }) 1 6 [.ref x, .int a] Φ sz (fun v Φ1 sz1 => (∃ r9 : Int32, v = some (.int r9) ∧ (r9 = 0 ∨ r9 = 1)) ∧ sz1 = sz ∧ In G x (ca) Φ1 ∧ Fr x (fun j9 => False) Φ Φ1) (fun Φ1 => In G x ca Φ1 ∧ Fr x (fun j9 => False) Φ Φ1) [xIO] := by
  refine CtB.of (cc := cX11_isDue) (maxL := 2) (ret := (some .boolean)) (by decide) rfl (Nat.le_of_ble_eq_true rfl) ?_
  intro p9 e9 s9 m9 w9 t9 k9 B htab9
  show Z p9 l e9 _ s9 m9 _ w9 t9 k9 _ G 2 0 [(0, .ref x), (1, .int a)] [] Φ sz 0 0
  refine z_aload_n B dX11_isDue_0 rfl 0 rfl ?_
  refine z_iload_n B dX11_isDue_1 rfl 1 rfl ?_
  have h_1 := in0 (k := 0) hI rfl
  have h_2 : Φ x = some (o_ 13 [.ref (x + 1), .ref (x + 3), .ref (x + 24), .ref (x + 46), .ref (x + 74), .ref (x + 80), .ref (x + 132), .ref (x + 121)]) := h_1
  refine zb_callV (As := [.int a]) (rest := []) B htab9 (s_X11_requireTemplate G l hl9 Φ sz x (ca) a hx hI ) (cwV 1 B.1.2.2.2.2 gX11_isDue_X11_requireTemplate rfl rfl rfl (by decide +kernel) ⟨Nat.le_of_ble_eq_true rfl, Nat.le_of_ble_eq_true rfl⟩) h_2 rfl rfl rfl rfl (Nat.le_of_ble_eq_true rfl) dX11_isDue_2 ⟨Nat.le_of_ble_eq_true rfl, Nat.le_of_ble_eq_true rfl⟩ ⟨Nat.le_of_ble_eq_true rfl, Nat.le_of_ble_eq_true rfl⟩ (by decide) (fun Φ9 h9 => ⟨h9.1, fun b9 h8 => ((h9.2 b9 h8).trans ((fun b9 h9 => rfl) b9 h8))⟩) (fun r_1 Φ1 sz1 st1 hp1 hs1 => ?_)
  obtain ⟨rfl, hq1, hI1, hF1⟩ := hp1
  subst sz1
  replace hs1 : st1 = [] := hs1
  subst st1
  replace hI1 : In G x (ca) Φ1 := hI1
  refine z_aload_n B dX11_isDue_5 rfl 0 rfl ?_
  have h_3 : Φ1 x = some (o_ 13 [.ref (x + 1), .ref (x + 3), .ref (x + 24), .ref (x + 46), .ref (x + 74), .ref (x + 80), .ref (x + 132), .ref (x + 121)]) := ((hF1 x (fun j9 h8 h7 => (show False from h7).elim)).trans h_2)
  refine z_get (ref := "FlowExporter") (C := RX11) (T := TX11) (N := 8) (ci := 13) (v := .ref (x + 74)) B hu_X11_isDue_X11 rfl 4 (Nat.le_of_ble_eq_true rfl) hv_X11_isDue_46 rfl h_3 rfl dX11_isDue_6 ?_
  refine z_iload_n B dX11_isDue_9 rfl 1 rfl ?_
  refine z_aload_n B dX11_isDue_10 rfl 0 rfl ?_
  refine z_get (ref := "FlowExporter") (C := RX11) (T := TX11) (N := 8) (ci := 13) (v := .ref (x + 80)) B hu_X11_isDue_X11 rfl 5 (Nat.le_of_ble_eq_true rfl) hv_X11_isDue_55 rfl h_3 rfl dX11_isDue_11 ?_
  obtain ⟨v_1, v_2, v_3, v_4, v_5, v_6, v_7, v_8, v_9, h_4, b_1⟩ := in16 (k := 80) hI1 rfl
  have h_5 : Φ1 (x + 80) = some (o_ 4 [.ref (x + 3), .ref (x + 74), .ref (x + 81), .ref (x + 95), .int v_1, .int v_2, .int v_3, .int v_4, .int v_5, .int v_6, .long v_7, .long v_8, .long v_9]) := h_4
  refine z_get (ref := "FlowExporter$Exporter") (C := RX2) (T := TX2) (N := 13) (ci := 4) (v := .int v_1) B hu_X11_isDue_X2 rfl 4 (Nat.le_of_ble_eq_true rfl) hv_X11_isDue_110 rfl h_5 rfl dX11_isDue_14 ?_
  obtain ⟨n_1, v_10, v_11, v_12, h_6, b_2⟩ := in13 (k := 74) hI1 rfl
  have h_7 : Φ1 (x + 74) = some (o_ 10 [.ref (x + 3), .ref (x + 46), .ref (x + 75), .ref (x + 77), .int (nI n_1), .ref (x + 78), .ref (x + 79), .int v_10, .long v_11, .int v_12]) := h_6
  refine z_callV (As := [.int a, .int v_1]) (rest := []) B (s_X8_mustSend G l Φ1 sz x (ca) a v_1 hx hI1 ) (cwV 2 B.1.2.2.2.2 gX11_isDue_X8_mustSend rfl rfl rfl (by decide +kernel) ⟨Nat.le_of_ble_eq_true rfl, Nat.le_of_ble_eq_true rfl⟩) h_7 rfl rfl rfl rfl (Nat.le_of_ble_eq_true rfl) dX11_isDue_17 ⟨Nat.le_of_ble_eq_true rfl, Nat.le_of_ble_eq_true rfl⟩ (fun r_2 Φ2 sz2 st2 hp2 hs2 => ?_)
  obtain ⟨⟨v_13, rfl, b_3⟩, hq2, hI2, hF2⟩ := hp2
  subst sz2
  replace hs2 : st2 = [.int v_13] := hs2
  subst st2
  replace hI2 : In G x (ca) Φ2 := hI2
  exact zb_ret (Nat.le_of_ble_eq_true rfl) (Nat.le_of_ble_eq_true rfl) (z_ret_z B dX11_isDue_20 b_3 ⟨⟨_, rfl, b_3⟩, rfl, hI2, (fun b9 h9 => ((hF2 b9 (fun j9 h8 h7 => (show False from h7).elim)).trans ((hF1 b9 (fun j9 h8 h7 => (show False from h7).elim)).trans rfl)))⟩)

theorem hu_X11_fieldAt_X11 : ∀ w ∈ u_ws RX11 TX11 8, w ∈ wsX11_fieldAt := fun _ h => List.mem_cons_of_mem _ (List.mem_append_left _ (List.mem_append_left _ (List.mem_append_left _ (List.mem_append_left _ (List.mem_append_right _ (h))))))

theorem hv_X11_fieldAt_21 : Cond.fieldLink RX11 21 "FlowExporter" (TX11 1).2.1 (TX11 1).2.2.1 ∈ wsX11_fieldAt := List.mem_cons_of_mem _ (List.mem_append_left _ (List.mem_append_left _ (List.mem_append_left _ (List.mem_append_left _ (List.mem_append_left _ (List.mem_of_getElem? (i := 0) rfl))))))

theorem hu_X11_messageLength_X11 : ∀ w ∈ u_ws RX11 TX11 8, w ∈ wsX11_messageLength := fun _ h => List.mem_cons_of_mem _ (List.mem_append_left _ (List.mem_append_left _ (List.mem_append_left _ (List.mem_append_right _ (h)))))

theorem hv_X11_messageLength_37 : Cond.fieldLink RX11 37 "FlowExporter" (TX11 3).2.1 (TX11 3).2.2.1 ∈ wsX11_messageLength := List.mem_cons_of_mem _ (List.mem_append_left _ (List.mem_append_left _ (List.mem_append_left _ (List.mem_append_left _ (List.mem_of_getElem? (i := 0) rfl)))))

theorem hu_X11_messageLength_X5 : ∀ w ∈ u_ws RX5 TX5 2, w ∈ wsX11_messageLength := fun _ h => List.mem_cons_of_mem _ (List.mem_append_left _ (List.mem_append_left _ (List.mem_append_right _ (h))))

theorem hv_X11_messageLength_97 : Cond.fieldLink RX11 97 "FlowExporter$Message" (TX5 1).2.1 (TX5 1).2.2.1 ∈ wsX11_messageLength := List.mem_cons_of_mem _ (List.mem_append_left _ (List.mem_append_left _ (List.mem_append_left _ (List.mem_append_left _ (List.mem_of_getElem? (i := 1) rfl)))))

set_option maxHeartbeats 4000000 in
set_option maxRecDepth 100000 in
theorem s_X11_messageLength (G : EnvG) (l : Launch) (hl9 : l.stackTraces = false) (Φ : Hm) (sz x ca : Nat) (a : Int32) (hx : G.2.2.2 ≤ x) (hI : In G x ca Φ)  : CtB G l yX11_messageLength wsX11_messageLength ({ frames := 7, cells := 1, slots := 6, locals := 102 }) 1 6 [.ref x, .int a] Φ sz (fun v Φ1 sz1 => (∃ r9 : Int32, v = some (.int r9)) ∧ sz1 = sz ∧ In G x (ca) Φ1 ∧ Fr x (fun j9 => False) Φ Φ1) (fun Φ1 => In G x ca Φ1 ∧ Fr x (fun j9 => False) Φ Φ1) [xIO] := by
  refine CtB.of (cc := cX11_messageLength) (maxL := 2) (ret := (some .int)) (by decide) rfl (Nat.le_of_ble_eq_true rfl) ?_
  intro p9 e9 s9 m9 w9 t9 k9 B htab9
  show Z p9 l e9 _ s9 m9 _ w9 t9 k9 _ G 2 0 [(0, .ref x), (1, .int a)] [] Φ sz 0 0
  refine z_aload_n B dX11_messageLength_0 rfl 0 rfl ?_
  refine z_iload_n B dX11_messageLength_1 rfl 1 rfl ?_
  have h_1 := in0 (k := 0) hI rfl
  have h_2 : Φ x = some (o_ 13 [.ref (x + 1), .ref (x + 3), .ref (x + 24), .ref (x + 46), .ref (x + 74), .ref (x + 80), .ref (x + 132), .ref (x + 121)]) := h_1
  refine zb_callV (As := [.int a]) (rest := []) B htab9 (s_X11_requireMessage G l hl9 Φ sz x (ca) a hx hI ) (cwV 1 B.1.2.2.2.2 gX11_messageLength_X11_requireMessage rfl rfl rfl (by decide +kernel) ⟨Nat.le_of_ble_eq_true rfl, Nat.le_of_ble_eq_true rfl⟩) h_2 rfl rfl rfl rfl (Nat.le_of_ble_eq_true rfl) dX11_messageLength_2 ⟨Nat.le_of_ble_eq_true rfl, Nat.le_of_ble_eq_true rfl⟩ ⟨Nat.le_of_ble_eq_true rfl, Nat.le_of_ble_eq_true rfl⟩ (by decide) (fun Φ9 h9 => ⟨h9.1, fun b9 h8 => ((h9.2 b9 h8).trans ((fun b9 h9 => rfl) b9 h8))⟩) (fun r_1 Φ1 sz1 st1 hp1 hs1 => ?_)
  obtain ⟨rfl, hq1, hI1, hF1⟩ := hp1
  subst sz1
  replace hs1 : st1 = [] := hs1
  subst st1
  replace hI1 : In G x (ca) Φ1 := hI1
  refine z_aload_n B dX11_messageLength_5 rfl 0 rfl ?_
  have h_3 : Φ1 x = some (o_ 13 [.ref (x + 1), .ref (x + 3), .ref (x + 24), .ref (x + 46), .ref (x + 74), .ref (x + 80), .ref (x + 132), .ref (x + 121)]) := ((hF1 x (fun j9 h8 h7 => (show False from h7).elim)).trans h_2)
  refine z_get (ref := "FlowExporter") (C := RX11) (T := TX11) (N := 8) (ci := 13) (v := .ref (x + 46)) B hu_X11_messageLength_X11 rfl 3 (Nat.le_of_ble_eq_true rfl) hv_X11_messageLength_37 rfl h_3 rfl dX11_messageLength_6 ?_
  refine z_iload_n B dX11_messageLength_9 rfl 1 rfl ?_
  obtain ⟨n_1, v_1, h_4, b_1⟩ := in11 (k := 46) hI1 rfl
  have h_5 : Φ1 (x + 46) = some (o_ 9 [.ref (x + 47), .int (nI n_1), .int v_1]) := h_4
  refine z_callV (As := [.int a]) (rest := []) B (s_X7_messageAt G l Φ1 sz x (ca) a hx hI1 ) (cwV 1 B.1.2.2.2.2 gX11_messageLength_X7_messageAt rfl rfl rfl (by decide +kernel) ⟨Nat.le_of_ble_eq_true rfl, Nat.le_of_ble_eq_true rfl⟩) h_5 rfl rfl rfl rfl (Nat.le_of_ble_eq_true rfl) dX11_messageLength_10 ⟨Nat.le_of_ble_eq_true rfl, Nat.le_of_ble_eq_true rfl⟩ (fun r_2 Φ2 sz2 st2 hp2 hs2 => ?_)
  obtain ⟨⟨m_1, hm_1, rfl⟩, hq2, hI2, hF2⟩ := hp2
  subst sz2
  replace hs2 : st2 = [.ref (x + (48 + 2 * m_1))] := hs2
  subst st2
  replace hI2 : In G x (ca) Φ2 := hI2
  replace hm_1 : m_1 < 13 := hm_1
  obtain ⟨n_2, h_6, b_2⟩ := in1 (k := 48 + 2 * m_1) hI2 (kd_q hm_1)
  replace b_2 : n_2 ≤ cap (48 + 2 * m_1) := b_2
  have b_3 := cap_le (48 + 2 * m_1)
  have h_7 : Φ2 (x + (48 + 2 * m_1)) = some (o_ 7 [.ref (x + (48 + 2 * m_1 + 1)), .int (nI n_2)]) := h_6
  refine z_get (ref := "FlowExporter$Message") (C := RX5) (T := TX5) (N := 2) (ci := 7) (v := .int (nI n_2)) B hu_X11_messageLength_X5 rfl 1 (Nat.le_of_ble_eq_true rfl) hv_X11_messageLength_97 rfl h_7 rfl dX11_messageLength_13 ?_
  exact zb_ret (Nat.le_of_ble_eq_true rfl) (Nat.le_of_ble_eq_true rfl) (z_ret_i B dX11_messageLength_16 ⟨⟨_, rfl⟩, rfl, hI2, (fun b9 h9 => ((hF2 b9 (fun j9 h8 h7 => (show False from h7).elim)).trans ((hF1 b9 (fun j9 h8 h7 => (show False from h7).elim)).trans rfl)))⟩)

theorem hu_X11_messageByte_X11 : ∀ w ∈ u_ws RX11 TX11 8, w ∈ wsX11_messageByte := fun _ h => List.mem_cons_of_mem _ (List.mem_append_left _ (List.mem_append_left _ (List.mem_append_left _ (List.mem_append_left _ (List.mem_append_right _ (h))))))

theorem hv_X11_messageByte_37 : Cond.fieldLink RX11 37 "FlowExporter" (TX11 3).2.1 (TX11 3).2.2.1 ∈ wsX11_messageByte := List.mem_cons_of_mem _ (List.mem_append_left _ (List.mem_append_left _ (List.mem_append_left _ (List.mem_append_left _ (List.mem_append_left _ (List.mem_of_getElem? (i := 0) rfl))))))

set_option maxHeartbeats 4000000 in
set_option maxRecDepth 100000 in
theorem s_X11_messageByte (G : EnvG) (l : Launch) (hl9 : l.stackTraces = false) (Φ : Hm) (sz x ca : Nat) (a : Int32) (b : Int32) (hx : G.2.2.2 ≤ x) (hI : In G x ca Φ)  : CtB G l yX11_messageByte wsX11_messageByte ({ frames := 7, cells := 1, slots := 6, locals := 102 }) 1 6 [.ref x, .int a, .int b] Φ sz (fun v Φ1 sz1 => (∃ r9 : Int32, v = some (.int r9)) ∧ sz1 = sz ∧ In G x (ca) Φ1 ∧ Fr x (fun j9 => False) Φ Φ1) (fun Φ1 => In G x ca Φ1 ∧ Fr x (fun j9 => False) Φ Φ1) [xIO] := by
  refine CtB.of (cc := cX11_messageByte) (maxL := 3) (ret := (some .int)) (by decide) rfl (Nat.le_of_ble_eq_true rfl) ?_
  intro p9 e9 s9 m9 w9 t9 k9 B htab9
  show Z p9 l e9 _ s9 m9 _ w9 t9 k9 _ G 3 0 [(0, .ref x), (1, .int a), (2, .int b)] [] Φ sz 0 0
  refine z_aload_n B dX11_messageByte_0 rfl 0 rfl ?_
  refine z_iload_n B dX11_messageByte_1 rfl 1 rfl ?_
  have h_1 := in0 (k := 0) hI rfl
  have h_2 : Φ x = some (o_ 13 [.ref (x + 1), .ref (x + 3), .ref (x + 24), .ref (x + 46), .ref (x + 74), .ref (x + 80), .ref (x + 132), .ref (x + 121)]) := h_1
  refine zb_callV (As := [.int a]) (rest := []) B htab9 (s_X11_requireMessage G l hl9 Φ sz x (ca) a hx hI ) (cwV 1 B.1.2.2.2.2 gX11_messageByte_X11_requireMessage rfl rfl rfl (by decide +kernel) ⟨Nat.le_of_ble_eq_true rfl, Nat.le_of_ble_eq_true rfl⟩) h_2 rfl rfl rfl rfl (Nat.le_of_ble_eq_true rfl) dX11_messageByte_2 ⟨Nat.le_of_ble_eq_true rfl, Nat.le_of_ble_eq_true rfl⟩ ⟨Nat.le_of_ble_eq_true rfl, Nat.le_of_ble_eq_true rfl⟩ (by decide) (fun Φ9 h9 => ⟨h9.1, fun b9 h8 => ((h9.2 b9 h8).trans ((fun b9 h9 => rfl) b9 h8))⟩) (fun r_1 Φ1 sz1 st1 hp1 hs1 => ?_)
  obtain ⟨rfl, hq1, hI1, hF1⟩ := hp1
  subst sz1
  replace hs1 : st1 = [] := hs1
  subst st1
  replace hI1 : In G x (ca) Φ1 := hI1
  refine z_aload_n B dX11_messageByte_5 rfl 0 rfl ?_
  have h_3 : Φ1 x = some (o_ 13 [.ref (x + 1), .ref (x + 3), .ref (x + 24), .ref (x + 46), .ref (x + 74), .ref (x + 80), .ref (x + 132), .ref (x + 121)]) := ((hF1 x (fun j9 h8 h7 => (show False from h7).elim)).trans h_2)
  refine z_get (ref := "FlowExporter") (C := RX11) (T := TX11) (N := 8) (ci := 13) (v := .ref (x + 46)) B hu_X11_messageByte_X11 rfl 3 (Nat.le_of_ble_eq_true rfl) hv_X11_messageByte_37 rfl h_3 rfl dX11_messageByte_6 ?_
  refine z_iload_n B dX11_messageByte_9 rfl 1 rfl ?_
  obtain ⟨n_1, v_1, h_4, b_1⟩ := in11 (k := 46) hI1 rfl
  have h_5 : Φ1 (x + 46) = some (o_ 9 [.ref (x + 47), .int (nI n_1), .int v_1]) := h_4
  refine z_callV (As := [.int a]) (rest := []) B (s_X7_messageAt G l Φ1 sz x (ca) a hx hI1 ) (cwV 1 B.1.2.2.2.2 gX11_messageByte_X7_messageAt rfl rfl rfl (by decide +kernel) ⟨Nat.le_of_ble_eq_true rfl, Nat.le_of_ble_eq_true rfl⟩) h_5 rfl rfl rfl rfl (Nat.le_of_ble_eq_true rfl) dX11_messageByte_10 ⟨Nat.le_of_ble_eq_true rfl, Nat.le_of_ble_eq_true rfl⟩ (fun r_2 Φ2 sz2 st2 hp2 hs2 => ?_)
  obtain ⟨⟨m_1, hm_1, rfl⟩, hq2, hI2, hF2⟩ := hp2
  subst sz2
  replace hs2 : st2 = [.ref (x + (48 + 2 * m_1))] := hs2
  subst st2
  replace hI2 : In G x (ca) Φ2 := hI2
  replace hm_1 : m_1 < 13 := hm_1
  refine z_iload_n B dX11_messageByte_13 rfl 2 rfl ?_
  obtain ⟨n_2, h_6, b_2⟩ := in1 (k := 48 + 2 * m_1) hI2 (kd_q hm_1)
  replace b_2 : n_2 ≤ cap (48 + 2 * m_1) := b_2
  have b_3 := cap_le (48 + 2 * m_1)
  have h_7 : Φ2 (x + (48 + 2 * m_1)) = some (o_ 7 [.ref (x + (48 + 2 * m_1 + 1)), .int (nI n_2)]) := h_6
  refine z_callV (As := [.int b]) (rest := []) B (s_X5_byteAt G l Φ2 sz x (ca) (48 + 2 * m_1) b hx hI2 (kd_q hm_1)) (cwV 1 B.1.2.2.2.2 gX11_messageByte_X5_byteAt rfl rfl rfl (by decide +kernel) ⟨Nat.le_of_ble_eq_true rfl, Nat.le_of_ble_eq_true rfl⟩) h_7 rfl rfl rfl rfl (Nat.le_of_ble_eq_true rfl) dX11_messageByte_14 ⟨Nat.le_of_ble_eq_true rfl, Nat.le_of_ble_eq_true rfl⟩ (fun r_3 Φ3 sz3 st3 hp3 hs3 => ?_)
  obtain ⟨⟨v_2, rfl⟩, hq3, hI3, hF3⟩ := hp3
  subst sz3
  replace hs3 : st3 = [.int v_2] := hs3
  subst st3
  replace hI3 : In G x (ca) Φ3 := hI3
  exact zb_ret (Nat.le_of_ble_eq_true rfl) (Nat.le_of_ble_eq_true rfl) (z_ret_i B dX11_messageByte_17 ⟨⟨_, rfl⟩, rfl, hI3, (fun b9 h9 => ((hF3 b9 (fun j9 h8 h7 => (show False from h7).elim)).trans ((hF2 b9 (fun j9 h8 h7 => (show False from h7).elim)).trans ((hF1 b9 (fun j9 h8 h7 => (show False from h7).elim)).trans rfl))))⟩)

theorem hu_X11_deliver_X11 : ∀ w ∈ u_ws RX11 TX11 8, w ∈ wsX11_deliver := fun _ h => List.mem_cons_of_mem _ (List.mem_append_left _ (List.mem_append_left _ (List.mem_append_left _ (List.mem_append_left _ (List.mem_append_left _ (List.mem_append_left _ (List.mem_append_left _ (List.mem_append_left _ (List.mem_append_left _ (List.mem_append_right _ (h)))))))))))

theorem hv_X11_deliver_71 : Cond.fieldLink RX11 71 "FlowExporter" (TX11 6).2.1 (TX11 6).2.2.1 ∈ wsX11_deliver := List.mem_cons_of_mem _ (List.mem_append_left _ (List.mem_append_left _ (List.mem_append_left _ (List.mem_append_left _ (List.mem_append_left _ (List.mem_append_left _ (List.mem_append_left _ (List.mem_append_left _ (List.mem_append_left _ (List.mem_append_left _ (List.mem_append_left _ (List.mem_of_getElem? (i := 0) rfl))))))))))))

theorem hv_X11_deliver_37 : Cond.fieldLink RX11 37 "FlowExporter" (TX11 3).2.1 (TX11 3).2.2.1 ∈ wsX11_deliver := List.mem_cons_of_mem _ (List.mem_append_left _ (List.mem_append_left _ (List.mem_append_left _ (List.mem_append_left _ (List.mem_append_left _ (List.mem_append_left _ (List.mem_append_left _ (List.mem_append_left _ (List.mem_append_left _ (List.mem_append_left _ (List.mem_append_left _ (List.mem_of_getElem? (i := 1) rfl))))))))))))
