set_option maxRecDepth 20000 in
theorem ggX11_observe_X3_keyOf : GoodIn wsX11_observe wsX3_keyOf := (goodIn_r _ [5, 6, 7] rfl (by decide +kernel))
set_option maxRecDepth 20000 in
theorem gX11_observe_X3_keyOf : GoodIn wsX11_observe (va_wsS RX11 119 yX3_keyOf wsX3_keyOf) := goodIn_app (goodIn_m (mem_cA (List.mem_cons_of_mem _ (List.mem_append_left _ (List.mem_append_left _ (List.mem_append_left _ (List.mem_append_left _ (List.mem_append_left _ (List.mem_append_left _ (List.mem_append_left _ (List.mem_append_left _ (List.mem_append_left _ (List.mem_append_left _ (List.mem_append_left _ (List.mem_append_left _ (List.mem_append_left _ (List.mem_of_getElem? (i := 1) rfl))))))))))))))) (mem_cA (List.mem_cons_of_mem _ (List.mem_append_left _ (List.mem_append_left _ (List.mem_append_left _ (List.mem_append_left _ (List.mem_append_left _ (List.mem_append_left _ (List.mem_append_left _ (List.mem_append_left _ (List.mem_append_left _ (List.mem_append_left _ (List.mem_append_left _ (List.mem_append_left _ (List.mem_append_left _ (List.mem_of_getElem? (i := 2) rfl))))))))))))))) (mem_cA (List.mem_cons_of_mem _ (List.mem_append_left _ (List.mem_append_left _ (List.mem_append_left _ (List.mem_append_left _ (List.mem_append_left _ (List.mem_append_left _ (List.mem_append_left _ (List.mem_append_left _ (List.mem_append_left _ (List.mem_append_left _ (List.mem_append_left _ (List.mem_append_left _ (List.mem_append_left _ (List.mem_of_getElem? (i := 3) rfl))))))))))))))) mem_cZ))) (by decide +kernel)) ggX11_observe_X3_keyOf
set_option maxRecDepth 20000 in
theorem ggX11_observe_X11_requirePackets : GoodIn wsX11_observe wsX11_requirePackets := goodIn_ca ((goodIn_r _ [11, 12, 13, 14, 15] rfl (by decide +kernel))) (goodIn_sub (fun _ h => List.mem_cons_of_mem _ (List.mem_append_left _ (List.mem_append_left _ (List.mem_append_right _ h)))) (all_fg _))
set_option maxRecDepth 20000 in
theorem gX11_observe_X11_requirePackets : GoodIn wsX11_observe (va_wsS RX11 125 yX11_requirePackets wsX11_requirePackets) := goodIn_app (goodIn_m (mem_cA (List.mem_cons_of_mem _ (List.mem_append_left _ (List.mem_append_left _ (List.mem_append_left _ (List.mem_append_left _ (List.mem_append_left _ (List.mem_append_left _ (List.mem_append_left _ (List.mem_append_left _ (List.mem_append_left _ (List.mem_append_left _ (List.mem_append_left _ (List.mem_append_left _ (List.mem_append_left _ (List.mem_of_getElem? (i := 7) rfl))))))))))))))) (mem_cA (List.mem_cons_of_mem _ (List.mem_append_left _ (List.mem_append_left _ (List.mem_append_left _ (List.mem_append_left _ (List.mem_append_left _ (List.mem_append_left _ (List.mem_append_left _ (List.mem_append_left _ (List.mem_append_left _ (List.mem_append_left _ (List.mem_append_left _ (List.mem_append_left _ (List.mem_append_left _ (List.mem_of_getElem? (i := 8) rfl))))))))))))))) (mem_cA (List.mem_cons_of_mem _ (List.mem_append_left _ (List.mem_append_left _ (List.mem_append_left _ (List.mem_append_left _ (List.mem_append_left _ (List.mem_append_left _ (List.mem_append_left _ (List.mem_append_left _ (List.mem_append_left _ (List.mem_append_left _ (List.mem_append_left _ (List.mem_append_left _ (List.mem_append_left _ (List.mem_of_getElem? (i := 9) rfl))))))))))))))) mem_cZ))) (by decide +kernel)) ggX11_observe_X11_requirePackets
set_option maxRecDepth 20000 in
theorem ggX11_observe_X2_takePackets : GoodIn wsX11_observe wsX2_takePackets := goodIn_ca (goodIn_ca ((goodIn_ca (goodIn_ca (goodIn_ca (goodIn_ca (goodIn_ca (goodIn_ca (goodIn_ca (goodIn_ca (goodIn_r _ [20, 21, 22, 23, 24, 25, 26, 27, 19, 28, 29, 30, 31, 32, 33, 34, 35, 36, 37, 38, 39, 40, 41, 42, 43, 44, 45, 46, 47, 48, 49, 50, 51, 52, 53, 54, 55, 56, 57, 58, 4, 59, 60, 61, 62, 63, 64, 65, 66, 67, 68, 69, 70, 71, 72, 73, 74, 75, 76, 77, 78, 79, 80, 81, 82, 83, 84, 85, 86, 87, 88, 89, 90, 91, 92, 93, 94, 95, 96, 97, 98, 99, 100, 101, 102, 103, 104, 105, 106, 107, 108, 109, 110, 111, 112, 113, 114, 115, 116, 117, 118, 119, 120, 121, 122, 123, 124, 125, 126, 127, 128, 129, 130, 131, 132, 133, 134, 135, 136, 137, 138, 139, 140, 141, 142, 10, 143, 144, 145, 146, 147, 148, 149, 150, 151, 152, 153, 154, 155, 156, 157, 158, 159, 160, 161, 162, 163, 164, 165, 166, 167, 168, 169, 170, 171, 172, 173, 174, 175, 176, 177, 178, 179, 180, 181, 182, 183, 184, 185, 186, 187, 188, 189, 190, 191, 192, 193, 194, 195, 196, 197, 198, 199, 200, 201, 202, 203, 204, 205, 206, 207, 208, 209, 210, 211, 212, 213, 214, 215, 216, 217, 218, 219, 220, 221, 222, 223, 224] rfl (by decide +kernel)) (goodIn_sub (fun _ h => List.mem_cons_of_mem _ (List.mem_append_left _ (List.mem_append_left _ (List.mem_append_left _ (List.mem_append_left _ (List.mem_append_left _ (List.mem_append_left _ (List.mem_append_left _ (List.mem_append_left _ (List.mem_append_left _ (List.mem_append_left _ (List.mem_append_right _ h)))))))))))) gw_wsX20)) (goodIn_sub (fun _ h => List.mem_cons_of_mem _ (List.mem_append_left _ (List.mem_append_left _ (List.mem_append_left _ (List.mem_append_left _ (List.mem_append_left _ (List.mem_append_left _ (List.mem_append_left _ (List.mem_append_left _ (List.mem_append_left _ (List.mem_append_right _ h))))))))))) gw_wsX30)) (goodIn_sub (fun _ h => List.mem_cons_of_mem _ (List.mem_append_left _ (List.mem_append_left _ (List.mem_append_left _ (List.mem_append_left _ (List.mem_append_left _ (List.mem_append_left _ (List.mem_append_left _ (List.mem_append_left _ (List.mem_append_right _ h)))))))))) gw_wsX40)) (goodIn_sub (fun _ h => List.mem_cons_of_mem _ (List.mem_append_left _ (List.mem_append_left _ (List.mem_append_left _ (List.mem_append_left _ (List.mem_append_left _ (List.mem_append_left _ (List.mem_append_left _ (List.mem_append_right _ h))))))))) gw_wsX100)) (goodIn_sub (fun _ h => List.mem_cons_of_mem _ (List.mem_append_left _ (List.mem_append_left _ (List.mem_append_left _ (List.mem_append_left _ (List.mem_append_left _ (List.mem_append_left _ (List.mem_append_right _ h)))))))) gw_wsX10)) (goodIn_sub (fun _ h => List.mem_cons_of_mem _ (List.mem_append_left _ (List.mem_append_left _ (List.mem_append_left _ (List.mem_append_left _ (List.mem_append_left _ (List.mem_append_right _ h))))))) gw_wsX80)) (goodIn_sub (fun _ h => List.mem_cons_of_mem _ (List.mem_append_left _ (List.mem_append_left _ (List.mem_append_left _ (List.mem_append_left _ (List.mem_append_right _ h)))))) gw_wsX50)) (goodIn_sub (fun _ h => List.mem_cons_of_mem _ (List.mem_append_left _ (List.mem_append_left _ (List.mem_append_left _ (List.mem_append_right _ h))))) gw_wsX70))) (goodIn_sub (fun _ h => List.mem_cons_of_mem _ (List.mem_append_left _ (List.mem_append_right _ h))) (all_fg _))) (goodIn_sub (fun _ h => List.mem_cons_of_mem _ (List.mem_append_right _ h)) (all_fg _))
set_option maxRecDepth 20000 in
theorem gX11_observe_X2_takePackets : GoodIn wsX11_observe (wsV RX11 129 RX2 yX2_takePackets wsX2_takePackets) := goodIn_app (goodIn_m (mem_cA (List.mem_cons_of_mem _ (List.mem_append_left _ (List.mem_append_left _ (List.mem_append_left _ (List.mem_append_left _ (List.mem_append_left _ (List.mem_append_left _ (List.mem_append_left _ (List.mem_append_left _ (List.mem_append_left _ (List.mem_append_left _ (List.mem_append_left _ (List.mem_append_left _ (List.mem_append_left _ (List.mem_of_getElem? (i := 15) rfl))))))))))))))) (mem_cA (List.mem_cons_of_mem _ (List.mem_append_left _ (List.mem_append_left _ (List.mem_append_left _ (List.mem_append_left _ (List.mem_append_left _ (List.mem_append_left _ (List.mem_append_left _ (List.mem_append_left _ (List.mem_append_left _ (List.mem_append_left _ (List.mem_append_left _ (List.mem_append_left _ (List.mem_append_left _ (List.mem_of_getElem? (i := 16) rfl))))))))))))))) (mem_cA (List.mem_cons_of_mem _ (List.mem_append_left _ (List.mem_append_left _ (List.mem_append_left _ (List.mem_append_left _ (List.mem_append_left _ (List.mem_append_left _ (List.mem_append_left _ (List.mem_append_left _ (List.mem_append_left _ (List.mem_append_left _ (List.mem_append_left _ (List.mem_append_left _ (List.mem_append_left _ (List.mem_of_getElem? (i := 17) rfl))))))))))))))) (mem_cA (List.mem_cons_of_mem _ (List.mem_append_left _ (List.mem_append_left _ (List.mem_append_left _ (List.mem_append_left _ (List.mem_append_left _ (List.mem_append_left _ (List.mem_append_left _ (List.mem_append_left _ (List.mem_append_left _ (List.mem_append_left _ (List.mem_append_left _ (List.mem_append_left _ (List.mem_append_left _ (List.mem_of_getElem? (i := 18) rfl))))))))))))))) mem_cZ)))) (by decide +kernel)) ggX11_observe_X2_takePackets
theorem dX11_observe_0 : decode cX11_observe 0 = .ok (.iload_n 1, 1) := by decide +kernel
theorem dX11_observe_1 : decode cX11_observe 1 = .ok (.iload_n 2, 1) := by decide +kernel
theorem dX11_observe_2 : decode cX11_observe 2 = .ok (.iload_n 3, 1) := by decide +kernel
theorem dX11_observe_3 : decode cX11_observe 3 = .ok (.iload 4, 2) := by decide +kernel
theorem dX11_observe_5 : decode cX11_observe 5 = .ok (.invokestatic 119, 3) := by decide +kernel
theorem dX11_observe_8 : decode cX11_observe 8 = .ok (.lstore 6, 2) := by decide +kernel
theorem dX11_observe_10 : decode cX11_observe 10 = .ok (.lload 6, 2) := by decide +kernel
theorem dX11_observe_12 : decode cX11_observe 12 = .ok (.iload 5, 2) := by decide +kernel
theorem dX11_observe_14 : decode cX11_observe 14 = .ok (.iconst 1, 1) := by decide +kernel
theorem dX11_observe_15 : decode cX11_observe 15 = .ok (.invokestatic 125, 3) := by decide +kernel
theorem dX11_observe_18 : decode cX11_observe 18 = .ok (.aload_n 0, 1) := by decide +kernel
theorem dX11_observe_19 : decode cX11_observe 19 = .ok (.getfield 55, 3) := by decide +kernel
theorem dX11_observe_22 : decode cX11_observe 22 = .ok (.lload 6, 2) := by decide +kernel
theorem dX11_observe_24 : decode cX11_observe 24 = .ok (.iload 5, 2) := by decide +kernel
theorem dX11_observe_26 : decode cX11_observe 26 = .ok (.iconst 1, 1) := by decide +kernel
theorem dX11_observe_27 : decode cX11_observe 27 = .ok (.invokevirtual 129, 3) := by decide +kernel
theorem dX11_observe_30 : decode cX11_observe 30 = .ok (.iconst 1, 1) := by decide +kernel
theorem dX11_observe_31 : decode cX11_observe 31 = .ok (.if_icmp .ne 7, 3) := by decide +kernel
theorem dX11_observe_34 : decode cX11_observe 34 = .ok (.iconst 1, 1) := by decide +kernel
theorem dX11_observe_35 : decode cX11_observe 35 = .ok (.goto 4, 3) := by decide +kernel
theorem dX11_observe_38 : decode cX11_observe 38 = .ok (.iconst 0, 1) := by decide +kernel
theorem dX11_observe_39 : decode cX11_observe 39 = .ok (.ireturn, 1) := by decide +kernel
theorem dX11_templateCount_0 : decode cX11_templateCount 0 = .ok (.aload_n 0, 1) := by decide +kernel
theorem dX11_templateCount_1 : decode cX11_templateCount 1 = .ok (.getfield 21, 3) := by decide +kernel
theorem dX11_templateCount_4 : decode cX11_templateCount 4 = .ok (.getfield 191, 3) := by decide +kernel
theorem dX11_templateCount_7 : decode cX11_templateCount 7 = .ok (.ireturn, 1) := by decide +kernel
set_option maxRecDepth 20000 in
theorem ggX11_templateFields_X11_requireTemplate : GoodIn wsX11_templateFields wsX11_requireTemplate := goodIn_ca ((goodIn_ca (goodIn_ca (goodIn_r _ [7, 8, 9, 1, 10] rfl (by decide +kernel)) (goodIn_sub (fun _ h => List.mem_cons_of_mem _ (List.mem_append_left _ (List.mem_append_left _ (List.mem_append_left _ (List.mem_append_right _ h))))) gw_wsX110)) (goodIn_sub (fun _ h => List.mem_cons_of_mem _ (List.mem_append_left _ (List.mem_append_right _ h))) gw_wsX10))) (goodIn_sub (fun _ h => List.mem_cons_of_mem _ (List.mem_append_right _ h)) (all_fg _))
set_option maxRecDepth 20000 in
theorem gX11_templateFields_X11_requireTemplate : GoodIn wsX11_templateFields (wsV RX11 194 RX11 yX11_requireTemplate wsX11_requireTemplate) := goodIn_app (goodIn_m (mem_cA (List.mem_cons_of_mem _ (List.mem_append_left _ (List.mem_append_left _ (List.mem_append_left _ (List.mem_append_left _ (List.mem_of_getElem? (i := 2) rfl)))))) (mem_cA (List.mem_cons_of_mem _ (List.mem_append_left _ (List.mem_append_left _ (List.mem_append_left _ (List.mem_append_left _ (List.mem_of_getElem? (i := 3) rfl)))))) (mem_cA (List.mem_cons_of_mem _ (List.mem_append_left _ (List.mem_append_left _ (List.mem_append_left _ (List.mem_append_left _ (List.mem_of_getElem? (i := 4) rfl)))))) (mem_cA (List.mem_cons_of_mem _ (List.mem_append_left _ (List.mem_append_left _ (List.mem_append_left _ (List.mem_append_left _ (List.mem_of_getElem? (i := 5) rfl)))))) mem_cZ)))) (by decide +kernel)) ggX11_templateFields_X11_requireTemplate
set_option maxRecDepth 20000 in
theorem ggX11_templateFields_X1_template : GoodIn wsX11_templateFields wsX1_template := (goodIn_ca (goodIn_r _ [15, 16] rfl (by decide +kernel)) (goodIn_sub (fun _ h => List.mem_cons_of_mem _ (List.mem_append_left _ (List.mem_append_right _ h))) gw_wsX10))
set_option maxRecDepth 20000 in
theorem gX11_templateFields_X1_template : GoodIn wsX11_templateFields (wsV RX11 197 RX1 yX1_template wsX1_template) := goodIn_app (goodIn_m (mem_cA (List.mem_cons_of_mem _ (List.mem_append_left _ (List.mem_append_left _ (List.mem_append_left _ (List.mem_append_left _ (List.mem_of_getElem? (i := 10) rfl)))))) (mem_cA (List.mem_cons_of_mem _ (List.mem_append_left _ (List.mem_append_left _ (List.mem_append_left _ (List.mem_append_left _ (List.mem_of_getElem? (i := 11) rfl)))))) (mem_cA (List.mem_cons_of_mem _ (List.mem_append_left _ (List.mem_append_left _ (List.mem_append_left _ (List.mem_append_left _ (List.mem_of_getElem? (i := 12) rfl)))))) (mem_cA (List.mem_cons_of_mem _ (List.mem_append_left _ (List.mem_append_left _ (List.mem_append_left _ (List.mem_append_left _ (List.mem_of_getElem? (i := 13) rfl)))))) mem_cZ)))) (by decide +kernel)) ggX11_templateFields_X1_template
theorem dX11_templateFields_0 : decode cX11_templateFields 0 = .ok (.aload_n 0, 1) := by decide +kernel
theorem dX11_templateFields_1 : decode cX11_templateFields 1 = .ok (.iload_n 1, 1) := by decide +kernel
theorem dX11_templateFields_2 : decode cX11_templateFields 2 = .ok (.invokevirtual 194, 3) := by decide +kernel
theorem dX11_templateFields_5 : decode cX11_templateFields 5 = .ok (.aload_n 0, 1) := by decide +kernel
theorem dX11_templateFields_6 : decode cX11_templateFields 6 = .ok (.getfield 21, 3) := by decide +kernel
theorem dX11_templateFields_9 : decode cX11_templateFields 9 = .ok (.iload_n 1, 1) := by decide +kernel
theorem dX11_templateFields_10 : decode cX11_templateFields 10 = .ok (.invokevirtual 197, 3) := by decide +kernel
theorem dX11_templateFields_13 : decode cX11_templateFields 13 = .ok (.getfield 201, 3) := by decide +kernel
theorem dX11_templateFields_16 : decode cX11_templateFields 16 = .ok (.ireturn, 1) := by decide +kernel
set_option maxRecDepth 20000 in
theorem ggX11_effectiveFields_X11_requireTemplate : GoodIn wsX11_effectiveFields wsX11_requireTemplate := goodIn_ca ((goodIn_ca (goodIn_ca (goodIn_r _ [7, 8, 9, 1, 10] rfl (by decide +kernel)) (goodIn_sub (fun _ h => List.mem_cons_of_mem _ (List.mem_append_left _ (List.mem_append_left _ (List.mem_append_left _ (List.mem_append_right _ h))))) gw_wsX110)) (goodIn_sub (fun _ h => List.mem_cons_of_mem _ (List.mem_append_left _ (List.mem_append_right _ h))) gw_wsX10))) (goodIn_sub (fun _ h => List.mem_cons_of_mem _ (List.mem_append_right _ h)) (all_fg _))
set_option maxRecDepth 20000 in
theorem gX11_effectiveFields_X11_requireTemplate : GoodIn wsX11_effectiveFields (wsV RX11 194 RX11 yX11_requireTemplate wsX11_requireTemplate) := goodIn_app (goodIn_m (mem_cA (List.mem_cons_of_mem _ (List.mem_append_left _ (List.mem_append_left _ (List.mem_append_left _ (List.mem_append_left _ (List.mem_of_getElem? (i := 2) rfl)))))) (mem_cA (List.mem_cons_of_mem _ (List.mem_append_left _ (List.mem_append_left _ (List.mem_append_left _ (List.mem_append_left _ (List.mem_of_getElem? (i := 3) rfl)))))) (mem_cA (List.mem_cons_of_mem _ (List.mem_append_left _ (List.mem_append_left _ (List.mem_append_left _ (List.mem_append_left _ (List.mem_of_getElem? (i := 4) rfl)))))) (mem_cA (List.mem_cons_of_mem _ (List.mem_append_left _ (List.mem_append_left _ (List.mem_append_left _ (List.mem_append_left _ (List.mem_of_getElem? (i := 5) rfl)))))) mem_cZ)))) (by decide +kernel)) ggX11_effectiveFields_X11_requireTemplate
set_option maxRecDepth 20000 in
theorem ggX11_effectiveFields_X1_effective : GoodIn wsX11_effectiveFields wsX1_effective := (goodIn_ca (goodIn_r _ [15, 16] rfl (by decide +kernel)) (goodIn_sub (fun _ h => List.mem_cons_of_mem _ (List.mem_append_left _ (List.mem_append_right _ h))) gw_wsX10))
set_option maxRecDepth 20000 in
theorem gX11_effectiveFields_X1_effective : GoodIn wsX11_effectiveFields (wsV RX11 206 RX1 yX1_effective wsX1_effective) := goodIn_app (goodIn_m (mem_cA (List.mem_cons_of_mem _ (List.mem_append_left _ (List.mem_append_left _ (List.mem_append_left _ (List.mem_append_left _ (List.mem_of_getElem? (i := 10) rfl)))))) (mem_cA (List.mem_cons_of_mem _ (List.mem_append_left _ (List.mem_append_left _ (List.mem_append_left _ (List.mem_append_left _ (List.mem_of_getElem? (i := 11) rfl)))))) (mem_cA (List.mem_cons_of_mem _ (List.mem_append_left _ (List.mem_append_left _ (List.mem_append_left _ (List.mem_append_left _ (List.mem_of_getElem? (i := 12) rfl)))))) (mem_cA (List.mem_cons_of_mem _ (List.mem_append_left _ (List.mem_append_left _ (List.mem_append_left _ (List.mem_append_left _ (List.mem_of_getElem? (i := 13) rfl)))))) mem_cZ)))) (by decide +kernel)) ggX11_effectiveFields_X1_effective
theorem dX11_effectiveFields_0 : decode cX11_effectiveFields 0 = .ok (.aload_n 0, 1) := by decide +kernel
theorem dX11_effectiveFields_1 : decode cX11_effectiveFields 1 = .ok (.iload_n 1, 1) := by decide +kernel
theorem dX11_effectiveFields_2 : decode cX11_effectiveFields 2 = .ok (.invokevirtual 194, 3) := by decide +kernel
theorem dX11_effectiveFields_5 : decode cX11_effectiveFields 5 = .ok (.aload_n 0, 1) := by decide +kernel
theorem dX11_effectiveFields_6 : decode cX11_effectiveFields 6 = .ok (.getfield 21, 3) := by decide +kernel
theorem dX11_effectiveFields_9 : decode cX11_effectiveFields 9 = .ok (.iload_n 1, 1) := by decide +kernel
theorem dX11_effectiveFields_10 : decode cX11_effectiveFields 10 = .ok (.invokevirtual 206, 3) := by decide +kernel
theorem dX11_effectiveFields_13 : decode cX11_effectiveFields 13 = .ok (.getfield 201, 3) := by decide +kernel
theorem dX11_effectiveFields_16 : decode cX11_effectiveFields 16 = .ok (.ireturn, 1) := by decide +kernel
set_option maxRecDepth 20000 in
theorem ggX11_fieldAt_X11_requireTemplate : GoodIn wsX11_fieldAt wsX11_requireTemplate := goodIn_ca ((goodIn_ca (goodIn_ca (goodIn_r _ [6, 7, 8, 1, 9] rfl (by decide +kernel)) (goodIn_sub (fun _ h => List.mem_cons_of_mem _ (List.mem_append_left _ (List.mem_append_left _ (List.mem_append_left _ (List.mem_append_left _ (List.mem_append_right _ h)))))) gw_wsX110)) (goodIn_sub (fun _ h => List.mem_cons_of_mem _ (List.mem_append_left _ (List.mem_append_left _ (List.mem_append_left _ (List.mem_append_right _ h))))) gw_wsX10))) (goodIn_sub (fun _ h => List.mem_cons_of_mem _ (List.mem_append_left _ (List.mem_append_right _ h))) (all_fg _))
set_option maxRecDepth 20000 in
theorem gX11_fieldAt_X11_requireTemplate : GoodIn wsX11_fieldAt (wsV RX11 194 RX11 yX11_requireTemplate wsX11_requireTemplate) := goodIn_app (goodIn_m (mem_cA (List.mem_cons_of_mem _ (List.mem_append_left _ (List.mem_append_left _ (List.mem_append_left _ (List.mem_append_left _ (List.mem_append_left _ (List.mem_of_getElem? (i := 1) rfl))))))) (mem_cA (List.mem_cons_of_mem _ (List.mem_append_left _ (List.mem_append_left _ (List.mem_append_left _ (List.mem_append_left _ (List.mem_append_left _ (List.mem_of_getElem? (i := 2) rfl))))))) (mem_cA (List.mem_cons_of_mem _ (List.mem_append_left _ (List.mem_append_left _ (List.mem_append_left _ (List.mem_append_left _ (List.mem_append_left _ (List.mem_of_getElem? (i := 3) rfl))))))) (mem_cA (List.mem_cons_of_mem _ (List.mem_append_left _ (List.mem_append_left _ (List.mem_append_left _ (List.mem_append_left _ (List.mem_append_left _ (List.mem_of_getElem? (i := 4) rfl))))))) mem_cZ)))) (by decide +kernel)) ggX11_fieldAt_X11_requireTemplate
set_option maxRecDepth 20000 in
theorem ggX11_fieldAt_X1_template : GoodIn wsX11_fieldAt wsX1_template := (goodIn_ca (goodIn_r _ [14, 15] rfl (by decide +kernel)) (goodIn_sub (fun _ h => List.mem_cons_of_mem _ (List.mem_append_left _ (List.mem_append_left _ (List.mem_append_left _ (List.mem_append_right _ h))))) gw_wsX10))
set_option maxRecDepth 20000 in
theorem gX11_fieldAt_X1_template : GoodIn wsX11_fieldAt (wsV RX11 197 RX1 yX1_template wsX1_template) := goodIn_app (goodIn_m (mem_cA (List.mem_cons_of_mem _ (List.mem_append_left _ (List.mem_append_left _ (List.mem_append_left _ (List.mem_append_left _ (List.mem_append_left _ (List.mem_of_getElem? (i := 9) rfl))))))) (mem_cA (List.mem_cons_of_mem _ (List.mem_append_left _ (List.mem_append_left _ (List.mem_append_left _ (List.mem_append_left _ (List.mem_append_left _ (List.mem_of_getElem? (i := 10) rfl))))))) (mem_cA (List.mem_cons_of_mem _ (List.mem_append_left _ (List.mem_append_left _ (List.mem_append_left _ (List.mem_append_left _ (List.mem_append_left _ (List.mem_of_getElem? (i := 11) rfl))))))) (mem_cA (List.mem_cons_of_mem _ (List.mem_append_left _ (List.mem_append_left _ (List.mem_append_left _ (List.mem_append_left _ (List.mem_append_left _ (List.mem_of_getElem? (i := 12) rfl))))))) mem_cZ)))) (by decide +kernel)) ggX11_fieldAt_X1_template
set_option maxRecDepth 20000 in
theorem ggX11_fieldAt_X10_field : GoodIn wsX11_fieldAt wsX10_field := goodIn_ca ((goodIn_ca (goodIn_r _ [20, 21, 22] rfl (by decide +kernel)) (goodIn_sub (fun _ h => List.mem_cons_of_mem _ (List.mem_append_left _ (List.mem_append_left _ (List.mem_append_right _ h)))) gw_wsX100))) (goodIn_sub (fun _ h => List.mem_cons_of_mem _ (List.mem_append_right _ h)) (all_fg _))
set_option maxRecDepth 20000 in
theorem gX11_fieldAt_X10_field : GoodIn wsX11_fieldAt (wsV RX11 209 RX10 yX10_field wsX10_field) := goodIn_app (goodIn_m (mem_cA (List.mem_cons_of_mem _ (List.mem_append_left _ (List.mem_append_left _ (List.mem_append_left _ (List.mem_append_left _ (List.mem_append_left _ (List.mem_of_getElem? (i := 15) rfl))))))) (mem_cA (List.mem_cons_of_mem _ (List.mem_append_left _ (List.mem_append_left _ (List.mem_append_left _ (List.mem_append_left _ (List.mem_append_left _ (List.mem_of_getElem? (i := 16) rfl))))))) (mem_cA (List.mem_cons_of_mem _ (List.mem_append_left _ (List.mem_append_left _ (List.mem_append_left _ (List.mem_append_left _ (List.mem_append_left _ (List.mem_of_getElem? (i := 17) rfl))))))) (mem_cA (List.mem_cons_of_mem _ (List.mem_append_left _ (List.mem_append_left _ (List.mem_append_left _ (List.mem_append_left _ (List.mem_append_left _ (List.mem_of_getElem? (i := 18) rfl))))))) mem_cZ)))) (by decide +kernel)) ggX11_fieldAt_X10_field
theorem dX11_fieldAt_0 : decode cX11_fieldAt 0 = .ok (.aload_n 0, 1) := by decide +kernel
theorem dX11_fieldAt_1 : decode cX11_fieldAt 1 = .ok (.iload_n 1, 1) := by decide +kernel
theorem dX11_fieldAt_2 : decode cX11_fieldAt 2 = .ok (.invokevirtual 194, 3) := by decide +kernel
theorem dX11_fieldAt_5 : decode cX11_fieldAt 5 = .ok (.aload_n 0, 1) := by decide +kernel
theorem dX11_fieldAt_6 : decode cX11_fieldAt 6 = .ok (.getfield 21, 3) := by decide +kernel
theorem dX11_fieldAt_9 : decode cX11_fieldAt 9 = .ok (.iload_n 1, 1) := by decide +kernel
theorem dX11_fieldAt_10 : decode cX11_fieldAt 10 = .ok (.invokevirtual 197, 3) := by decide +kernel
theorem dX11_fieldAt_13 : decode cX11_fieldAt 13 = .ok (.iload_n 2, 1) := by decide +kernel
theorem dX11_fieldAt_14 : decode cX11_fieldAt 14 = .ok (.invokevirtual 209, 3) := by decide +kernel
theorem dX11_fieldAt_17 : decode cX11_fieldAt 17 = .ok (.ireturn, 1) := by decide +kernel
set_option maxRecDepth 20000 in
theorem ggX11_recordLength_X11_requireTemplate : GoodIn wsX11_recordLength wsX11_requireTemplate := goodIn_ca ((goodIn_ca (goodIn_ca (goodIn_r _ [7, 8, 9, 1, 10] rfl (by decide +kernel)) (goodIn_sub (fun _ h => List.mem_cons_of_mem _ (List.mem_append_left _ (List.mem_append_left _ (List.mem_append_left _ (List.mem_append_right _ h))))) gw_wsX110)) (goodIn_sub (fun _ h => List.mem_cons_of_mem _ (List.mem_append_left _ (List.mem_append_right _ h))) gw_wsX10))) (goodIn_sub (fun _ h => List.mem_cons_of_mem _ (List.mem_append_right _ h)) (all_fg _))
set_option maxRecDepth 20000 in
theorem gX11_recordLength_X11_requireTemplate : GoodIn wsX11_recordLength (wsV RX11 194 RX11 yX11_requireTemplate wsX11_requireTemplate) := goodIn_app (goodIn_m (mem_cA (List.mem_cons_of_mem _ (List.mem_append_left _ (List.mem_append_left _ (List.mem_append_left _ (List.mem_append_left _ (List.mem_of_getElem? (i := 2) rfl)))))) (mem_cA (List.mem_cons_of_mem _ (List.mem_append_left _ (List.mem_append_left _ (List.mem_append_left _ (List.mem_append_left _ (List.mem_of_getElem? (i := 3) rfl)))))) (mem_cA (List.mem_cons_of_mem _ (List.mem_append_left _ (List.mem_append_left _ (List.mem_append_left _ (List.mem_append_left _ (List.mem_of_getElem? (i := 4) rfl)))))) (mem_cA (List.mem_cons_of_mem _ (List.mem_append_left _ (List.mem_append_left _ (List.mem_append_left _ (List.mem_append_left _ (List.mem_of_getElem? (i := 5) rfl)))))) mem_cZ)))) (by decide +kernel)) ggX11_recordLength_X11_requireTemplate
set_option maxRecDepth 20000 in
theorem ggX11_recordLength_X1_effective : GoodIn wsX11_recordLength wsX1_effective := (goodIn_ca (goodIn_r _ [15, 16] rfl (by decide +kernel)) (goodIn_sub (fun _ h => List.mem_cons_of_mem _ (List.mem_append_left _ (List.mem_append_right _ h))) gw_wsX10))
set_option maxRecDepth 20000 in
theorem gX11_recordLength_X1_effective : GoodIn wsX11_recordLength (wsV RX11 206 RX1 yX1_effective wsX1_effective) := goodIn_app (goodIn_m (mem_cA (List.mem_cons_of_mem _ (List.mem_append_left _ (List.mem_append_left _ (List.mem_append_left _ (List.mem_append_left _ (List.mem_of_getElem? (i := 10) rfl)))))) (mem_cA (List.mem_cons_of_mem _ (List.mem_append_left _ (List.mem_append_left _ (List.mem_append_left _ (List.mem_append_left _ (List.mem_of_getElem? (i := 11) rfl)))))) (mem_cA (List.mem_cons_of_mem _ (List.mem_append_left _ (List.mem_append_left _ (List.mem_append_left _ (List.mem_append_left _ (List.mem_of_getElem? (i := 12) rfl)))))) (mem_cA (List.mem_cons_of_mem _ (List.mem_append_left _ (List.mem_append_left _ (List.mem_append_left _ (List.mem_append_left _ (List.mem_of_getElem? (i := 13) rfl)))))) mem_cZ)))) (by decide +kernel)) ggX11_recordLength_X1_effective
theorem dX11_recordLength_0 : decode cX11_recordLength 0 = .ok (.aload_n 0, 1) := by decide +kernel
theorem dX11_recordLength_1 : decode cX11_recordLength 1 = .ok (.iload_n 1, 1) := by decide +kernel
theorem dX11_recordLength_2 : decode cX11_recordLength 2 = .ok (.invokevirtual 194, 3) := by decide +kernel
theorem dX11_recordLength_5 : decode cX11_recordLength 5 = .ok (.aload_n 0, 1) := by decide +kernel
theorem dX11_recordLength_6 : decode cX11_recordLength 6 = .ok (.getfield 21, 3) := by decide +kernel
theorem dX11_recordLength_9 : decode cX11_recordLength 9 = .ok (.iload_n 1, 1) := by decide +kernel
theorem dX11_recordLength_10 : decode cX11_recordLength 10 = .ok (.invokevirtual 206, 3) := by decide +kernel
theorem dX11_recordLength_13 : decode cX11_recordLength 13 = .ok (.getfield 212, 3) := by decide +kernel
theorem dX11_recordLength_16 : decode cX11_recordLength 16 = .ok (.ireturn, 1) := by decide +kernel
set_option maxHeartbeats 4000000 in
set_option maxRecDepth 100000 in
theorem s_X11_observe (G : EnvG) (l : Launch) (hl9 : l.stackTraces = false) (Φ : Hm) (sz x ca : Nat) (nw : Int32) (rt : Int32) (dw : Int32) (aq : Int32) (xp : Int32) (xb : Int32) (ob : Int64) (sm : Int64) (un : Int64) (a : Int32) (b : Int32) (d : Int32) (f : Int32) (g : Int32) (hx : G.2.2.2 ≤ x) (hI : In G x ca Φ) (hc0 : Φ (x + 80) = some (o_ 4 [.ref (x + 3), .ref (x + 74), .ref (x + 81), .ref (x + 95), .int nw, .int rt, .int dw, .int aq, .int xp, .int xb, .long ob, .long sm, .long un])) (had : aq = 0 ∨ aq = 1) : CtB G l yX11_observe wsX11_observe ({ frames := 7, cells := 1, slots := 6, locals := 151 }) 1 6 [.ref x, .int a, .int b, .int d, .int f, .int g] Φ sz (fun v Φ1 sz1 => (((∃ r9 : Int32, v = some (.int r9) ∧ (r9 = 0 ∨ r9 = 1)) ∧ ¬ RqP (keyF a b d f) g 1) ∧ ∃ dw8 : Int32, ∃ xp8 : Int32, ∃ sm8 : Int64, ∃ un8 : Int64, Φ1 (x + 80) = some (o_ 4 [.ref (x + 3), .ref (x + 74), .ref (x + 81), .ref (x + 95), .int nw, .int rt, .int dw8, .int aq, .int xp8, .int xb, .long (ob + (nI 1).toInt64), .long sm8, .long un8])) ∧ sz1 = sz ∧ In G x (ca) Φ1 ∧ Fr x (fun j9 => 46 ≤ j9 ∧ j9 < 121) Φ Φ1) (fun Φ1 => (RqP (keyF a b d f) g 1) ∧ In G x ca Φ1 ∧ Fr x (fun j9 => False) Φ Φ1) [xIA] := by
  refine CtB.of (cc := cX11_observe) (maxL := 8) (ret := (some .boolean)) (by decide) rfl (Nat.le_of_ble_eq_true rfl) ?_
  intro p9 e9 s9 m9 w9 t9 k9 B htab9
  show Z p9 l e9 _ s9 m9 _ w9 t9 k9 _ G 8 0 [(0, .ref x), (1, .int a), (2, .int b), (3, .int d), (4, .int f), (5, .int g)] [] Φ sz 0 0
  refine z_iload_n B dX11_observe_0 rfl 1 rfl ?_
  refine z_iload_n B dX11_observe_1 rfl 2 rfl ?_
  refine z_iload_n B dX11_observe_2 rfl 3 rfl ?_
  refine z_iload B dX11_observe_3 4 rfl ?_
  refine z_callS (As := [.int a, .int b, .int d, .int f]) (rest := []) B (s_X3_keyOf G l Φ sz x (ca) a b d f hx hI ) (va_cwS 4 B.1.2.2.2.2 gX11_observe_X3_keyOf rfl rfl rfl (by decide +kernel) ⟨Nat.le_of_ble_eq_true rfl, Nat.le_of_ble_eq_true rfl⟩) rfl rfl (Nat.le_of_ble_eq_true rfl) dX11_observe_5 ⟨Nat.le_of_ble_eq_true rfl, Nat.le_of_ble_eq_true rfl⟩ (fun r_1 Φ1 sz1 st1 hp1 hs1 => ?_)
  obtain ⟨rfl, hq1, hI1, hF1⟩ := hp1
  subst sz1
  replace hs1 : st1 = [.long (keyF a b d f)] := hs1
  subst st1
  replace hI1 : In G x (ca) Φ1 := hI1
  refine z_lstore (lv' := [(6, .long (keyF a b d f)), (0, .ref x), (1, .int a), (2, .int b), (3, .int d), (4, .int f), (5, .int g)]) B dX11_observe_8 (Nat.le_of_ble_eq_true rfl) rfl ?_
  refine z_lload B dX11_observe_10 0 rfl ?_
  refine z_iload B dX11_observe_12 6 rfl ?_
  refine z_iconst (v := 1) B dX11_observe_14 rfl ?_
  refine zb_callS (As := [.long (keyF a b d f), .int g, .int 1]) (rest := []) B htab9 (s_X11_requirePackets G l hl9 Φ1 sz x (ca) (keyF a b d f) g 1 hx hI1 ) (va_cwS 3 B.1.2.2.2.2 gX11_observe_X11_requirePackets rfl rfl rfl (by decide +kernel) ⟨Nat.le_of_ble_eq_true rfl, Nat.le_of_ble_eq_true rfl⟩) rfl rfl (Nat.le_of_ble_eq_true rfl) dX11_observe_15 ⟨Nat.le_of_ble_eq_true rfl, Nat.le_of_ble_eq_true rfl⟩ ⟨Nat.le_of_ble_eq_true rfl, Nat.le_of_ble_eq_true rfl⟩ (by decide) (fun Φ9 h9 => ⟨h9.1, h9.2.1, fun b9 h8 => ((h9.2.2 b9 h8).trans ((fun b9 h9 => ((hF1 b9 (fun j9 h8 h7 => (show False from h7).elim)).trans rfl)) b9 h8))⟩) (fun r_2 Φ2 sz2 st2 hp2 hs2 => ?_)
  obtain ⟨⟨rfl, -, hq3⟩, hq2, hI2, hF2⟩ := hp2
  subst sz2
  replace hs2 : st2 = [] := hs2
  subst st2
  replace hI2 : In G x (ca) Φ2 := hI2
  replace hq3 : ¬ RqP (keyF a b d f) g 1 := hq3
  refine z_aload_n B dX11_observe_18 rfl 1 rfl ?_
  have h_1 := in0 (k := 0) hI2 rfl
  have h_2 : Φ2 x = some (o_ 13 [.ref (x + 1), .ref (x + 3), .ref (x + 24), .ref (x + 46), .ref (x + 74), .ref (x + 80), .ref (x + 132), .ref (x + 121)]) := h_1
  refine z_get (ref := "FlowExporter") (C := RX11) (T := TX11) (N := 8) (ci := 13) (v := .ref (x + 80)) B hu_X11_observe_X11 rfl 5 (Nat.le_of_ble_eq_true rfl) hv_X11_observe_55 rfl h_2 rfl dX11_observe_19 ?_
  refine z_lload B dX11_observe_22 0 rfl ?_
  refine z_iload B dX11_observe_24 6 rfl ?_
  refine z_iconst (v := 1) B dX11_observe_26 rfl ?_
  have h_3 : Φ2 (x + 80) = some (o_ 4 [.ref (x + 3), .ref (x + 74), .ref (x + 81), .ref (x + 95), .int nw, .int rt, .int dw, .int aq, .int xp, .int xb, .long ob, .long sm, .long un]) := ((hF2 (x + 80) (fun j9 h8 h7 => (show False from h7).elim)).trans ((hF1 (x + 80) (fun j9 h8 h7 => (show False from h7).elim)).trans hc0))
  refine z_callV (As := [.long (keyF a b d f), .int g, .int 1]) (rest := []) B (s_X2_takePackets G l Φ2 sz x (ca) nw rt dw aq xp xb ob sm un (keyF a b d f) g 1 hx hI2 h_3 (show 1 ≤ 200 by omega) had) (cwV 3 B.1.2.2.2.2 gX11_observe_X2_takePackets rfl rfl rfl (by decide +kernel) ⟨Nat.le_of_ble_eq_true rfl, Nat.le_of_ble_eq_true rfl⟩) h_3 rfl rfl rfl rfl (Nat.le_of_ble_eq_true rfl) dX11_observe_27 ⟨Nat.le_of_ble_eq_true rfl, Nat.le_of_ble_eq_true rfl⟩ (fun r_3 Φ3 sz3 st3 hp3 hs3 => ?_)
  obtain ⟨⟨⟨v_1, rfl⟩, v_2, v_3, v_4, v_5, h_4⟩, hq4, hI3, hF3⟩ := hp3
  subst sz3
  replace hs3 : st3 = [.int v_1] := hs3
  subst st3
  replace hI3 : In G x (ca) Φ3 := hI3
  refine z_iconst (v := 1) B dX11_observe_30 rfl ?_
  refine z_icmp_ne (tgt := 38) B dX11_observe_31 rfl (fun c_1 => ?_) (fun c_1 => ?_)
  · refine z_iconst (v := 0) B dX11_observe_38 rfl ?_
    exact zb_ret (Nat.le_of_ble_eq_true rfl) (Nat.le_of_ble_eq_true rfl) (z_ret_z B dX11_observe_39 (by decide) ⟨⟨⟨⟨_, rfl, by decide⟩, hq3⟩, v_2, v_3, v_4, v_5, h_4⟩, rfl, hI3, (fun b9 h9 => ((hF3 b9 h9).trans ((hF2 b9 (fun j9 h8 h7 => (show False from h7).elim)).trans ((hF1 b9 (fun j9 h8 h7 => (show False from h7).elim)).trans rfl))))⟩)
  · refine z_iconst (v := 1) B dX11_observe_34 rfl ?_
    refine z_goto (tgt := 39) B dX11_observe_35 rfl ?_
    exact zb_ret (Nat.le_of_ble_eq_true rfl) (Nat.le_of_ble_eq_true rfl) (z_ret_z B dX11_observe_39 (by decide) ⟨⟨⟨⟨_, rfl, by decide⟩, hq3⟩, v_2, v_3, v_4, v_5, h_4⟩, rfl, hI3, (fun b9 h9 => ((hF3 b9 h9).trans ((hF2 b9 (fun j9 h8 h7 => (show False from h7).elim)).trans ((hF1 b9 (fun j9 h8 h7 => (show False from h7).elim)).trans rfl))))⟩)

/-! what the configuration in force answers -/
noncomputable def rwC (c : Cf) (u : Nat) : Nat → Int32 := fun j => c (15 + 9 * u + j)
noncomputable def szC (c : Cf) (u : Nat) : Nat := (c (11 + u)).toNatClampNeg
noncomputable def tfF (c : Cf) (u : Nat) : Int32 := fS (rwC c u) 511 (szC c u)
noncomputable def efF (c : Cf) (u : Nat) : Int32 := fS (rwC c u) (c 9) (szC c u)
noncomputable def rlF (c : Cf) (u : Nat) : Int32 := fB_ (rwC c u) (c 9) (szC c u)
/-- the field at place p of template u -/
noncomputable def faF (c : Cf) (u : Nat) (p : Int32) : Int32 := @ite Int32 (0 ≤ p.toInt ∧ p.toInt < (szC c u : Nat)) (Classical.propDecidable _) (rwC c u p.toNatClampNeg) (-1)
/-- there is such a template -/
noncomputable def InT (c : Cf) (a : Int32) : Prop := 0 ≤ a.toInt ∧ a.toInt < (c 10).toInt
theorem wt_sz {c : Cf} {t u m : Nat} {f : Nat → Int32} (h : u < t → 1 ≤ m ∧ c (11 + u) = nI m ∧ ∀ j, j < m → f j = c (15 + 9 * u + j)) (hu : u < t) (hm : m ≤ 9) : szC c u = m ∧ ∀ j, j < m → f j = rwC c u j := by
  obtain ⟨-, h2, h3⟩ := h hu
  refine ⟨?_, h3⟩
  unfold szC
  rw [h2, nI_clamp (by omega)]
theorem wt_fS {c : Cf} {t u m : Nat} {f : Nat → Int32} {s : Int32} (h : u < t → 1 ≤ m ∧ c (11 + u) = nI m ∧ ∀ j, j < m → f j = c (15 + 9 * u + j)) (hu : u < t) (hm : m ≤ 9) : fS f s m = fS (rwC c u) s (szC c u) ∧ fB_ f s m = fB_ (rwC c u) s (szC c u) := by
  obtain ⟨e, h3⟩ := wt_sz h hu hm
  rw [e]
  obtain ⟨h4, -, h5⟩ := fS_ext (f := f) (g := rwC c u) (s := s) m h3
  exact ⟨h4, h5⟩
theorem CfA.wt {G : EnvG} {x t s u : Nat} {c : Cf} {Φ : Hm} (h : CfA G x t s c Φ) (hu : u < t) (ht : u < 4) : ∃ (m : Nat) (f : Nat → Int32), m ≤ 9 ∧ szC c u = m ∧ (∀ j, j < m → f j = rwC c u j) ∧ Φ (x + (8 + 4 * u)) = some (o_ 12 [.ref (x + (8 + 4 * u + 1)), .int (nI m), .int (tfF c u), .int (fB_ f 511 m)]) ∧ Φ (x + (8 + 4 * u + 1)) = some (ai_ G 9 f) := by
  obtain ⟨m, f, h1, h2, h3, h4, h5, h6⟩ := h.1.wt (u := u) ht (by omega)
  obtain ⟨e1, e2⟩ := wt_sz h1 hu h3
  obtain ⟨e3, -⟩ := wt_fS (s := 511) h1 hu h3
  refine ⟨m, f, h3, e1, e2, ?_, h6⟩
  rw [e3] at h5
  exact h5
theorem CfA.et {G : EnvG} {x t s u : Nat} {c : Cf} {Φ : Hm} (h : CfA G x t s c Φ) (hu : u < t) (ht : u < 4) : ∃ m : Nat, Φ (x + (10 + 4 * u)) = some (o_ 12 [.ref (x + (10 + 4 * u + 1)), .int (nI m), .int (efF c u), .int (rlF c u)]) := by
  obtain ⟨m, f, g, h1, h2, h3, h4, h5, -, -⟩ := h.2.2 u ht
  obtain ⟨e3, e4⟩ := wt_fS (s := nI s) h1 hu h3
  refine ⟨fM f (nI s) m, ?_⟩
  rw [e3, e4] at h5
  unfold efF rlF
  rw [h.2.1.2]
  exact h5
theorem CfA.inT {G : EnvG} {x t s : Nat} {c : Cf} {a : Int32} {Φ : Hm} (h : CfA G x t s c Φ) : InT c a ↔ ∃ u : Nat, u < t ∧ a = nI u := by
  have h4 := h.1.2.1
  have e : (c 10).toInt = (t : Nat) := by
    rw [h.1.1]
    exact nI_toInt (by omega)
  unfold InT
  rw [e]
  constructor
  · rintro ⟨h1, h2⟩
    refine ⟨a.toInt.toNat, by omega, ?_⟩
    apply Int32.toInt_inj.mp
    rw [nI_toInt (by omega)]
    omega
  · rintro ⟨u, hu, rfl⟩
    rw [nI_toInt (by omega)]
    omega
noncomputable def faV (f : Nat → Int32) (m : Nat) (p : Int32) : Int32 := @ite Int32 (0 ≤ p.toInt ∧ p.toInt < (m : Nat)) (Classical.propDecidable _) (f p.toNatClampNeg) (-1)
theorem faV_ok {f : Nat → Int32} {m : Nat} {p : Int32} (h : 0 ≤ p.toInt ∧ p.toInt < (m : Nat)) : faV f m p = f p.toNatClampNeg := if_pos h
theorem faV_no {f : Nat → Int32} {m : Nat} {p : Int32} (h : ¬ (0 ≤ p.toInt ∧ p.toInt < (m : Nat))) : faV f m p = -1 := if_neg h
theorem faV_C {f : Nat → Int32} {c : Cf} {u m : Nat} (p : Int32) (e : szC c u = m) (h : ∀ j, j < m → f j = rwC c u j) : faV f m p = faF c u p := by
  unfold faF
  rw [e]
  by_cases hp : 0 ≤ p.toInt ∧ p.toInt < (m : Nat)
  · rw [faV_ok hp, if_pos hp]
    refine h _ ?_
    have h1 : p = nI p.toInt.toNat := by
      apply Int32.toInt_inj.mp
      rw [nI_toInt (by have := Int32.toInt_lt p; omega)]
      omega
    rw [h1, nI_clamp (by have := Int32.toInt_lt p; omega)]
    omega
  · rw [faV_no hp, if_neg hp]
/-! what may be chosen -/
noncomputable def suV (c : Cf) (a : Int32) : Int32 := @ite Int32 (bitI a (c 9)) (Classical.propDecidable _) 1 0
noncomputable def suC (c : Cf) (a b : Int32) : Cf := @ite Cf (suV c a = b) (Classical.propDecidable _) c (upd c 9 (c 9 ^^^ ((1 : Int32) <<< (a &&& 31))))
noncomputable def InF (a : Int32) : Prop := 0 ≤ a.toInt ∧ a.toInt < 9
theorem xor_k : ∀ s, s < 512 → ∀ j, j < 9 → ∃ q, q < 512 ∧ nI s ^^^ ((1 : Int32) <<< (nI j &&& 31)) = nI q := by
  intro s hs j hj
  have h : ∀ s, s < 512 → ∀ j, j < 9 → (s ^^^ 2 ^ j < 512 ∧ nI s ^^^ ((1 : Int32) <<< (nI j &&& 31)) = nI (s ^^^ 2 ^ j)) := by decide +kernel
  exact ⟨_, h s hs j hj⟩
theorem suV_1 {c : Cf} {a : Int32} (h : bitI a (c 9)) : suV c a = 1 := if_pos h
theorem suV_0 {c : Cf} {a : Int32} (h : ¬ bitI a (c 9)) : suV c a = 0 := if_neg h
theorem CfA.q {G : EnvG} {x t s : Nat} {c : Cf} {Φ : Hm} (h : CfA G x t s c Φ) : CfQ G x 3 t c Φ := ⟨h.1.1, h.1.2.1, ⟨_, h.1.2.2.1⟩, h.1.2.2.2.1, h.1.2.2.2.2.1, fun u hu => h.1.wt hu (by omega)⟩
theorem su_eq {G : EnvG} {x t s : Nat} {c : Cf} {a b : Int32} {Φ : Hm} (hv : suV c a = b) (h : CfA G x t s c Φ) : ∃ s8 : Nat, CfA G x t s8 (suC c a b) Φ := by
  have e : suC c a b = c := if_pos hv
  rw [e]
  exact ⟨s, h⟩
theorem su_ne {G : EnvG} {x t s q : Nat} {c : Cf} {a b : Int32} {Φ : Hm} (hv : ¬ suV c a = b) (hs : c 9 = nI s) (e : nI s ^^^ ((1 : Int32) <<< (a &&& 31)) = nI q) (h : CfA G x t q (upd c 9 (nI q)) Φ) : ∃ s8 : Nat, CfA G x t s8 (suC c a b) Φ := by
  have e2 : suC c a b = upd c 9 (nI q) := (if_neg hv).trans (by rw [hs, e])
  rw [e2]
  exact ⟨q, h⟩
noncomputable def suW (c : Cf) (a b : Int32) : Cf := @ite Cf (InF a) (Classical.propDecidable _) (suC c a b) c
theorem suW_y {c : Cf} {a b : Int32} (h : InF a) : suW c a b = suC c a b := if_pos h
theorem suW_n {c : Cf} {a b : Int32} (h : ¬ InF a) : suW c a b = c := if_neg h
theorem CfA.y {G : EnvG} {x t s : Nat} {c : Cf} {a b : Int32} {Φ : Hm} (hi : InF a) (h : CfA G x t s (suC c a b) Φ) : CfA G x t s (suW c a b) Φ := by
  rw [suW_y hi]
  exact h
theorem CfA.n {G : EnvG} {x t s : Nat} {c : Cf} {a b : Int32} {Φ : Hm} (hi : ¬ InF a) (h : CfA G x t s c Φ) : CfA G x t s (suW c a b) Φ := by
  rw [suW_n hi]
  exact h
theorem suV_01 (c : Cf) (a : Int32) : suV c a = 0 ∨ suV c a = 1 := by
  by_cases h : bitI a (c 9)
  · exact Or.inr (suV_1 h)
  · exact Or.inl (suV_0 h)
/-- an answer with a code: 0 and the value where both are so; else why not -/
noncomputable def AnsR (C1 C2 : Prop) (F : Int64) (k : Int32) (w : Int64) : Prop := (C1 ∧ C2 ∧ k = 0 ∧ w = F) ∨ (¬ C1 ∧ k = 1) ∨ (C1 ∧ ¬ C2 ∧ k = 2)
theorem AnsR_fun {C1 C2 : Prop} {F F2 : Int64} {k k2 : Int32} {w w2 : Int64} (h : AnsR C1 C2 F k w) (h2 : AnsR C1 C2 F2 k2 w2) (hF : C1 → C2 → F = F2) : k2 = k ∧ (k = 0 → w = w2) := by
  rcases h with ⟨a1, a2, rfl, rfl⟩ | ⟨a1, rfl⟩ | ⟨a1, a2, rfl⟩ <;> rcases h2 with ⟨b1, b2, rfl, rfl⟩ | ⟨b1, rfl⟩ | ⟨b1, b2, rfl⟩
  · exact ⟨rfl, fun _ => hF a1 a2⟩
  · exact absurd a1 b1
  · exact absurd a2 b2
  · exact absurd b1 a1
  · exact ⟨rfl, fun h => absurd h (by decide)⟩
  · exact absurd b1 a1
  · exact absurd b2 a2
  · exact absurd a1 b1
  · exact ⟨rfl, fun h => absurd h (by decide)⟩
theorem b2l_0 {r : Int32} (h : r = 0) : (0 : Int64) = r.toInt64 := by
  subst h
  decide
theorem b2l_1 {r : Int32} (h : r = 0 ∨ r = 1) (h2 : ¬ r = 0) : (1 : Int64) = r.toInt64 := by
  rcases h with h | h
  · exact absurd h h2
  · subst h
    decide

set_option maxHeartbeats 4000000 in
set_option maxRecDepth 100000 in
theorem s_X11_templateCountC (G : EnvG) (l : Launch) (Φ : Hm) (sz x ca : Nat) (t : Nat) (s : Nat) (c : Cf) (hx : G.2.2.2 ≤ x) (hI : In G x ca Φ) (hcf0 : CfA G x t s c Φ) : Ct G l yX11_templateCount wsX11_templateCount ({ frames := 0, cells := 0, slots := 0, locals := 0 }) 0 0 [.ref x] Φ sz (fun v Φ1 sz1 => (v = some (.int (c 10))) ∧ sz1 = sz ∧ In G x (ca) Φ1 ∧ Fr x (fun j9 => False) Φ Φ1) := by
  refine Ct.of (cc := cX11_templateCount) (maxL := 1) (ret := (some .int)) (by decide) rfl (Nat.le_of_ble_eq_true rfl) ?_
  intro p9 e9 s9 m9 w9 t9 k9 B
  show Z p9 l e9 _ s9 m9 _ w9 t9 k9 _ G 1 0 [(0, .ref x)] [] Φ sz 0 0
  have h_1 : Φ (x + 3) = some (o_ 3 [.ref (x + 4), .ref (x + 5), .ref (x + 6), .ref (x + 7), .int (nI t), .int (nI s)]) := CfA.obj hcf0
  have b_1 := hcf0.1.2.1
  refine z_aload_n B dX11_templateCount_0 rfl 0 rfl ?_
  have h_2 := in0 (k := 0) hI rfl
  have h_3 : Φ x = some (o_ 13 [.ref (x + 1), .ref (x + 3), .ref (x + 24), .ref (x + 46), .ref (x + 74), .ref (x + 80), .ref (x + 132), .ref (x + 121)]) := h_2
  refine z_get (ref := "FlowExporter") (C := RX11) (T := TX11) (N := 8) (ci := 13) (v := .ref (x + 3)) B hu_X11_templateCount_X11 rfl 1 (Nat.le_of_ble_eq_true rfl) hv_X11_templateCount_21 rfl h_3 rfl dX11_templateCount_1 ?_
  refine z_get (ref := "FlowExporter$Config") (C := RX1) (T := TX1) (N := 6) (ci := 3) (v := .int (nI t)) B hu_X11_templateCount_X1 rfl 4 (Nat.le_of_ble_eq_true rfl) hv_X11_templateCount_191 rfl h_1 rfl dX11_templateCount_4 ?_
  exact z_ret_i B dX11_templateCount_7 ⟨(congrArg (fun w9 : Int32 => some (Value.int w9)) hcf0.1.1.symm), rfl, hI, (fun b9 h9 => rfl)⟩

set_option maxHeartbeats 4000000 in
set_option maxRecDepth 100000 in
theorem s_X11_requireTemplateC (G : EnvG) (l : Launch) (hl9 : l.stackTraces = false) (Φ : Hm) (sz x ca : Nat) (t : Nat) (s : Nat) (c : Cf) (a : Int32) (hx : G.2.2.2 ≤ x) (hI : In G x ca Φ) (hcf0 : CfA G x t s c Φ) : CtB G l yX11_requireTemplate wsX11_requireTemplate ({ frames := 6, cells := 1, slots := 6, locals := 81 }) 1 6 [.ref x, .int a] Φ sz (fun v Φ1 sz1 => (v = none ∧ ∃ u9 : Nat, u9 < t ∧ a = nI u9) ∧ sz1 = sz ∧ In G x (ca) Φ1 ∧ Fr x (fun j9 => False) Φ Φ1) (fun Φ1 => (¬ InT c a) ∧ In G x ca Φ1 ∧ Fr x (fun j9 => False) Φ Φ1) [xIO] := by
  refine CtB.of (cc := cX11_requireTemplate) (maxL := 2) (ret := none) (by decide) rfl (Nat.le_of_ble_eq_true rfl) ?_
  intro p9 e9 s9 m9 w9 t9 k9 B htab9
  show Z p9 l e9 _ s9 m9 _ w9 t9 k9 _ G 2 0 [(0, .ref x), (1, .int a)] [] Φ sz 0 0
  have h_1 : Φ (x + 3) = some (o_ 3 [.ref (x + 4), .ref (x + 5), .ref (x + 6), .ref (x + 7), .int (nI t), .int (nI s)]) := CfA.obj hcf0
  have b_1 := hcf0.1.2.1
  refine z_iload_n B dX11_requireTemplate_0 rfl 1 rfl ?_
  refine z_if_lt (tgt := 15) B dX11_requireTemplate_1 rfl (fun c_1 => ?_) (fun c_1 => ?_)
  · have k_1 : (0 : Int32).toInt = 0 := by decide
    have q_1 : (a.toInt < (0 : Int32).toInt) := Int32.lt_iff_toInt_lt.mp c_1
    exact zb_throw (cls := xIO) (ik := 153) (ic := 155) B hl9 htab9 (by decide) ⟨(fun h9 => by obtain ⟨h8, h7⟩ := h9; have h6 : (c 10).toInt = (t : Nat) := (congrArg Int32.toInt hcf0.1.1).trans (nI_toInt (by omega)); omega), hI, (fun b9 h9 => rfl)⟩ (by decide) (by decide +kernel) (by decide +kernel) (by decide +kernel) (by decide +kernel) (by decide +kernel) (by decide +kernel) (by decide +kernel) dX11_requireTemplate_15 dX11_requireTemplate_18 dX11_requireTemplate_19 dX11_requireTemplate_22 ⟨Nat.le_of_ble_eq_true rfl, Nat.le_of_ble_eq_true rfl, Nat.le_of_ble_eq_true rfl, Nat.le_of_ble_eq_true rfl⟩ ⟨Nat.le_of_ble_eq_true rfl, Nat.le_of_ble_eq_true rfl⟩
  · obtain ⟨n_1, e_1, rfl⟩ := nI_of c_1
    refine z_iload_n B dX11_requireTemplate_4 rfl 1 rfl ?_
    refine z_aload_n B dX11_requireTemplate_5 rfl 0 rfl ?_
    have h_2 := in0 (k := 0) hI rfl
    have h_3 : Φ x = some (o_ 13 [.ref (x + 1), .ref (x + 3), .ref (x + 24), .ref (x + 46), .ref (x + 74), .ref (x + 80), .ref (x + 132), .ref (x + 121)]) := h_2
    refine z_get (ref := "FlowExporter") (C := RX11) (T := TX11) (N := 8) (ci := 13) (v := .ref (x + 3)) B hu_X11_requireTemplate_X11 rfl 1 (Nat.le_of_ble_eq_true rfl) hv_X11_requireTemplate_21 rfl h_3 rfl dX11_requireTemplate_6 ?_
    refine z_get (ref := "FlowExporter$Config") (C := RX1) (T := TX1) (N := 6) (ci := 3) (v := .int (nI t)) B hu_X11_requireTemplate_X1 rfl 4 (Nat.le_of_ble_eq_true rfl) hv_X11_requireTemplate_191 rfl h_1 rfl dX11_requireTemplate_9 ?_
    refine z_icmp_lt (tgt := 23) B dX11_requireTemplate_12 rfl (fun c_2 => ?_) (fun c_2 => ?_)
    · have e_2 : n_1 < t := (nI_ltI (a := n_1) (b := t) (by omega) (by omega)).mp c_2
      exact zb_ret (Nat.le_of_ble_eq_true rfl) (Nat.le_of_ble_eq_true rfl) (z_ret_v B dX11_requireTemplate_23 ⟨⟨rfl, n_1, by omega, rfl⟩, rfl, hI, (fun b9 h9 => rfl)⟩)
    · have e_3 : ¬ (n_1 < t) := fun h9 => c_2 ((nI_ltI (a := n_1) (b := t) (by omega) (by omega)).mpr h9)
      have k_2 : (nI n_1).toInt = ((n_1 : Nat) : Int) := nI_toInt (by omega)
      have k_3 : (0 : Int32).toInt = 0 := by decide
      have q_2 : ¬ ((nI n_1).toInt < (0 : Int32).toInt) := fun h9 => c_1 (Int32.lt_iff_toInt_lt.mpr h9)
      have k_4 : (nI t).toInt = ((t : Nat) : Int) := nI_toInt (by omega)
      have q_3 : ¬ ((nI n_1).toInt < (nI t).toInt) := fun h9 => c_2 (Int32.lt_iff_toInt_lt.mpr h9)
      exact zb_throw (cls := xIO) (ik := 153) (ic := 155) B hl9 htab9 (by decide) ⟨(fun h9 => by obtain ⟨h8, h7⟩ := h9; have h6 : (c 10).toInt = (t : Nat) := (congrArg Int32.toInt hcf0.1.1).trans (nI_toInt (by omega)); omega), hI, (fun b9 h9 => rfl)⟩ (by decide) (by decide +kernel) (by decide +kernel) (by decide +kernel) (by decide +kernel) (by decide +kernel) (by decide +kernel) (by decide +kernel) dX11_requireTemplate_15 dX11_requireTemplate_18 dX11_requireTemplate_19 dX11_requireTemplate_22 ⟨Nat.le_of_ble_eq_true rfl, Nat.le_of_ble_eq_true rfl, Nat.le_of_ble_eq_true rfl, Nat.le_of_ble_eq_true rfl⟩ ⟨Nat.le_of_ble_eq_true rfl, Nat.le_of_ble_eq_true rfl⟩

set_option maxHeartbeats 4000000 in
set_option maxRecDepth 100000 in
theorem s_X1_template3 (G : EnvG) (l : Launch) (Φ : Hm) (sz x ca : Nat) (t : Nat) (hx : G.2.2.2 ≤ x) (hI : In G x ca Φ) (ht : t < 4) : Ct G l yX1_template wsX1_template ({ frames := 0, cells := 0, slots := 0, locals := 0 }) 0 0 [.ref (x + 3), .int (nI t)] Φ sz (fun v Φ1 sz1 => (v = some (.ref (x + (8 + 4 * t)))) ∧ sz1 = sz ∧ In G x (ca) Φ1 ∧ Fr x (fun j9 => False) Φ Φ1) := by
  refine Ct.of (cc := cX1_template) (maxL := 2) (ret := (some (.object "FlowExporter$Template"))) (by decide) rfl (Nat.le_of_ble_eq_true rfl) ?_
  intro p9 e9 s9 m9 w9 t9 k9 B
  show Z p9 l e9 _ s9 m9 _ w9 t9 k9 _ G 2 0 [(0, .ref (x + 3)), (1, .int (nI t))] [] Φ sz 0 0
  refine z_aload_n B dX1_template_0 rfl 0 rfl ?_
  obtain ⟨v_1, v_2, h_1⟩ := in3 (k := 3) hI rfl
  have h_2 : Φ (x + 3) = some (o_ 3 [.ref (x + 4), .ref (x + 5), .ref (x + 6), .ref (x + 7), .int v_1, .int v_2]) := h_1
  refine z_get (ref := "FlowExporter$Config") (C := RX1) (T := TX1) (N := 6) (ci := 3) (v := .ref (x + 6)) B hu_X1_template_X1 rfl 2 (Nat.le_of_ble_eq_true rfl) hv_X1_template_20 rfl h_2 rfl dX1_template_1 ?_
  refine z_iload_n B dX1_template_4 rfl 1 rfl ?_
  refine z_if_lt (tgt := 17) B dX1_template_5 rfl (fun c_1 => ?_) (fun c_1 => ?_)
  · have e_1 : t < 0 := (nI_ltI (a := t) (b := 0) (by omega) (by omega)).mp c_1
    refine z_iconst (v := 0) B dX1_template_17 rfl ?_
    obtain ⟨f_1, h_3, r_1⟩ := in6 (k := 6) hI rfl
    have h_4 : Φ (x + 6) = some (aq_ G 4 4 f_1) := h_3
    refine z_aald (b := x + 8) B rfl h_4 (vin rfl) ((r_1 0 (by omega))) dX1_template_18 ?_
    exact z_ret_a B dX1_template_19 ⟨(congrArg (fun w9 : Nat => some (Value.ref (x + w9))) (show 8 = 8 + 4 * t by omega)), rfl, hI, (fun b9 h9 => rfl)⟩
  · have e_2 : ¬ (t < 0) := fun h9 => c_1 ((nI_ltI (a := t) (b := 0) (by omega) (by omega)).mpr h9)
    refine z_iload_n B dX1_template_8 rfl 1 rfl ?_
    refine z_iconst (v := 4) B dX1_template_9 rfl ?_
    refine z_icmp_ge (tgt := 17) B dX1_template_10 rfl (fun c_2 => ?_) (fun c_2 => ?_)
    · have e_3 : 4 ≤ t := (nI_leI (a := 4) (b := t) (by omega) (by omega)).mp c_2
      refine z_iconst (v := 0) B dX1_template_17 rfl ?_
      obtain ⟨f_2, h_5, r_2⟩ := in6 (k := 6) hI rfl
      have h_6 : Φ (x + 6) = some (aq_ G 4 4 f_2) := h_5
      refine z_aald (b := x + 8) B rfl h_6 (vin rfl) ((r_2 0 (by omega))) dX1_template_18 ?_
      exact z_ret_a B dX1_template_19 ⟨(congrArg (fun w9 : Nat => some (Value.ref (x + w9))) (show 8 = 8 + 4 * t by omega)), rfl, hI, (fun b9 h9 => rfl)⟩
    · have e_4 : ¬ (4 ≤ t) := fun h9 => c_2 ((nI_leI (a := 4) (b := t) (by omega) (by omega)).mpr h9)
      refine z_iload_n B dX1_template_13 rfl 1 rfl ?_
      refine z_goto (tgt := 18) B dX1_template_14 rfl ?_
      obtain ⟨f_3, h_7, r_3⟩ := in6 (k := 6) hI rfl
      have h_8 : Φ (x + 6) = some (aq_ G 4 4 f_3) := h_7
      refine z_aald (b := x + (6 + 2 + 4 * t)) B rfl h_8 (vp_in_nI (by omega) (by omega)) ((congrArg f_3 (nI_clamp (by omega))).trans (r_3 t (by omega))) dX1_template_18 ?_
      exact z_ret_a B dX1_template_19 ⟨(congrArg (fun w9 : Nat => some (Value.ref (x + w9))) (show 6 + 2 + 4 * t = 8 + 4 * t by omega)), rfl, hI, (fun b9 h9 => rfl)⟩

set_option maxHeartbeats 4000000 in
set_option maxRecDepth 100000 in
theorem s_X1_effective3 (G : EnvG) (l : Launch) (Φ : Hm) (sz x ca : Nat) (t : Nat) (hx : G.2.2.2 ≤ x) (hI : In G x ca Φ) (ht : t < 4) : Ct G l yX1_effective wsX1_effective ({ frames := 0, cells := 0, slots := 0, locals := 0 }) 0 0 [.ref (x + 3), .int (nI t)] Φ sz (fun v Φ1 sz1 => (v = some (.ref (x + (10 + 4 * t)))) ∧ sz1 = sz ∧ In G x (ca) Φ1 ∧ Fr x (fun j9 => False) Φ Φ1) := by
  refine Ct.of (cc := cX1_effective) (maxL := 2) (ret := (some (.object "FlowExporter$Template"))) (by decide) rfl (Nat.le_of_ble_eq_true rfl) ?_
  intro p9 e9 s9 m9 w9 t9 k9 B
  show Z p9 l e9 _ s9 m9 _ w9 t9 k9 _ G 2 0 [(0, .ref (x + 3)), (1, .int (nI t))] [] Φ sz 0 0
  refine z_aload_n B dX1_effective_0 rfl 0 rfl ?_
  obtain ⟨v_1, v_2, h_1⟩ := in3 (k := 3) hI rfl
  have h_2 : Φ (x + 3) = some (o_ 3 [.ref (x + 4), .ref (x + 5), .ref (x + 6), .ref (x + 7), .int v_1, .int v_2]) := h_1
  refine z_get (ref := "FlowExporter$Config") (C := RX1) (T := TX1) (N := 6) (ci := 3) (v := .ref (x + 7)) B hu_X1_effective_X1 rfl 3 (Nat.le_of_ble_eq_true rfl) hv_X1_effective_24 rfl h_2 rfl dX1_effective_1 ?_
  refine z_iload_n B dX1_effective_4 rfl 1 rfl ?_
  refine z_if_lt (tgt := 17) B dX1_effective_5 rfl (fun c_1 => ?_) (fun c_1 => ?_)
  · have e_1 : t < 0 := (nI_ltI (a := t) (b := 0) (by omega) (by omega)).mp c_1
    refine z_iconst (v := 0) B dX1_effective_17 rfl ?_
    obtain ⟨f_1, h_3, r_1⟩ := in7 (k := 7) hI rfl
    have h_4 : Φ (x + 7) = some (aq_ G 4 4 f_1) := h_3
    refine z_aald (b := x + 10) B rfl h_4 (vin rfl) ((r_1 0 (by omega))) dX1_effective_18 ?_
    exact z_ret_a B dX1_effective_19 ⟨(congrArg (fun w9 : Nat => some (Value.ref (x + w9))) (show 10 = 10 + 4 * t by omega)), rfl, hI, (fun b9 h9 => rfl)⟩
  · have e_2 : ¬ (t < 0) := fun h9 => c_1 ((nI_ltI (a := t) (b := 0) (by omega) (by omega)).mpr h9)
    refine z_iload_n B dX1_effective_8 rfl 1 rfl ?_
    refine z_iconst (v := 4) B dX1_effective_9 rfl ?_
    refine z_icmp_ge (tgt := 17) B dX1_effective_10 rfl (fun c_2 => ?_) (fun c_2 => ?_)
    · have e_3 : 4 ≤ t := (nI_leI (a := 4) (b := t) (by omega) (by omega)).mp c_2
      refine z_iconst (v := 0) B dX1_effective_17 rfl ?_
      obtain ⟨f_2, h_5, r_2⟩ := in7 (k := 7) hI rfl
      have h_6 : Φ (x + 7) = some (aq_ G 4 4 f_2) := h_5
      refine z_aald (b := x + 10) B rfl h_6 (vin rfl) ((r_2 0 (by omega))) dX1_effective_18 ?_
      exact z_ret_a B dX1_effective_19 ⟨(congrArg (fun w9 : Nat => some (Value.ref (x + w9))) (show 10 = 10 + 4 * t by omega)), rfl, hI, (fun b9 h9 => rfl)⟩
    · have e_4 : ¬ (4 ≤ t) := fun h9 => c_2 ((nI_leI (a := 4) (b := t) (by omega) (by omega)).mpr h9)
      refine z_iload_n B dX1_effective_13 rfl 1 rfl ?_
      refine z_goto (tgt := 18) B dX1_effective_14 rfl ?_
      obtain ⟨f_3, h_7, r_3⟩ := in7 (k := 7) hI rfl
      have h_8 : Φ (x + 7) = some (aq_ G 4 4 f_3) := h_7
      refine z_aald (b := x + (7 + 3 + 4 * t)) B rfl h_8 (vp_in_nI (by omega) (by omega)) ((congrArg f_3 (nI_clamp (by omega))).trans (r_3 t (by omega))) dX1_effective_18 ?_
      exact z_ret_a B dX1_effective_19 ⟨(congrArg (fun w9 : Nat => some (Value.ref (x + w9))) (show 7 + 3 + 4 * t = 10 + 4 * t by omega)), rfl, hI, (fun b9 h9 => rfl)⟩

set_option maxHeartbeats 4000000 in
set_option maxRecDepth 100000 in
theorem s_X10_fieldA (G : EnvG) (l : Launch) (Φ : Hm) (sz x ca : Nat) (m : Nat) (ms : Int32) (rb : Int32) (f : Nat → Int32) (k : Nat) (p : Int32) (hx : G.2.2.2 ≤ x) (hI : In G x ca Φ) (hk_k : kd k = 8) (hc0 : Φ (x + (k)) = some (o_ 12 [.ref (x + (k + 1)), .int (nI m), .int ms, .int rb])) (hc1 : Φ (x + (k + 1)) = some (ai_ G 9 f)) (hm : m ≤ 9) : Ct G l yX10_field wsX10_field ({ frames := 0, cells := 0, slots := 0, locals := 0 }) 0 0 [.ref (x + (k)), .int p] Φ sz (fun v Φ1 sz1 => (v = some (.int (faV f m p))) ∧ sz1 = sz ∧ In G x (ca) Φ1 ∧ Fr x (fun j9 => False) Φ Φ1) := by
  refine Ct.of (cc := cX10_field) (maxL := 2) (ret := (some .int)) (by decide) rfl (Nat.le_of_ble_eq_true rfl) ?_
  intro p9 e9 s9 m9 w9 t9 k9 B
  show Z p9 l e9 _ s9 m9 _ w9 t9 k9 _ G 2 0 [(0, .ref (x + (k))), (1, .int p)] [] Φ sz 0 0
  refine z_iload_n B dX10_field_0 rfl 1 rfl ?_
  refine z_if_lt (tgt := 21) B dX10_field_1 rfl (fun c_1 => ?_) (fun c_1 => ?_)
  · refine z_iconst (v := (-1)) B dX10_field_21 rfl ?_
    have k_1 : (0 : Int32).toInt = 0 := by decide
    have q_1 : (p.toInt < (0 : Int32).toInt) := Int32.lt_iff_toInt_lt.mp c_1
    exact z_ret_i B dX10_field_22 ⟨(congrArg (fun w9 : Int32 => some (Value.int w9)) (faV_no (by omega)).symm), rfl, hI, (fun b9 h9 => rfl)⟩
  · obtain ⟨n_1, e_1, rfl⟩ := nI_of c_1
    refine z_iload_n B dX10_field_4 rfl 1 rfl ?_
    refine z_aload_n B dX10_field_5 rfl 0 rfl ?_
    refine z_get (ref := "FlowExporter$Template") (C := RX10) (T := TX10) (N := 4) (ci := 12) (v := .int (nI m)) B hu_X10_field_X10 rfl 1 (Nat.le_of_ble_eq_true rfl) hv_X10_field_15 rfl hc0 rfl dX10_field_6 ?_
    refine z_icmp_ge (tgt := 21) B dX10_field_9 rfl (fun c_2 => ?_) (fun c_2 => ?_)
    · have e_2 : m ≤ n_1 := (nI_leI (a := m) (b := n_1) (by omega) (by omega)).mp c_2
      refine z_iconst (v := (-1)) B dX10_field_21 rfl ?_
      have k_2 : (nI n_1).toInt = ((n_1 : Nat) : Int) := nI_toInt (by omega)
      have k_3 : (0 : Int32).toInt = 0 := by decide
      have q_2 : ¬ ((nI n_1).toInt < (0 : Int32).toInt) := fun h9 => c_1 (Int32.lt_iff_toInt_lt.mpr h9)
      have k_4 : (nI m).toInt = ((m : Nat) : Int) := nI_toInt (by omega)
      have q_3 : ((nI m).toInt ≤ (nI n_1).toInt) := Int32.le_iff_toInt_le.mp c_2
      exact z_ret_i B dX10_field_22 ⟨(congrArg (fun w9 : Int32 => some (Value.int w9)) (faV_no (by omega)).symm), rfl, hI, (fun b9 h9 => rfl)⟩
    · have e_3 : ¬ (m ≤ n_1) := fun h9 => c_2 ((nI_leI (a := m) (b := n_1) (by omega) (by omega)).mpr h9)
      refine z_aload_n B dX10_field_12 rfl 0 rfl ?_
      refine z_get (ref := "FlowExporter$Template") (C := RX10) (T := TX10) (N := 4) (ci := 12) (v := .ref (x + (k + 1))) B hu_X10_field_X10 rfl 0 (Nat.le_of_ble_eq_true rfl) hv_X10_field_9 rfl hc0 rfl dX10_field_13 ?_
      refine z_iload_n B dX10_field_16 rfl 1 rfl ?_
      refine z_iald B hc1 (vp_in_nI (by omega) (by omega)) dX10_field_17 ?_
      refine z_goto (tgt := 22) B dX10_field_18 rfl ?_
      have k_5 : (nI n_1).toInt = ((n_1 : Nat) : Int) := nI_toInt (by omega)
      have k_6 : (0 : Int32).toInt = 0 := by decide
      have q_4 : ¬ ((nI n_1).toInt < (0 : Int32).toInt) := fun h9 => c_1 (Int32.lt_iff_toInt_lt.mpr h9)
      have k_7 : (nI m).toInt = ((m : Nat) : Int) := nI_toInt (by omega)
      have q_5 : ¬ ((nI m).toInt ≤ (nI n_1).toInt) := fun h9 => c_2 (Int32.le_iff_toInt_le.mpr h9)
      exact z_ret_i B dX10_field_22 ⟨(congrArg (fun w9 : Int32 => some (Value.int w9)) (faV_ok (by omega)).symm), rfl, hI, (fun b9 h9 => rfl)⟩

set_option maxHeartbeats 4000000 in
set_option maxRecDepth 100000 in
theorem s_X11_templateFieldsC (G : EnvG) (l : Launch) (hl9 : l.stackTraces = false) (Φ : Hm) (sz x ca : Nat) (t : Nat) (s : Nat) (c : Cf) (a : Int32) (hx : G.2.2.2 ≤ x) (hI : In G x ca Φ) (hcf0 : CfA G x t s c Φ) : CtB G l yX11_templateFields wsX11_templateFields ({ frames := 7, cells := 1, slots := 6, locals := 102 }) 1 6 [.ref x, .int a] Φ sz (fun v Φ1 sz1 => (∃ u9 : Nat, u9 < t ∧ a = nI u9 ∧ v = some (.int (tfF c u9))) ∧ sz1 = sz ∧ In G x (ca) Φ1 ∧ Fr x (fun j9 => False) Φ Φ1) (fun Φ1 => (¬ InT c a) ∧ In G x ca Φ1 ∧ Fr x (fun j9 => False) Φ Φ1) [xIO] := by
  refine CtB.of (cc := cX11_templateFields) (maxL := 2) (ret := (some .int)) (by decide) rfl (Nat.le_of_ble_eq_true rfl) ?_
  intro p9 e9 s9 m9 w9 t9 k9 B htab9
  show Z p9 l e9 _ s9 m9 _ w9 t9 k9 _ G 2 0 [(0, .ref x), (1, .int a)] [] Φ sz 0 0
  refine z_aload_n B dX11_templateFields_0 rfl 0 rfl ?_
  refine z_iload_n B dX11_templateFields_1 rfl 1 rfl ?_
  have h_1 : Φ (x + 3) = some (o_ 3 [.ref (x + 4), .ref (x + 5), .ref (x + 6), .ref (x + 7), .int (nI t), .int (nI s)]) := CfA.obj hcf0
  have b_1 := hcf0.1.2.1
  have h_2 := in0 (k := 0) hI rfl
  have h_3 : Φ x = some (o_ 13 [.ref (x + 1), .ref (x + 3), .ref (x + 24), .ref (x + 46), .ref (x + 74), .ref (x + 80), .ref (x + 132), .ref (x + 121)]) := h_2
  refine zb_callV (As := [.int a]) (rest := []) B htab9 (s_X11_requireTemplateC G l hl9 Φ sz x (ca) t s c a hx hI hcf0) (cwV 1 B.1.2.2.2.2 gX11_templateFields_X11_requireTemplate rfl rfl rfl (by decide +kernel) ⟨Nat.le_of_ble_eq_true rfl, Nat.le_of_ble_eq_true rfl⟩) h_3 rfl rfl rfl rfl (Nat.le_of_ble_eq_true rfl) dX11_templateFields_2 ⟨Nat.le_of_ble_eq_true rfl, Nat.le_of_ble_eq_true rfl⟩ ⟨Nat.le_of_ble_eq_true rfl, Nat.le_of_ble_eq_true rfl⟩ (by decide) (fun Φ9 h9 => ⟨h9.1, h9.2.1, fun b9 h8 => ((h9.2.2 b9 h8).trans ((fun b9 h9 => rfl) b9 h8))⟩) (fun r_1 Φ1 sz1 st1 hp1 hs1 => ?_)
  obtain ⟨⟨rfl, n_1, b_2, rfl⟩, hq1, hI1, hF1⟩ := hp1
  subst sz1
  replace hs1 : st1 = [] := hs1
  subst st1
  replace hI1 : In G x (ca) Φ1 := hI1
  replace b_2 : n_1 < t := b_2
  have hcg1 : CfA G x t s c Φ1 := (CfA.fr hcf0 hF1 (fun j9 h7 => (show False from h7).elim))
  have h_4 : Φ1 (x + 3) = some (o_ 3 [.ref (x + 4), .ref (x + 5), .ref (x + 6), .ref (x + 7), .int (nI t), .int (nI s)]) := CfA.obj hcg1
  have b_3 := hcg1.1.2.1
  refine z_aload_n B dX11_templateFields_5 rfl 0 rfl ?_
  have h_5 : Φ1 x = some (o_ 13 [.ref (x + 1), .ref (x + 3), .ref (x + 24), .ref (x + 46), .ref (x + 74), .ref (x + 80), .ref (x + 132), .ref (x + 121)]) := ((hF1 x (fun j9 h8 h7 => (show False from h7).elim)).trans h_3)
  refine z_get (ref := "FlowExporter") (C := RX11) (T := TX11) (N := 8) (ci := 13) (v := .ref (x + 3)) B hu_X11_templateFields_X11 rfl 1 (Nat.le_of_ble_eq_true rfl) hv_X11_templateFields_21 rfl h_5 rfl dX11_templateFields_6 ?_
  refine z_iload_n B dX11_templateFields_9 rfl 1 rfl ?_
  refine z_callV (As := [.int (nI n_1)]) (rest := []) B (s_X1_template3 G l Φ1 sz x (ca) n_1 hx hI1 (show n_1 < 4 by omega)) (cwV 1 B.1.2.2.2.2 gX11_templateFields_X1_template rfl rfl rfl (by decide +kernel) ⟨Nat.le_of_ble_eq_true rfl, Nat.le_of_ble_eq_true rfl⟩) h_4 rfl rfl rfl rfl (Nat.le_of_ble_eq_true rfl) dX11_templateFields_10 ⟨Nat.le_of_ble_eq_true rfl, Nat.le_of_ble_eq_true rfl⟩ (fun r_2 Φ2 sz2 st2 hp2 hs2 => ?_)
  obtain ⟨rfl, hq2, hI2, hF2⟩ := hp2
  subst sz2
  replace hs2 : st2 = [.ref (x + (8 + 4 * n_1))] := hs2
  subst st2
  replace hI2 : In G x (ca) Φ2 := hI2
  have hcg2 : CfA G x t s c Φ2 := (CfA.fr hcg1 hF2 (fun j9 h7 => (show False from h7).elim))
  obtain ⟨m_1, f_1, b_4, e_1, e_2, h_6, h_7⟩ := CfA.wt (u := n_1) hcg2 (by omega) (by omega)
  refine z_get (ref := "FlowExporter$Template") (C := RX10) (T := TX10) (N := 4) (ci := 12) (v := .int (tfF c n_1)) B hu_X11_templateFields_X10 rfl 2 (Nat.le_of_ble_eq_true rfl) hv_X11_templateFields_201 rfl h_6 rfl dX11_templateFields_13 ?_
  exact zb_ret (Nat.le_of_ble_eq_true rfl) (Nat.le_of_ble_eq_true rfl) (z_ret_i B dX11_templateFields_16 ⟨⟨n_1, by omega, rfl, rfl⟩, rfl, hI2, (fun b9 h9 => ((hF2 b9 (fun j9 h8 h7 => (show False from h7).elim)).trans ((hF1 b9 (fun j9 h8 h7 => (show False from h7).elim)).trans rfl)))⟩)

set_option maxHeartbeats 4000000 in
set_option maxRecDepth 100000 in
theorem s_X11_effectiveFieldsC (G : EnvG) (l : Launch) (hl9 : l.stackTraces = false) (Φ : Hm) (sz x ca : Nat) (t : Nat) (s : Nat) (c : Cf) (a : Int32) (hx : G.2.2.2 ≤ x) (hI : In G x ca Φ) (hcf0 : CfA G x t s c Φ) : CtB G l yX11_effectiveFields wsX11_effectiveFields ({ frames := 7, cells := 1, slots := 6, locals := 102 }) 1 6 [.ref x, .int a] Φ sz (fun v Φ1 sz1 => (∃ u9 : Nat, u9 < t ∧ a = nI u9 ∧ v = some (.int (efF c u9))) ∧ sz1 = sz ∧ In G x (ca) Φ1 ∧ Fr x (fun j9 => False) Φ Φ1) (fun Φ1 => (¬ InT c a) ∧ In G x ca Φ1 ∧ Fr x (fun j9 => False) Φ Φ1) [xIO] := by
  refine CtB.of (cc := cX11_effectiveFields) (maxL := 2) (ret := (some .int)) (by decide) rfl (Nat.le_of_ble_eq_true rfl) ?_
  intro p9 e9 s9 m9 w9 t9 k9 B htab9
  show Z p9 l e9 _ s9 m9 _ w9 t9 k9 _ G 2 0 [(0, .ref x), (1, .int a)] [] Φ sz 0 0
  refine z_aload_n B dX11_effectiveFields_0 rfl 0 rfl ?_
  refine z_iload_n B dX11_effectiveFields_1 rfl 1 rfl ?_
  have h_1 : Φ (x + 3) = some (o_ 3 [.ref (x + 4), .ref (x + 5), .ref (x + 6), .ref (x + 7), .int (nI t), .int (nI s)]) := CfA.obj hcf0
  have b_1 := hcf0.1.2.1
  have h_2 := in0 (k := 0) hI rfl
  have h_3 : Φ x = some (o_ 13 [.ref (x + 1), .ref (x + 3), .ref (x + 24), .ref (x + 46), .ref (x + 74), .ref (x + 80), .ref (x + 132), .ref (x + 121)]) := h_2
  refine zb_callV (As := [.int a]) (rest := []) B htab9 (s_X11_requireTemplateC G l hl9 Φ sz x (ca) t s c a hx hI hcf0) (cwV 1 B.1.2.2.2.2 gX11_effectiveFields_X11_requireTemplate rfl rfl rfl (by decide +kernel) ⟨Nat.le_of_ble_eq_true rfl, Nat.le_of_ble_eq_true rfl⟩) h_3 rfl rfl rfl rfl (Nat.le_of_ble_eq_true rfl) dX11_effectiveFields_2 ⟨Nat.le_of_ble_eq_true rfl, Nat.le_of_ble_eq_true rfl⟩ ⟨Nat.le_of_ble_eq_true rfl, Nat.le_of_ble_eq_true rfl⟩ (by decide) (fun Φ9 h9 => ⟨h9.1, h9.2.1, fun b9 h8 => ((h9.2.2 b9 h8).trans ((fun b9 h9 => rfl) b9 h8))⟩) (fun r_1 Φ1 sz1 st1 hp1 hs1 => ?_)
  obtain ⟨⟨rfl, n_1, b_2, rfl⟩, hq1, hI1, hF1⟩ := hp1
  subst sz1
  replace hs1 : st1 = [] := hs1
  subst st1
  replace hI1 : In G x (ca) Φ1 := hI1
  replace b_2 : n_1 < t := b_2
  have hcg1 : CfA G x t s c Φ1 := (CfA.fr hcf0 hF1 (fun j9 h7 => (show False from h7).elim))
  have h_4 : Φ1 (x + 3) = some (o_ 3 [.ref (x + 4), .ref (x + 5), .ref (x + 6), .ref (x + 7), .int (nI t), .int (nI s)]) := CfA.obj hcg1
  have b_3 := hcg1.1.2.1
  refine z_aload_n B dX11_effectiveFields_5 rfl 0 rfl ?_
  have h_5 : Φ1 x = some (o_ 13 [.ref (x + 1), .ref (x + 3), .ref (x + 24), .ref (x + 46), .ref (x + 74), .ref (x + 80), .ref (x + 132), .ref (x + 121)]) := ((hF1 x (fun j9 h8 h7 => (show False from h7).elim)).trans h_3)
  refine z_get (ref := "FlowExporter") (C := RX11) (T := TX11) (N := 8) (ci := 13) (v := .ref (x + 3)) B hu_X11_effectiveFields_X11 rfl 1 (Nat.le_of_ble_eq_true rfl) hv_X11_effectiveFields_21 rfl h_5 rfl dX11_effectiveFields_6 ?_
  refine z_iload_n B dX11_effectiveFields_9 rfl 1 rfl ?_
  refine z_callV (As := [.int (nI n_1)]) (rest := []) B (s_X1_effective3 G l Φ1 sz x (ca) n_1 hx hI1 (show n_1 < 4 by omega)) (cwV 1 B.1.2.2.2.2 gX11_effectiveFields_X1_effective rfl rfl rfl (by decide +kernel) ⟨Nat.le_of_ble_eq_true rfl, Nat.le_of_ble_eq_true rfl⟩) h_4 rfl rfl rfl rfl (Nat.le_of_ble_eq_true rfl) dX11_effectiveFields_10 ⟨Nat.le_of_ble_eq_true rfl, Nat.le_of_ble_eq_true rfl⟩ (fun r_2 Φ2 sz2 st2 hp2 hs2 => ?_)
  obtain ⟨rfl, hq2, hI2, hF2⟩ := hp2
  subst sz2
  replace hs2 : st2 = [.ref (x + (10 + 4 * n_1))] := hs2
  subst st2
  replace hI2 : In G x (ca) Φ2 := hI2
  have hcg2 : CfA G x t s c Φ2 := (CfA.fr hcg1 hF2 (fun j9 h7 => (show False from h7).elim))
  obtain ⟨m_1, h_6⟩ := CfA.et (u := n_1) hcg2 (by omega) (by omega)
  refine z_get (ref := "FlowExporter$Template") (C := RX10) (T := TX10) (N := 4) (ci := 12) (v := .int (efF c n_1)) B hu_X11_effectiveFields_X10 rfl 2 (Nat.le_of_ble_eq_true rfl) hv_X11_effectiveFields_201 rfl h_6 rfl dX11_effectiveFields_13 ?_
  exact zb_ret (Nat.le_of_ble_eq_true rfl) (Nat.le_of_ble_eq_true rfl) (z_ret_i B dX11_effectiveFields_16 ⟨⟨n_1, by omega, rfl, rfl⟩, rfl, hI2, (fun b9 h9 => ((hF2 b9 (fun j9 h8 h7 => (show False from h7).elim)).trans ((hF1 b9 (fun j9 h8 h7 => (show False from h7).elim)).trans rfl)))⟩)

set_option maxHeartbeats 4000000 in
set_option maxRecDepth 100000 in
theorem s_X11_recordLengthC (G : EnvG) (l : Launch) (hl9 : l.stackTraces = false) (Φ : Hm) (sz x ca : Nat) (t : Nat) (s : Nat) (c : Cf) (a : Int32) (hx : G.2.2.2 ≤ x) (hI : In G x ca Φ) (hcf0 : CfA G x t s c Φ) : CtB G l yX11_recordLength wsX11_recordLength ({ frames := 7, cells := 1, slots := 6, locals := 102 }) 1 6 [.ref x, .int a] Φ sz (fun v Φ1 sz1 => (∃ u9 : Nat, u9 < t ∧ a = nI u9 ∧ v = some (.int (rlF c u9))) ∧ sz1 = sz ∧ In G x (ca) Φ1 ∧ Fr x (fun j9 => False) Φ Φ1) (fun Φ1 => (¬ InT c a) ∧ In G x ca Φ1 ∧ Fr x (fun j9 => False) Φ Φ1) [xIO] := by
  refine CtB.of (cc := cX11_recordLength) (maxL := 2) (ret := (some .int)) (by decide) rfl (Nat.le_of_ble_eq_true rfl) ?_
  intro p9 e9 s9 m9 w9 t9 k9 B htab9
  show Z p9 l e9 _ s9 m9 _ w9 t9 k9 _ G 2 0 [(0, .ref x), (1, .int a)] [] Φ sz 0 0
  refine z_aload_n B dX11_recordLength_0 rfl 0 rfl ?_
  refine z_iload_n B dX11_recordLength_1 rfl 1 rfl ?_
  have h_1 : Φ (x + 3) = some (o_ 3 [.ref (x + 4), .ref (x + 5), .ref (x + 6), .ref (x + 7), .int (nI t), .int (nI s)]) := CfA.obj hcf0
  have b_1 := hcf0.1.2.1
  have h_2 := in0 (k := 0) hI rfl
  have h_3 : Φ x = some (o_ 13 [.ref (x + 1), .ref (x + 3), .ref (x + 24), .ref (x + 46), .ref (x + 74), .ref (x + 80), .ref (x + 132), .ref (x + 121)]) := h_2
  refine zb_callV (As := [.int a]) (rest := []) B htab9 (s_X11_requireTemplateC G l hl9 Φ sz x (ca) t s c a hx hI hcf0) (cwV 1 B.1.2.2.2.2 gX11_recordLength_X11_requireTemplate rfl rfl rfl (by decide +kernel) ⟨Nat.le_of_ble_eq_true rfl, Nat.le_of_ble_eq_true rfl⟩) h_3 rfl rfl rfl rfl (Nat.le_of_ble_eq_true rfl) dX11_recordLength_2 ⟨Nat.le_of_ble_eq_true rfl, Nat.le_of_ble_eq_true rfl⟩ ⟨Nat.le_of_ble_eq_true rfl, Nat.le_of_ble_eq_true rfl⟩ (by decide) (fun Φ9 h9 => ⟨h9.1, h9.2.1, fun b9 h8 => ((h9.2.2 b9 h8).trans ((fun b9 h9 => rfl) b9 h8))⟩) (fun r_1 Φ1 sz1 st1 hp1 hs1 => ?_)
  obtain ⟨⟨rfl, n_1, b_2, rfl⟩, hq1, hI1, hF1⟩ := hp1
  subst sz1
  replace hs1 : st1 = [] := hs1
  subst st1
  replace hI1 : In G x (ca) Φ1 := hI1
  replace b_2 : n_1 < t := b_2
  have hcg1 : CfA G x t s c Φ1 := (CfA.fr hcf0 hF1 (fun j9 h7 => (show False from h7).elim))
  have h_4 : Φ1 (x + 3) = some (o_ 3 [.ref (x + 4), .ref (x + 5), .ref (x + 6), .ref (x + 7), .int (nI t), .int (nI s)]) := CfA.obj hcg1
  have b_3 := hcg1.1.2.1
  refine z_aload_n B dX11_recordLength_5 rfl 0 rfl ?_
  have h_5 : Φ1 x = some (o_ 13 [.ref (x + 1), .ref (x + 3), .ref (x + 24), .ref (x + 46), .ref (x + 74), .ref (x + 80), .ref (x + 132), .ref (x + 121)]) := ((hF1 x (fun j9 h8 h7 => (show False from h7).elim)).trans h_3)
  refine z_get (ref := "FlowExporter") (C := RX11) (T := TX11) (N := 8) (ci := 13) (v := .ref (x + 3)) B hu_X11_recordLength_X11 rfl 1 (Nat.le_of_ble_eq_true rfl) hv_X11_recordLength_21 rfl h_5 rfl dX11_recordLength_6 ?_
  refine z_iload_n B dX11_recordLength_9 rfl 1 rfl ?_
  refine z_callV (As := [.int (nI n_1)]) (rest := []) B (s_X1_effective3 G l Φ1 sz x (ca) n_1 hx hI1 (show n_1 < 4 by omega)) (cwV 1 B.1.2.2.2.2 gX11_recordLength_X1_effective rfl rfl rfl (by decide +kernel) ⟨Nat.le_of_ble_eq_true rfl, Nat.le_of_ble_eq_true rfl⟩) h_4 rfl rfl rfl rfl (Nat.le_of_ble_eq_true rfl) dX11_recordLength_10 ⟨Nat.le_of_ble_eq_true rfl, Nat.le_of_ble_eq_true rfl⟩ (fun r_2 Φ2 sz2 st2 hp2 hs2 => ?_)
  obtain ⟨rfl, hq2, hI2, hF2⟩ := hp2
  subst sz2
  replace hs2 : st2 = [.ref (x + (10 + 4 * n_1))] := hs2
  subst st2
  replace hI2 : In G x (ca) Φ2 := hI2
  have hcg2 : CfA G x t s c Φ2 := (CfA.fr hcg1 hF2 (fun j9 h7 => (show False from h7).elim))
  obtain ⟨m_1, h_6⟩ := CfA.et (u := n_1) hcg2 (by omega) (by omega)
  refine z_get (ref := "FlowExporter$Template") (C := RX10) (T := TX10) (N := 4) (ci := 12) (v := .int (rlF c n_1)) B hu_X11_recordLength_X10 rfl 3 (Nat.le_of_ble_eq_true rfl) hv_X11_recordLength_212 rfl h_6 rfl dX11_recordLength_13 ?_
  exact zb_ret (Nat.le_of_ble_eq_true rfl) (Nat.le_of_ble_eq_true rfl) (z_ret_i B dX11_recordLength_16 ⟨⟨n_1, by omega, rfl, rfl⟩, rfl, hI2, (fun b9 h9 => ((hF2 b9 (fun j9 h8 h7 => (show False from h7).elim)).trans ((hF1 b9 (fun j9 h8 h7 => (show False from h7).elim)).trans rfl)))⟩)

set_option maxHeartbeats 4000000 in
set_option maxRecDepth 100000 in
theorem s_X11_fieldAtC (G : EnvG) (l : Launch) (hl9 : l.stackTraces = false) (Φ : Hm) (sz x ca : Nat) (t : Nat) (s : Nat) (c : Cf) (a : Int32) (b : Int32) (hx : G.2.2.2 ≤ x) (hI : In G x ca Φ) (hcf0 : CfA G x t s c Φ) : CtB G l yX11_fieldAt wsX11_fieldAt ({ frames := 7, cells := 1, slots := 6, locals := 102 }) 1 6 [.ref x, .int a, .int b] Φ sz (fun v Φ1 sz1 => (∃ u9 : Nat, u9 < t ∧ a = nI u9 ∧ v = some (.int (faF c u9 b))) ∧ sz1 = sz ∧ In G x (ca) Φ1 ∧ Fr x (fun j9 => False) Φ Φ1) (fun Φ1 => (¬ InT c a) ∧ In G x ca Φ1 ∧ Fr x (fun j9 => False) Φ Φ1) [xIO] := by
  refine CtB.of (cc := cX11_fieldAt) (maxL := 3) (ret := (some .int)) (by decide) rfl (Nat.le_of_ble_eq_true rfl) ?_
  intro p9 e9 s9 m9 w9 t9 k9 B htab9
  show Z p9 l e9 _ s9 m9 _ w9 t9 k9 _ G 3 0 [(0, .ref x), (1, .int a), (2, .int b)] [] Φ sz 0 0
  refine z_aload_n B dX11_fieldAt_0 rfl 0 rfl ?_
  refine z_iload_n B dX11_fieldAt_1 rfl 1 rfl ?_
  have h_1 : Φ (x + 3) = some (o_ 3 [.ref (x + 4), .ref (x + 5), .ref (x + 6), .ref (x + 7), .int (nI t), .int (nI s)]) := CfA.obj hcf0
  have b_1 := hcf0.1.2.1
  have h_2 := in0 (k := 0) hI rfl
  have h_3 : Φ x = some (o_ 13 [.ref (x + 1), .ref (x + 3), .ref (x + 24), .ref (x + 46), .ref (x + 74), .ref (x + 80), .ref (x + 132), .ref (x + 121)]) := h_2
  refine zb_callV (As := [.int a]) (rest := []) B htab9 (s_X11_requireTemplateC G l hl9 Φ sz x (ca) t s c a hx hI hcf0) (cwV 1 B.1.2.2.2.2 gX11_fieldAt_X11_requireTemplate rfl rfl rfl (by decide +kernel) ⟨Nat.le_of_ble_eq_true rfl, Nat.le_of_ble_eq_true rfl⟩) h_3 rfl rfl rfl rfl (Nat.le_of_ble_eq_true rfl) dX11_fieldAt_2 ⟨Nat.le_of_ble_eq_true rfl, Nat.le_of_ble_eq_true rfl⟩ ⟨Nat.le_of_ble_eq_true rfl, Nat.le_of_ble_eq_true rfl⟩ (by decide) (fun Φ9 h9 => ⟨h9.1, h9.2.1, fun b9 h8 => ((h9.2.2 b9 h8).trans ((fun b9 h9 => rfl) b9 h8))⟩) (fun r_1 Φ1 sz1 st1 hp1 hs1 => ?_)
  obtain ⟨⟨rfl, n_1, b_2, rfl⟩, hq1, hI1, hF1⟩ := hp1
  subst sz1
  replace hs1 : st1 = [] := hs1
  subst st1
  replace hI1 : In G x (ca) Φ1 := hI1
  replace b_2 : n_1 < t := b_2
  have hcg1 : CfA G x t s c Φ1 := (CfA.fr hcf0 hF1 (fun j9 h7 => (show False from h7).elim))
  have h_4 : Φ1 (x + 3) = some (o_ 3 [.ref (x + 4), .ref (x + 5), .ref (x + 6), .ref (x + 7), .int (nI t), .int (nI s)]) := CfA.obj hcg1
  have b_3 := hcg1.1.2.1
  refine z_aload_n B dX11_fieldAt_5 rfl 0 rfl ?_
  have h_5 : Φ1 x = some (o_ 13 [.ref (x + 1), .ref (x + 3), .ref (x + 24), .ref (x + 46), .ref (x + 74), .ref (x + 80), .ref (x + 132), .ref (x + 121)]) := ((hF1 x (fun j9 h8 h7 => (show False from h7).elim)).trans h_3)
  refine z_get (ref := "FlowExporter") (C := RX11) (T := TX11) (N := 8) (ci := 13) (v := .ref (x + 3)) B hu_X11_fieldAt_X11 rfl 1 (Nat.le_of_ble_eq_true rfl) hv_X11_fieldAt_21 rfl h_5 rfl dX11_fieldAt_6 ?_
  refine z_iload_n B dX11_fieldAt_9 rfl 1 rfl ?_
  refine z_callV (As := [.int (nI n_1)]) (rest := []) B (s_X1_template3 G l Φ1 sz x (ca) n_1 hx hI1 (show n_1 < 4 by omega)) (cwV 1 B.1.2.2.2.2 gX11_fieldAt_X1_template rfl rfl rfl (by decide +kernel) ⟨Nat.le_of_ble_eq_true rfl, Nat.le_of_ble_eq_true rfl⟩) h_4 rfl rfl rfl rfl (Nat.le_of_ble_eq_true rfl) dX11_fieldAt_10 ⟨Nat.le_of_ble_eq_true rfl, Nat.le_of_ble_eq_true rfl⟩ (fun r_2 Φ2 sz2 st2 hp2 hs2 => ?_)
  obtain ⟨rfl, hq2, hI2, hF2⟩ := hp2
  subst sz2
  replace hs2 : st2 = [.ref (x + (8 + 4 * n_1))] := hs2
  subst st2
  replace hI2 : In G x (ca) Φ2 := hI2
  have hcg2 : CfA G x t s c Φ2 := (CfA.fr hcg1 hF2 (fun j9 h7 => (show False from h7).elim))
  obtain ⟨m_1, f_1, b_4, e_1, e_2, h_6, h_7⟩ := CfA.wt (u := n_1) hcg2 (by omega) (by omega)
  refine z_iload_n B dX11_fieldAt_13 rfl 2 rfl ?_
  refine z_callV (As := [.int b]) (rest := []) B (s_X10_fieldA G l Φ2 sz x (ca) m_1 (tfF c n_1) (fB_ f_1 511 m_1) f_1 (8 + 4 * n_1) b hx hI2 (kd_w (k := 6) rfl (show n_1 < 4 by omega)) h_6 h_7 (show m_1 ≤ 9 by omega)) (cwV 1 B.1.2.2.2.2 gX11_fieldAt_X10_field rfl rfl rfl (by decide +kernel) ⟨Nat.le_of_ble_eq_true rfl, Nat.le_of_ble_eq_true rfl⟩) h_6 rfl rfl rfl rfl (Nat.le_of_ble_eq_true rfl) dX11_fieldAt_14 ⟨Nat.le_of_ble_eq_true rfl, Nat.le_of_ble_eq_true rfl⟩ (fun r_3 Φ3 sz3 st3 hp3 hs3 => ?_)
  obtain ⟨rfl, hq3, hI3, hF3⟩ := hp3
  subst sz3
  replace hs3 : st3 = [.int (faV f_1 m_1 b)] := hs3
  subst st3
  replace hI3 : In G x (ca) Φ3 := hI3
  exact zb_ret (Nat.le_of_ble_eq_true rfl) (Nat.le_of_ble_eq_true rfl) (z_ret_i B dX11_fieldAt_17 ⟨⟨n_1, by omega, rfl, (congrArg (fun w9 : Int32 => some (Value.int w9)) (faV_C b e_1 e_2))⟩, rfl, hI3, (fun b9 h9 => ((hF3 b9 (fun j9 h8 h7 => (show False from h7).elim)).trans ((hF2 b9 (fun j9 h8 h7 => (show False from h7).elim)).trans ((hF1 b9 (fun j9 h8 h7 => (show False from h7).elim)).trans rfl))))⟩)

theorem fq_719 {x : Nat} : ∀ j9 : Nat, x = x + j9 → (j9 = 3 ∨ (10 ≤ j9 ∧ j9 < 24)) → False := by
  intro j9 h1 h2
  omega

theorem fq_720 : ∀ j9 : Nat, (j9 = 3 ∨ (10 ≤ j9 ∧ j9 < 24)) → ((3 ≤ j9 ∧ j9 < 24) ∨ j9 = 78) := by
  intro j9 h
  omega
