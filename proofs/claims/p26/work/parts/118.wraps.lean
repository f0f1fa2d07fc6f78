set_option maxRecDepth 20000 in
theorem ggL_observe_X11_observe : GoodIn wsL_observe wsX11_observe := goodIn_ca (goodIn_ca (goodIn_ca ((goodIn_ca (goodIn_ca (goodIn_ca (goodIn_ca (goodIn_ca (goodIn_ca (goodIn_ca (goodIn_ca (goodIn_ca (goodIn_r _ [6, 7, 8, 9, 10, 11, 12, 13, 14, 15, 5, 16, 17, 18, 19, 20, 21, 22, 23, 24, 25, 26, 27, 28, 29, 30, 31, 32, 33, 34, 35, 36, 37, 38, 39, 40, 41, 42, 43, 44, 45, 46, 47, 48, 49, 50, 51, 52, 53, 54, 55, 56, 57, 58, 59, 60, 61, 62, 63, 64, 65, 66, 67, 68, 69, 70, 71, 72, 73, 74, 75, 76, 77, 78, 79, 80, 81, 82, 83, 84, 85, 86, 87, 88, 89, 90, 91, 92, 93, 94, 95, 96, 97, 98, 99, 100, 101, 102, 103, 104, 105, 106, 107, 108, 109, 110, 111, 112, 113, 114, 115, 116, 117, 118, 119, 120, 121, 122, 123, 124, 125, 126, 127, 128, 129, 130, 131, 132, 133, 134, 135, 136, 137, 138, 139, 140, 141, 142, 143, 144, 145, 146, 147, 148, 149, 150, 151, 152, 153, 154, 155, 156, 157, 158, 159, 160, 161, 162, 163, 164, 165, 166, 167, 168, 169, 170, 171, 172, 173, 174, 175, 176, 177, 178, 179, 180, 181, 182, 183, 184, 185, 186, 187, 188, 189, 190, 191, 192, 193, 194, 195, 196, 197, 198, 199, 200, 201, 202, 203, 204, 205, 206, 207, 208, 209, 210, 211, 212, 213, 214, 215, 216, 217, 218, 219, 220, 221, 222, 223, 224, 225, 226, 227, 228, 229] rfl (by decide +kernel)) (goodIn_sub (fun _ h => List.mem_cons_of_mem _ (List.mem_append_left _ (List.mem_append_left _ (List.mem_append_left _ (List.mem_append_left _ (List.mem_append_left _ (List.mem_append_left _ (List.mem_append_left _ (List.mem_append_left _ (List.mem_append_left _ (List.mem_append_left _ (List.mem_append_left _ (List.mem_append_right _ h))))))))))))) gw_wsX110)) (goodIn_sub (fun _ h => List.mem_cons_of_mem _ (List.mem_append_left _ (List.mem_append_left _ (List.mem_append_left _ (List.mem_append_left _ (List.mem_append_left _ (List.mem_append_left _ (List.mem_append_left _ (List.mem_append_left _ (List.mem_append_left _ (List.mem_append_left _ (List.mem_append_right _ h)))))))))))) gw_wsX20)) (goodIn_sub (fun _ h => List.mem_cons_of_mem _ (List.mem_append_left _ (List.mem_append_left _ (List.mem_append_left _ (List.mem_append_left _ (List.mem_append_left _ (List.mem_append_left _ (List.mem_append_left _ (List.mem_append_left _ (List.mem_append_left _ (List.mem_append_right _ h))))))))))) gw_wsX30)) (goodIn_sub (fun _ h => List.mem_cons_of_mem _ (List.mem_append_left _ (List.mem_append_left _ (List.mem_append_left _ (List.mem_append_left _ (List.mem_append_left _ (List.mem_append_left _ (List.mem_append_left _ (List.mem_append_left _ (List.mem_append_right _ h)))))))))) gw_wsX40)) (goodIn_sub (fun _ h => List.mem_cons_of_mem _ (List.mem_append_left _ (List.mem_append_left _ (List.mem_append_left _ (List.mem_append_left _ (List.mem_append_left _ (List.mem_append_left _ (List.mem_append_left _ (List.mem_append_right _ h))))))))) gw_wsX100)) (goodIn_sub (fun _ h => List.mem_cons_of_mem _ (List.mem_append_left _ (List.mem_append_left _ (List.mem_append_left _ (List.mem_append_left _ (List.mem_append_left _ (List.mem_append_left _ (List.mem_append_right _ h)))))))) gw_wsX10)) (goodIn_sub (fun _ h => List.mem_cons_of_mem _ (List.mem_append_left _ (List.mem_append_left _ (List.mem_append_left _ (List.mem_append_left _ (List.mem_append_left _ (List.mem_append_right _ h))))))) gw_wsX80)) (goodIn_sub (fun _ h => List.mem_cons_of_mem _ (List.mem_append_left _ (List.mem_append_left _ (List.mem_append_left _ (List.mem_append_left _ (List.mem_append_right _ h)))))) gw_wsX50)) (goodIn_sub (fun _ h => List.mem_cons_of_mem _ (List.mem_append_left _ (List.mem_append_left _ (List.mem_append_left _ (List.mem_append_right _ h))))) gw_wsX70))) (goodIn_sub (fun _ h => List.mem_cons_of_mem _ (List.mem_append_left _ (List.mem_append_right _ h))) (all_fg _))) (goodIn_sub (fun _ h => List.mem_cons_of_mem _ (List.mem_append_right _ h)) (all_fg _))) (goodIn_sub (fun _ h => List.mem_cons_of_mem _ (List.mem_append_left _ (List.mem_append_left _ (List.mem_append_right _ h)))) (all_fg _))
set_option maxRecDepth 20000 in
theorem gL_observe_X11_observe : GoodIn wsL_observe (wsV RL 7 RX11 yX11_observe wsX11_observe) := goodIn_app (goodIn_m (mem_cA (List.mem_cons_of_mem _ (List.mem_append_left _ (List.mem_append_left _ (List.mem_append_left _ (List.mem_append_left _ (List.mem_append_left _ (List.mem_append_left _ (List.mem_append_left _ (List.mem_append_left _ (List.mem_append_left _ (List.mem_append_left _ (List.mem_append_left _ (List.mem_append_left _ (List.mem_append_left _ (List.mem_of_getElem? (i := 1) rfl))))))))))))))) (mem_cA (List.mem_cons_of_mem _ (List.mem_append_left _ (List.mem_append_left _ (List.mem_append_left _ (List.mem_append_left _ (List.mem_append_left _ (List.mem_append_left _ (List.mem_append_left _ (List.mem_append_left _ (List.mem_append_left _ (List.mem_append_left _ (List.mem_append_left _ (List.mem_append_left _ (List.mem_append_left _ (List.mem_of_getElem? (i := 2) rfl))))))))))))))) (mem_cA (List.mem_cons_of_mem _ (List.mem_append_left _ (List.mem_append_left _ (List.mem_append_left _ (List.mem_append_left _ (List.mem_append_left _ (List.mem_append_left _ (List.mem_append_left _ (List.mem_append_left _ (List.mem_append_left _ (List.mem_append_left _ (List.mem_append_left _ (List.mem_append_left _ (List.mem_append_left _ (List.mem_of_getElem? (i := 3) rfl))))))))))))))) (mem_cA (List.mem_cons_of_mem _ (List.mem_append_left _ (List.mem_append_left _ (List.mem_append_left _ (List.mem_append_left _ (List.mem_append_left _ (List.mem_append_left _ (List.mem_append_left _ (List.mem_append_left _ (List.mem_append_left _ (List.mem_append_left _ (List.mem_append_left _ (List.mem_append_left _ (List.mem_append_left _ (List.mem_of_getElem? (i := 4) rfl))))))))))))))) mem_cZ)))) (by decide +kernel)) ggL_observe_X11_observe
theorem dL_observe_0 : decode cL_observe 0 = .ok (.aload 6, 2) := by decide +kernel
theorem dL_observe_2 : decode cL_observe 2 = .ok (.iconst 0, 1) := by decide +kernel
theorem dL_observe_3 : decode cL_observe 3 = .ok (.aload_n 0, 1) := by decide +kernel
theorem dL_observe_4 : decode cL_observe 4 = .ok (.iload_n 1, 1) := by decide +kernel
theorem dL_observe_5 : decode cL_observe 5 = .ok (.iload_n 2, 1) := by decide +kernel
theorem dL_observe_6 : decode cL_observe 6 = .ok (.iload_n 3, 1) := by decide +kernel
theorem dL_observe_7 : decode cL_observe 7 = .ok (.iload 4, 2) := by decide +kernel
theorem dL_observe_9 : decode cL_observe 9 = .ok (.iload 5, 2) := by decide +kernel
theorem dL_observe_11 : decode cL_observe 11 = .ok (.invokevirtual 7, 3) := by decide +kernel
theorem dL_observe_14 : decode cL_observe 14 = .ok (.ifCond .eq 7, 3) := by decide +kernel
theorem dL_observe_17 : decode cL_observe 17 = .ok (.lconst 1, 1) := by decide +kernel
theorem dL_observe_18 : decode cL_observe 18 = .ok (.goto 4, 3) := by decide +kernel
theorem dL_observe_21 : decode cL_observe 21 = .ok (.lconst 0, 1) := by decide +kernel
theorem dL_observe_22 : decode cL_observe 22 = .ok (.lastore, 1) := by decide +kernel
theorem dL_observe_23 : decode cL_observe 23 = .ok (.goto 7, 3) := by decide +kernel
theorem dL_observe_26 : decode cL_observe 26 = .ok (.astore 7, 2) := by decide +kernel
theorem dL_observe_28 : decode cL_observe 28 = .ok (.iconst 1, 1) := by decide +kernel
theorem dL_observe_29 : decode cL_observe 29 = .ok (.ireturn, 1) := by decide +kernel
theorem dL_observe_30 : decode cL_observe 30 = .ok (.iconst 0, 1) := by decide +kernel
theorem dL_observe_31 : decode cL_observe 31 = .ok (.ireturn, 1) := by decide +kernel
set_option maxRecDepth 20000 in
theorem ggL_observeMany_X11_observeMany : GoodIn wsL_observeMany wsX11_observeMany := goodIn_ca (goodIn_ca (goodIn_ca ((goodIn_ca (goodIn_ca (goodIn_ca (goodIn_ca (goodIn_ca (goodIn_ca (goodIn_ca (goodIn_ca (goodIn_ca (goodIn_r _ [6, 7, 8, 9, 10, 11, 12, 13, 14, 15, 5, 16, 17, 18, 19, 20, 21, 22, 23, 24, 25, 26, 27, 28, 29, 30, 31, 32, 33, 34, 35, 36, 37, 38, 39, 40, 41, 42, 43, 44, 45, 46, 47, 48, 49, 50, 51, 52, 53, 54, 55, 56, 57, 58, 59, 60, 61, 62, 63, 64, 65, 66, 67, 68, 69, 70, 71, 72, 73, 74, 75, 76, 77, 78, 79, 80, 81, 82, 83, 84, 85, 86, 87, 88, 89, 90, 91, 92, 93, 94, 95, 96, 97, 98, 99, 100, 101, 102, 103, 104, 105, 106, 107, 108, 109, 110, 111, 112, 113, 114, 115, 116, 117, 118, 119, 120, 121, 122, 123, 124, 125, 126, 127, 128, 129, 130, 131, 132, 133, 134, 135, 136, 137, 138, 139, 140, 141, 142, 143, 144, 145, 146, 147, 148, 149, 150, 151, 152, 153, 154, 155, 156, 157, 158, 159, 160, 161, 162, 163, 164, 165, 166, 167, 168, 169, 170, 171, 172, 173, 174, 175, 176, 177, 178, 179, 180, 181, 182, 183, 184, 185, 186, 187, 188, 189, 190, 191, 192, 193, 194, 195, 196, 197, 198, 199, 200, 201, 202, 203, 204, 205, 206, 207, 208, 209, 210, 211, 212, 213, 214, 215, 216, 217, 218, 219, 220, 221, 222, 223, 224, 225, 226, 227, 228, 229] rfl (by decide +kernel)) (goodIn_sub (fun _ h => List.mem_cons_of_mem _ (List.mem_append_left _ (List.mem_append_left _ (List.mem_append_left _ (List.mem_append_left _ (List.mem_append_left _ (List.mem_append_left _ (List.mem_append_left _ (List.mem_append_left _ (List.mem_append_left _ (List.mem_append_left _ (List.mem_append_left _ (List.mem_append_right _ h))))))))))))) gw_wsX110)) (goodIn_sub (fun _ h => List.mem_cons_of_mem _ (List.mem_append_left _ (List.mem_append_left _ (List.mem_append_left _ (List.mem_append_left _ (List.mem_append_left _ (List.mem_append_left _ (List.mem_append_left _ (List.mem_append_left _ (List.mem_append_left _ (List.mem_append_left _ (List.mem_append_right _ h)))))))))))) gw_wsX20)) (goodIn_sub (fun _ h => List.mem_cons_of_mem _ (List.mem_append_left _ (List.mem_append_left _ (List.mem_append_left _ (List.mem_append_left _ (List.mem_append_left _ (List.mem_append_left _ (List.mem_append_left _ (List.mem_append_left _ (List.mem_append_left _ (List.mem_append_right _ h))))))))))) gw_wsX30)) (goodIn_sub (fun _ h => List.mem_cons_of_mem _ (List.mem_append_left _ (List.mem_append_left _ (List.mem_append_left _ (List.mem_append_left _ (List.mem_append_left _ (List.mem_append_left _ (List.mem_append_left _ (List.mem_append_left _ (List.mem_append_right _ h)))))))))) gw_wsX40)) (goodIn_sub (fun _ h => List.mem_cons_of_mem _ (List.mem_append_left _ (List.mem_append_left _ (List.mem_append_left _ (List.mem_append_left _ (List.mem_append_left _ (List.mem_append_left _ (List.mem_append_left _ (List.mem_append_right _ h))))))))) gw_wsX100)) (goodIn_sub (fun _ h => List.mem_cons_of_mem _ (List.mem_append_left _ (List.mem_append_left _ (List.mem_append_left _ (List.mem_append_left _ (List.mem_append_left _ (List.mem_append_left _ (List.mem_append_right _ h)))))))) gw_wsX10)) (goodIn_sub (fun _ h => List.mem_cons_of_mem _ (List.mem_append_left _ (List.mem_append_left _ (List.mem_append_left _ (List.mem_append_left _ (List.mem_append_left _ (List.mem_append_right _ h))))))) gw_wsX80)) (goodIn_sub (fun _ h => List.mem_cons_of_mem _ (List.mem_append_left _ (List.mem_append_left _ (List.mem_append_left _ (List.mem_append_left _ (List.mem_append_right _ h)))))) gw_wsX50)) (goodIn_sub (fun _ h => List.mem_cons_of_mem _ (List.mem_append_left _ (List.mem_append_left _ (List.mem_append_left _ (List.mem_append_right _ h))))) gw_wsX70))) (goodIn_sub (fun _ h => List.mem_cons_of_mem _ (List.mem_append_left _ (List.mem_append_right _ h))) (all_fg _))) (goodIn_sub (fun _ h => List.mem_cons_of_mem _ (List.mem_append_right _ h)) (all_fg _))) (goodIn_sub (fun _ h => List.mem_cons_of_mem _ (List.mem_append_left _ (List.mem_append_left _ (List.mem_append_right _ h)))) (all_fg _))
set_option maxRecDepth 20000 in
theorem gL_observeMany_X11_observeMany : GoodIn wsL_observeMany (wsV RL 15 RX11 yX11_observeMany wsX11_observeMany) := goodIn_app (goodIn_m (mem_cA (List.mem_cons_of_mem _ (List.mem_append_left _ (List.mem_append_left _ (List.mem_append_left _ (List.mem_append_left _ (List.mem_append_left _ (List.mem_append_left _ (List.mem_append_left _ (List.mem_append_left _ (List.mem_append_left _ (List.mem_append_left _ (List.mem_append_left _ (List.mem_append_left _ (List.mem_append_left _ (List.mem_of_getElem? (i := 1) rfl))))))))))))))) (mem_cA (List.mem_cons_of_mem _ (List.mem_append_left _ (List.mem_append_left _ (List.mem_append_left _ (List.mem_append_left _ (List.mem_append_left _ (List.mem_append_left _ (List.mem_append_left _ (List.mem_append_left _ (List.mem_append_left _ (List.mem_append_left _ (List.mem_append_left _ (List.mem_append_left _ (List.mem_append_left _ (List.mem_of_getElem? (i := 2) rfl))))))))))))))) (mem_cA (List.mem_cons_of_mem _ (List.mem_append_left _ (List.mem_append_left _ (List.mem_append_left _ (List.mem_append_left _ (List.mem_append_left _ (List.mem_append_left _ (List.mem_append_left _ (List.mem_append_left _ (List.mem_append_left _ (List.mem_append_left _ (List.mem_append_left _ (List.mem_append_left _ (List.mem_append_left _ (List.mem_of_getElem? (i := 3) rfl))))))))))))))) (mem_cA (List.mem_cons_of_mem _ (List.mem_append_left _ (List.mem_append_left _ (List.mem_append_left _ (List.mem_append_left _ (List.mem_append_left _ (List.mem_append_left _ (List.mem_append_left _ (List.mem_append_left _ (List.mem_append_left _ (List.mem_append_left _ (List.mem_append_left _ (List.mem_append_left _ (List.mem_append_left _ (List.mem_of_getElem? (i := 4) rfl))))))))))))))) mem_cZ)))) (by decide +kernel)) ggL_observeMany_X11_observeMany
theorem dL_observeMany_0 : decode cL_observeMany 0 = .ok (.aload 7, 2) := by decide +kernel
theorem dL_observeMany_2 : decode cL_observeMany 2 = .ok (.iconst 0, 1) := by decide +kernel
theorem dL_observeMany_3 : decode cL_observeMany 3 = .ok (.aload_n 0, 1) := by decide +kernel
theorem dL_observeMany_4 : decode cL_observeMany 4 = .ok (.iload_n 1, 1) := by decide +kernel
theorem dL_observeMany_5 : decode cL_observeMany 5 = .ok (.iload_n 2, 1) := by decide +kernel
theorem dL_observeMany_6 : decode cL_observeMany 6 = .ok (.iload_n 3, 1) := by decide +kernel
theorem dL_observeMany_7 : decode cL_observeMany 7 = .ok (.iload 4, 2) := by decide +kernel
theorem dL_observeMany_9 : decode cL_observeMany 9 = .ok (.iload 5, 2) := by decide +kernel
theorem dL_observeMany_11 : decode cL_observeMany 11 = .ok (.iload 6, 2) := by decide +kernel
theorem dL_observeMany_13 : decode cL_observeMany 13 = .ok (.invokevirtual 15, 3) := by decide +kernel
theorem dL_observeMany_16 : decode cL_observeMany 16 = .ok (.i2l, 1) := by decide +kernel
theorem dL_observeMany_17 : decode cL_observeMany 17 = .ok (.lastore, 1) := by decide +kernel
theorem dL_observeMany_18 : decode cL_observeMany 18 = .ok (.goto 7, 3) := by decide +kernel
theorem dL_observeMany_21 : decode cL_observeMany 21 = .ok (.astore 8, 2) := by decide +kernel
theorem dL_observeMany_23 : decode cL_observeMany 23 = .ok (.iconst 1, 1) := by decide +kernel
theorem dL_observeMany_24 : decode cL_observeMany 24 = .ok (.ireturn, 1) := by decide +kernel
theorem dL_observeMany_25 : decode cL_observeMany 25 = .ok (.iconst 0, 1) := by decide +kernel
theorem dL_observeMany_26 : decode cL_observeMany 26 = .ok (.ireturn, 1) := by decide +kernel
set_option maxRecDepth 20000 in
theorem ggL_advance_X11_advance : GoodIn wsL_advance wsX11_advance := goodIn_ca (goodIn_ca (goodIn_ca (goodIn_ca ((goodIn_ca (goodIn_ca (goodIn_ca (goodIn_ca (goodIn_ca (goodIn_ca (goodIn_ca (goodIn_ca (goodIn_ca (goodIn_r _ [7, 8, 9, 10, 11, 12, 13, 14, 15, 16, 17, 18, 19, 20, 21, 22, 23, 24, 25, 26, 27, 28, 29, 30, 31, 32, 33, 34, 35, 36, 37, 38, 39, 40, 41, 42, 43, 44, 45, 46, 47, 48, 49, 50, 51, 52, 53, 54, 55, 56, 57, 58, 59, 60, 61, 62, 63, 64, 65, 66, 67, 68, 69, 70, 71, 72, 73, 74, 75, 76, 77, 78, 79, 80, 81, 82, 83, 84, 85, 86, 87, 88, 89, 90, 91, 92, 93, 94, 95, 96, 97, 98, 99, 100, 101, 102, 103, 104, 105, 106, 107, 108, 6, 109, 110, 111, 112, 113, 114, 115, 116, 117, 118, 119, 120, 121, 122, 123, 124, 125, 126, 127, 128, 129, 130, 131, 132, 133, 134, 135, 136, 137, 138, 139, 140, 141, 142, 143, 144, 145, 146, 147, 148, 149, 150, 151, 152, 153, 154, 155, 156, 157, 158, 159, 160, 161, 162, 163, 164, 165, 166, 167, 168, 169, 170, 171, 172, 173, 174, 175, 176, 177, 178, 179, 180, 181, 182, 183, 184, 185, 186, 187, 188, 189, 190, 191, 192, 193, 194, 195, 196, 197, 198, 199] rfl (by decide +kernel)) (goodIn_sub (fun _ h => List.mem_cons_of_mem _ (List.mem_append_left _ (List.mem_append_left _ (List.mem_append_left _ (List.mem_append_left _ (List.mem_append_left _ (List.mem_append_left _ (List.mem_append_left _ (List.mem_append_left _ (List.mem_append_left _ (List.mem_append_left _ (List.mem_append_left _ (List.mem_append_left _ (List.mem_append_right _ h)))))))))))))) gw_wsX110)) (goodIn_sub (fun _ h => List.mem_cons_of_mem _ (List.mem_append_left _ (List.mem_append_left _ (List.mem_append_left _ (List.mem_append_left _ (List.mem_append_left _ (List.mem_append_left _ (List.mem_append_left _ (List.mem_append_left _ (List.mem_append_left _ (List.mem_append_left _ (List.mem_append_left _ (List.mem_append_right _ h))))))))))))) gw_wsX20)) (goodIn_sub (fun _ h => List.mem_cons_of_mem _ (List.mem_append_left _ (List.mem_append_left _ (List.mem_append_left _ (List.mem_append_left _ (List.mem_append_left _ (List.mem_append_left _ (List.mem_append_left _ (List.mem_append_left _ (List.mem_append_left _ (List.mem_append_left _ (List.mem_append_right _ h)))))))))))) gw_wsX40)) (goodIn_sub (fun _ h => List.mem_cons_of_mem _ (List.mem_append_left _ (List.mem_append_left _ (List.mem_append_left _ (List.mem_append_left _ (List.mem_append_left _ (List.mem_append_left _ (List.mem_append_left _ (List.mem_append_left _ (List.mem_append_left _ (List.mem_append_right _ h))))))))))) gw_wsX30)) (goodIn_sub (fun _ h => List.mem_cons_of_mem _ (List.mem_append_left _ (List.mem_append_left _ (List.mem_append_left _ (List.mem_append_left _ (List.mem_append_left _ (List.mem_append_left _ (List.mem_append_left _ (List.mem_append_left _ (List.mem_append_right _ h)))))))))) gw_wsX10)) (goodIn_sub (fun _ h => List.mem_cons_of_mem _ (List.mem_append_left _ (List.mem_append_left _ (List.mem_append_left _ (List.mem_append_left _ (List.mem_append_left _ (List.mem_append_left _ (List.mem_append_left _ (List.mem_append_right _ h))))))))) gw_wsX100)) (goodIn_sub (fun _ h => List.mem_cons_of_mem _ (List.mem_append_left _ (List.mem_append_left _ (List.mem_append_left _ (List.mem_append_left _ (List.mem_append_left _ (List.mem_append_left _ (List.mem_append_right _ h)))))))) gw_wsX80)) (goodIn_sub (fun _ h => List.mem_cons_of_mem _ (List.mem_append_left _ (List.mem_append_left _ (List.mem_append_left _ (List.mem_append_left _ (List.mem_append_left _ (List.mem_append_right _ h))))))) gw_wsX50)) (goodIn_sub (fun _ h => List.mem_cons_of_mem _ (List.mem_append_left _ (List.mem_append_left _ (List.mem_append_left _ (List.mem_append_left _ (List.mem_append_right _ h)))))) gw_wsX70))) (goodIn_sub (fun _ h => List.mem_cons_of_mem _ (List.mem_append_left _ (List.mem_append_left _ (List.mem_append_right _ h)))) (all_fg _))) (goodIn_sub (fun _ h => List.mem_cons_of_mem _ (List.mem_append_left _ (List.mem_append_right _ h))) (all_fg _))) (goodIn_sub (fun _ h => List.mem_cons_of_mem _ (List.mem_append_left _ (List.mem_append_left _ (List.mem_append_left _ (List.mem_append_right _ h))))) (all_fg _))) (goodIn_sub (fun _ h => List.mem_cons_of_mem _ (List.mem_append_right _ h)) (all_fg _))
set_option maxRecDepth 20000 in
theorem gL_advance_X11_advance : GoodIn wsL_advance (wsV RL 19 RX11 yX11_advance wsX11_advance) := goodIn_app (goodIn_m (mem_cA (List.mem_cons_of_mem _ (List.mem_append_left _ (List.mem_append_left _ (List.mem_append_left _ (List.mem_append_left _ (List.mem_append_left _ (List.mem_append_left _ (List.mem_append_left _ (List.mem_append_left _ (List.mem_append_left _ (List.mem_append_left _ (List.mem_append_left _ (List.mem_append_left _ (List.mem_append_left _ (List.mem_append_left _ (List.mem_of_getElem? (i := 2) rfl)))))))))))))))) (mem_cA (List.mem_cons_of_mem _ (List.mem_append_left _ (List.mem_append_left _ (List.mem_append_left _ (List.mem_append_left _ (List.mem_append_left _ (List.mem_append_left _ (List.mem_append_left _ (List.mem_append_left _ (List.mem_append_left _ (List.mem_append_left _ (List.mem_append_left _ (List.mem_append_left _ (List.mem_append_left _ (List.mem_append_left _ (List.mem_of_getElem? (i := 3) rfl)))))))))))))))) (mem_cA (List.mem_cons_of_mem _ (List.mem_append_left _ (List.mem_append_left _ (List.mem_append_left _ (List.mem_append_left _ (List.mem_append_left _ (List.mem_append_left _ (List.mem_append_left _ (List.mem_append_left _ (List.mem_append_left _ (List.mem_append_left _ (List.mem_append_left _ (List.mem_append_left _ (List.mem_append_left _ (List.mem_append_left _ (List.mem_of_getElem? (i := 4) rfl)))))))))))))))) (mem_cA (List.mem_cons_of_mem _ (List.mem_append_left _ (List.mem_append_left _ (List.mem_append_left _ (List.mem_append_left _ (List.mem_append_left _ (List.mem_append_left _ (List.mem_append_left _ (List.mem_append_left _ (List.mem_append_left _ (List.mem_append_left _ (List.mem_append_left _ (List.mem_append_left _ (List.mem_append_left _ (List.mem_append_left _ (List.mem_of_getElem? (i := 5) rfl)))))))))))))))) mem_cZ)))) (by decide +kernel)) ggL_advance_X11_advance
theorem dL_advance_0 : decode cL_advance 0 = .ok (.aload_n 2, 1) := by decide +kernel
theorem dL_advance_1 : decode cL_advance 1 = .ok (.iconst 0, 1) := by decide +kernel
theorem dL_advance_2 : decode cL_advance 2 = .ok (.aload_n 0, 1) := by decide +kernel
theorem dL_advance_3 : decode cL_advance 3 = .ok (.iload_n 1, 1) := by decide +kernel
theorem dL_advance_4 : decode cL_advance 4 = .ok (.invokevirtual 19, 3) := by decide +kernel
theorem dL_advance_7 : decode cL_advance 7 = .ok (.i2l, 1) := by decide +kernel
theorem dL_advance_8 : decode cL_advance 8 = .ok (.lastore, 1) := by decide +kernel
theorem dL_advance_9 : decode cL_advance 9 = .ok (.goto 9, 3) := by decide +kernel
theorem dL_advance_12 : decode cL_advance 12 = .ok (.astore_n 3, 1) := by decide +kernel
theorem dL_advance_13 : decode cL_advance 13 = .ok (.iconst 1, 1) := by decide +kernel
theorem dL_advance_14 : decode cL_advance 14 = .ok (.ireturn, 1) := by decide +kernel
theorem dL_advance_15 : decode cL_advance 15 = .ok (.astore_n 3, 1) := by decide +kernel
theorem dL_advance_16 : decode cL_advance 16 = .ok (.iconst 2, 1) := by decide +kernel
theorem dL_advance_17 : decode cL_advance 17 = .ok (.ireturn, 1) := by decide +kernel
theorem dL_advance_18 : decode cL_advance 18 = .ok (.iconst 0, 1) := by decide +kernel
theorem dL_advance_19 : decode cL_advance 19 = .ok (.ireturn, 1) := by decide +kernel
set_option maxRecDepth 20000 in
theorem ggL_cached_X11_cached : GoodIn wsL_cached wsX11_cached := goodIn_ca (goodIn_ca (goodIn_ca ((goodIn_ca (goodIn_ca (goodIn_ca (goodIn_ca (goodIn_r _ [7, 8, 9, 10, 11, 12, 13, 14, 15, 16, 17, 18, 19, 20, 21, 22, 23, 24, 25, 26, 27, 28, 29, 30, 31, 32, 33, 34, 35] rfl (by decide +kernel)) (goodIn_sub (fun _ h => List.mem_cons_of_mem _ (List.mem_append_left _ (List.mem_append_left _ (List.mem_append_left _ (List.mem_append_left _ (List.mem_append_left _ (List.mem_append_left _ (List.mem_append_right _ h)))))))) gw_wsX110)) (goodIn_sub (fun _ h => List.mem_cons_of_mem _ (List.mem_append_left _ (List.mem_append_left _ (List.mem_append_left _ (List.mem_append_left _ (List.mem_append_left _ (List.mem_append_right _ h))))))) gw_wsX20)) (goodIn_sub (fun _ h => List.mem_cons_of_mem _ (List.mem_append_left _ (List.mem_append_left _ (List.mem_append_left _ (List.mem_append_left _ (List.mem_append_right _ h)))))) gw_wsX40)) (goodIn_sub (fun _ h => List.mem_cons_of_mem _ (List.mem_append_left _ (List.mem_append_left _ (List.mem_append_left _ (List.mem_append_right _ h))))) gw_wsX30))) (goodIn_sub (fun _ h => List.mem_cons_of_mem _ (List.mem_append_left _ (List.mem_append_right _ h))) (all_fg _))) (goodIn_sub (fun _ h => List.mem_cons_of_mem _ (List.mem_append_right _ h)) (all_fg _))) (goodIn_sub (fun _ h => List.mem_cons_of_mem _ (List.mem_append_left _ (List.mem_append_left _ (List.mem_append_right _ h)))) (all_fg _))
set_option maxRecDepth 20000 in
theorem gL_cached_X11_cached : GoodIn wsL_cached (wsV RL 25 RX11 yX11_cached wsX11_cached) := goodIn_app (goodIn_m (mem_cA (List.mem_cons_of_mem _ (List.mem_append_left _ (List.mem_append_left _ (List.mem_append_left _ (List.mem_append_left _ (List.mem_append_left _ (List.mem_append_left _ (List.mem_append_left _ (List.mem_append_left _ (List.mem_of_getElem? (i := 2) rfl)))))))))) (mem_cA (List.mem_cons_of_mem _ (List.mem_append_left _ (List.mem_append_left _ (List.mem_append_left _ (List.mem_append_left _ (List.mem_append_left _ (List.mem_append_left _ (List.mem_append_left _ (List.mem_append_left _ (List.mem_of_getElem? (i := 3) rfl)))))))))) (mem_cA (List.mem_cons_of_mem _ (List.mem_append_left _ (List.mem_append_left _ (List.mem_append_left _ (List.mem_append_left _ (List.mem_append_left _ (List.mem_append_left _ (List.mem_append_left _ (List.mem_append_left _ (List.mem_of_getElem? (i := 4) rfl)))))))))) (mem_cA (List.mem_cons_of_mem _ (List.mem_append_left _ (List.mem_append_left _ (List.mem_append_left _ (List.mem_append_left _ (List.mem_append_left _ (List.mem_append_left _ (List.mem_append_left _ (List.mem_append_left _ (List.mem_of_getElem? (i := 5) rfl)))))))))) mem_cZ)))) (by decide +kernel)) ggL_cached_X11_cached
theorem dL_cached_0 : decode cL_cached 0 = .ok (.aload_n 3, 1) := by decide +kernel
theorem dL_cached_1 : decode cL_cached 1 = .ok (.iconst 0, 1) := by decide +kernel
theorem dL_cached_2 : decode cL_cached 2 = .ok (.aload_n 0, 1) := by decide +kernel
theorem dL_cached_3 : decode cL_cached 3 = .ok (.iload_n 1, 1) := by decide +kernel
theorem dL_cached_4 : decode cL_cached 4 = .ok (.iload_n 2, 1) := by decide +kernel
theorem dL_cached_5 : decode cL_cached 5 = .ok (.invokevirtual 25, 3) := by decide +kernel
theorem dL_cached_8 : decode cL_cached 8 = .ok (.lastore, 1) := by decide +kernel
theorem dL_cached_9 : decode cL_cached 9 = .ok (.goto 11, 3) := by decide +kernel
theorem dL_cached_12 : decode cL_cached 12 = .ok (.astore 4, 2) := by decide +kernel
theorem dL_cached_14 : decode cL_cached 14 = .ok (.iconst 1, 1) := by decide +kernel
theorem dL_cached_15 : decode cL_cached 15 = .ok (.ireturn, 1) := by decide +kernel
theorem dL_cached_16 : decode cL_cached 16 = .ok (.astore 4, 2) := by decide +kernel
theorem dL_cached_18 : decode cL_cached 18 = .ok (.iconst 2, 1) := by decide +kernel
theorem dL_cached_19 : decode cL_cached 19 = .ok (.ireturn, 1) := by decide +kernel
theorem dL_cached_20 : decode cL_cached 20 = .ok (.iconst 0, 1) := by decide +kernel
theorem dL_cached_21 : decode cL_cached 21 = .ok (.ireturn, 1) := by decide +kernel
set_option maxRecDepth 20000 in
theorem ggL_templateFields_X11_templateFields : GoodIn wsL_templateFields wsX11_templateFields := goodIn_ca ((goodIn_ca (goodIn_ca (goodIn_ca (goodIn_r _ [6, 7, 8, 9, 10, 11, 5, 12, 13, 14, 15, 16, 17, 18, 19, 20, 21] rfl (by decide +kernel)) (goodIn_sub (fun _ h => List.mem_cons_of_mem _ (List.mem_append_left _ (List.mem_append_left _ (List.mem_append_left _ (List.mem_append_left _ (List.mem_append_right _ h)))))) gw_wsX110)) (goodIn_sub (fun _ h => List.mem_cons_of_mem _ (List.mem_append_left _ (List.mem_append_left _ (List.mem_append_left _ (List.mem_append_right _ h))))) gw_wsX100)) (goodIn_sub (fun _ h => List.mem_cons_of_mem _ (List.mem_append_left _ (List.mem_append_left _ (List.mem_append_right _ h)))) gw_wsX10))) (goodIn_sub (fun _ h => List.mem_cons_of_mem _ (List.mem_append_right _ h)) (all_fg _))
set_option maxRecDepth 20000 in
theorem gL_templateFields_X11_templateFields : GoodIn wsL_templateFields (wsV RL 31 RX11 yX11_templateFields wsX11_templateFields) := goodIn_app (goodIn_m (mem_cA (List.mem_cons_of_mem _ (List.mem_append_left _ (List.mem_append_left _ (List.mem_append_left _ (List.mem_append_left _ (List.mem_append_left _ (List.mem_of_getElem? (i := 1) rfl))))))) (mem_cA (List.mem_cons_of_mem _ (List.mem_append_left _ (List.mem_append_left _ (List.mem_append_left _ (List.mem_append_left _ (List.mem_append_left _ (List.mem_of_getElem? (i := 2) rfl))))))) (mem_cA (List.mem_cons_of_mem _ (List.mem_append_left _ (List.mem_append_left _ (List.mem_append_left _ (List.mem_append_left _ (List.mem_append_left _ (List.mem_of_getElem? (i := 3) rfl))))))) (mem_cA (List.mem_cons_of_mem _ (List.mem_append_left _ (List.mem_append_left _ (List.mem_append_left _ (List.mem_append_left _ (List.mem_append_left _ (List.mem_of_getElem? (i := 4) rfl))))))) mem_cZ)))) (by decide +kernel)) ggL_templateFields_X11_templateFields
theorem dL_templateFields_0 : decode cL_templateFields 0 = .ok (.aload_n 2, 1) := by decide +kernel
theorem dL_templateFields_1 : decode cL_templateFields 1 = .ok (.iconst 0, 1) := by decide +kernel
theorem dL_templateFields_2 : decode cL_templateFields 2 = .ok (.aload_n 0, 1) := by decide +kernel
theorem dL_templateFields_3 : decode cL_templateFields 3 = .ok (.iload_n 1, 1) := by decide +kernel
theorem dL_templateFields_4 : decode cL_templateFields 4 = .ok (.invokevirtual 31, 3) := by decide +kernel
theorem dL_templateFields_7 : decode cL_templateFields 7 = .ok (.i2l, 1) := by decide +kernel
theorem dL_templateFields_8 : decode cL_templateFields 8 = .ok (.lastore, 1) := by decide +kernel
theorem dL_templateFields_9 : decode cL_templateFields 9 = .ok (.goto 6, 3) := by decide +kernel
theorem dL_templateFields_12 : decode cL_templateFields 12 = .ok (.astore_n 3, 1) := by decide +kernel
theorem dL_templateFields_13 : decode cL_templateFields 13 = .ok (.iconst 1, 1) := by decide +kernel
theorem dL_templateFields_14 : decode cL_templateFields 14 = .ok (.ireturn, 1) := by decide +kernel
theorem dL_templateFields_15 : decode cL_templateFields 15 = .ok (.iconst 0, 1) := by decide +kernel
theorem dL_templateFields_16 : decode cL_templateFields 16 = .ok (.ireturn, 1) := by decide +kernel
set_option maxRecDepth 20000 in
theorem ggL_effectiveFields_X11_effectiveFields : GoodIn wsL_effectiveFields wsX11_effectiveFields := goodIn_ca ((goodIn_ca (goodIn_ca (goodIn_ca (goodIn_r _ [6, 7, 8, 9, 10, 11, 5, 12, 13, 14, 15, 16, 17, 18, 19, 20, 21] rfl (by decide +kernel)) (goodIn_sub (fun _ h => List.mem_cons_of_mem _ (List.mem_append_left _ (List.mem_append_left _ (List.mem_append_left _ (List.mem_append_left _ (List.mem_append_right _ h)))))) gw_wsX110)) (goodIn_sub (fun _ h => List.mem_cons_of_mem _ (List.mem_append_left _ (List.mem_append_left _ (List.mem_append_left _ (List.mem_append_right _ h))))) gw_wsX100)) (goodIn_sub (fun _ h => List.mem_cons_of_mem _ (List.mem_append_left _ (List.mem_append_left _ (List.mem_append_right _ h)))) gw_wsX10))) (goodIn_sub (fun _ h => List.mem_cons_of_mem _ (List.mem_append_right _ h)) (all_fg _))
set_option maxRecDepth 20000 in
theorem gL_effectiveFields_X11_effectiveFields : GoodIn wsL_effectiveFields (wsV RL 34 RX11 yX11_effectiveFields wsX11_effectiveFields) := goodIn_app (goodIn_m (mem_cA (List.mem_cons_of_mem _ (List.mem_append_left _ (List.mem_append_left _ (List.mem_append_left _ (List.mem_append_left _ (List.mem_append_left _ (List.mem_of_getElem? (i := 1) rfl))))))) (mem_cA (List.mem_cons_of_mem _ (List.mem_append_left _ (List.mem_append_left _ (List.mem_append_left _ (List.mem_append_left _ (List.mem_append_left _ (List.mem_of_getElem? (i := 2) rfl))))))) (mem_cA (List.mem_cons_of_mem _ (List.mem_append_left _ (List.mem_append_left _ (List.mem_append_left _ (List.mem_append_left _ (List.mem_append_left _ (List.mem_of_getElem? (i := 3) rfl))))))) (mem_cA (List.mem_cons_of_mem _ (List.mem_append_left _ (List.mem_append_left _ (List.mem_append_left _ (List.mem_append_left _ (List.mem_append_left _ (List.mem_of_getElem? (i := 4) rfl))))))) mem_cZ)))) (by decide +kernel)) ggL_effectiveFields_X11_effectiveFields
theorem dL_effectiveFields_0 : decode cL_effectiveFields 0 = .ok (.aload_n 2, 1) := by decide +kernel
theorem dL_effectiveFields_1 : decode cL_effectiveFields 1 = .ok (.iconst 0, 1) := by decide +kernel
theorem dL_effectiveFields_2 : decode cL_effectiveFields 2 = .ok (.aload_n 0, 1) := by decide +kernel
theorem dL_effectiveFields_3 : decode cL_effectiveFields 3 = .ok (.iload_n 1, 1) := by decide +kernel
theorem dL_effectiveFields_4 : decode cL_effectiveFields 4 = .ok (.invokevirtual 34, 3) := by decide +kernel
theorem dL_effectiveFields_7 : decode cL_effectiveFields 7 = .ok (.i2l, 1) := by decide +kernel
theorem dL_effectiveFields_8 : decode cL_effectiveFields 8 = .ok (.lastore, 1) := by decide +kernel
theorem dL_effectiveFields_9 : decode cL_effectiveFields 9 = .ok (.goto 6, 3) := by decide +kernel
theorem dL_effectiveFields_12 : decode cL_effectiveFields 12 = .ok (.astore_n 3, 1) := by decide +kernel
theorem dL_effectiveFields_13 : decode cL_effectiveFields 13 = .ok (.iconst 1, 1) := by decide +kernel
theorem dL_effectiveFields_14 : decode cL_effectiveFields 14 = .ok (.ireturn, 1) := by decide +kernel
theorem dL_effectiveFields_15 : decode cL_effectiveFields 15 = .ok (.iconst 0, 1) := by decide +kernel
theorem dL_effectiveFields_16 : decode cL_effectiveFields 16 = .ok (.ireturn, 1) := by decide +kernel
set_option maxRecDepth 20000 in
theorem ggL_fieldAt_X11_fieldAt : GoodIn wsL_fieldAt wsX11_fieldAt := goodIn_ca (goodIn_ca ((goodIn_ca (goodIn_ca (goodIn_ca (goodIn_r _ [6, 7, 8, 9, 10, 5, 11, 12, 13, 14, 15, 16, 17, 18, 19, 20, 21, 22, 23, 24, 25, 26, 27] rfl (by decide +kernel)) (goodIn_sub (fun _ h => List.mem_cons_of_mem _ (List.mem_append_left _ (List.mem_append_left _ (List.mem_append_left _ (List.mem_append_left _ (List.mem_append_right _ h)))))) gw_wsX110)) (goodIn_sub (fun _ h => List.mem_cons_of_mem _ (List.mem_append_left _ (List.mem_append_left _ (List.mem_append_left _ (List.mem_append_right _ h))))) gw_wsX10)) (goodIn_sub (fun _ h => List.mem_cons_of_mem _ (List.mem_append_left _ (List.mem_append_left _ (List.mem_append_right _ h)))) gw_wsX100))) (goodIn_sub (fun _ h => List.mem_cons_of_mem _ (List.mem_append_right _ h)) (all_fg _))) (goodIn_sub (fun _ h => List.mem_cons_of_mem _ (List.mem_append_left _ (List.mem_append_right _ h))) (all_fg _))
set_option maxRecDepth 20000 in
theorem gL_fieldAt_X11_fieldAt : GoodIn wsL_fieldAt (wsV RL 37 RX11 yX11_fieldAt wsX11_fieldAt) := goodIn_app (goodIn_m (mem_cA (List.mem_cons_of_mem _ (List.mem_append_left _ (List.mem_append_left _ (List.mem_append_left _ (List.mem_append_left _ (List.mem_append_left _ (List.mem_append_left _ (List.mem_of_getElem? (i := 1) rfl)))))))) (mem_cA (List.mem_cons_of_mem _ (List.mem_append_left _ (List.mem_append_left _ (List.mem_append_left _ (List.mem_append_left _ (List.mem_append_left _ (List.mem_append_left _ (List.mem_of_getElem? (i := 2) rfl)))))))) (mem_cA (List.mem_cons_of_mem _ (List.mem_append_left _ (List.mem_append_left _ (List.mem_append_left _ (List.mem_append_left _ (List.mem_append_left _ (List.mem_append_left _ (List.mem_of_getElem? (i := 3) rfl)))))))) (mem_cA (List.mem_cons_of_mem _ (List.mem_append_left _ (List.mem_append_left _ (List.mem_append_left _ (List.mem_append_left _ (List.mem_append_left _ (List.mem_append_left _ (List.mem_of_getElem? (i := 4) rfl)))))))) mem_cZ)))) (by decide +kernel)) ggL_fieldAt_X11_fieldAt
theorem dL_fieldAt_0 : decode cL_fieldAt 0 = .ok (.aload_n 3, 1) := by decide +kernel
theorem dL_fieldAt_1 : decode cL_fieldAt 1 = .ok (.iconst 0, 1) := by decide +kernel
theorem dL_fieldAt_2 : decode cL_fieldAt 2 = .ok (.aload_n 0, 1) := by decide +kernel
theorem dL_fieldAt_3 : decode cL_fieldAt 3 = .ok (.iload_n 1, 1) := by decide +kernel
theorem dL_fieldAt_4 : decode cL_fieldAt 4 = .ok (.iload_n 2, 1) := by decide +kernel
theorem dL_fieldAt_5 : decode cL_fieldAt 5 = .ok (.invokevirtual 37, 3) := by decide +kernel
theorem dL_fieldAt_8 : decode cL_fieldAt 8 = .ok (.i2l, 1) := by decide +kernel
theorem dL_fieldAt_9 : decode cL_fieldAt 9 = .ok (.lastore, 1) := by decide +kernel
theorem dL_fieldAt_10 : decode cL_fieldAt 10 = .ok (.goto 7, 3) := by decide +kernel
theorem dL_fieldAt_13 : decode cL_fieldAt 13 = .ok (.astore 4, 2) := by decide +kernel
theorem dL_fieldAt_15 : decode cL_fieldAt 15 = .ok (.iconst 1, 1) := by decide +kernel
theorem dL_fieldAt_16 : decode cL_fieldAt 16 = .ok (.ireturn, 1) := by decide +kernel
theorem dL_fieldAt_17 : decode cL_fieldAt 17 = .ok (.iconst 0, 1) := by decide +kernel
theorem dL_fieldAt_18 : decode cL_fieldAt 18 = .ok (.ireturn, 1) := by decide +kernel
set_option maxRecDepth 20000 in
theorem ggL_recordLength_X11_recordLength : GoodIn wsL_recordLength wsX11_recordLength := goodIn_ca ((goodIn_ca (goodIn_ca (goodIn_ca (goodIn_r _ [6, 7, 8, 9, 10, 11, 5, 12, 13, 14, 15, 16, 17, 18, 19, 20, 21] rfl (by decide +kernel)) (goodIn_sub (fun _ h => List.mem_cons_of_mem _ (List.mem_append_left _ (List.mem_append_left _ (List.mem_append_left _ (List.mem_append_left _ (List.mem_append_right _ h)))))) gw_wsX110)) (goodIn_sub (fun _ h => List.mem_cons_of_mem _ (List.mem_append_left _ (List.mem_append_left _ (List.mem_append_left _ (List.mem_append_right _ h))))) gw_wsX100)) (goodIn_sub (fun _ h => List.mem_cons_of_mem _ (List.mem_append_left _ (List.mem_append_left _ (List.mem_append_right _ h)))) gw_wsX10))) (goodIn_sub (fun _ h => List.mem_cons_of_mem _ (List.mem_append_right _ h)) (all_fg _))
set_option maxRecDepth 20000 in
theorem gL_recordLength_X11_recordLength : GoodIn wsL_recordLength (wsV RL 41 RX11 yX11_recordLength wsX11_recordLength) := goodIn_app (goodIn_m (mem_cA (List.mem_cons_of_mem _ (List.mem_append_left _ (List.mem_append_left _ (List.mem_append_left _ (List.mem_append_left _ (List.mem_append_left _ (List.mem_of_getElem? (i := 1) rfl))))))) (mem_cA (List.mem_cons_of_mem _ (List.mem_append_left _ (List.mem_append_left _ (List.mem_append_left _ (List.mem_append_left _ (List.mem_append_left _ (List.mem_of_getElem? (i := 2) rfl))))))) (mem_cA (List.mem_cons_of_mem _ (List.mem_append_left _ (List.mem_append_left _ (List.mem_append_left _ (List.mem_append_left _ (List.mem_append_left _ (List.mem_of_getElem? (i := 3) rfl))))))) (mem_cA (List.mem_cons_of_mem _ (List.mem_append_left _ (List.mem_append_left _ (List.mem_append_left _ (List.mem_append_left _ (List.mem_append_left _ (List.mem_of_getElem? (i := 4) rfl))))))) mem_cZ)))) (by decide +kernel)) ggL_recordLength_X11_recordLength
theorem dL_recordLength_0 : decode cL_recordLength 0 = .ok (.aload_n 2, 1) := by decide +kernel
theorem dL_recordLength_1 : decode cL_recordLength 1 = .ok (.iconst 0, 1) := by decide +kernel
theorem dL_recordLength_2 : decode cL_recordLength 2 = .ok (.aload_n 0, 1) := by decide +kernel
theorem dL_recordLength_3 : decode cL_recordLength 3 = .ok (.iload_n 1, 1) := by decide +kernel
theorem dL_recordLength_4 : decode cL_recordLength 4 = .ok (.invokevirtual 41, 3) := by decide +kernel
theorem dL_recordLength_7 : decode cL_recordLength 7 = .ok (.i2l, 1) := by decide +kernel
theorem dL_recordLength_8 : decode cL_recordLength 8 = .ok (.lastore, 1) := by decide +kernel
theorem dL_recordLength_9 : decode cL_recordLength 9 = .ok (.goto 6, 3) := by decide +kernel
theorem dL_recordLength_12 : decode cL_recordLength 12 = .ok (.astore_n 3, 1) := by decide +kernel
theorem dL_recordLength_13 : decode cL_recordLength 13 = .ok (.iconst 1, 1) := by decide +kernel
theorem dL_recordLength_14 : decode cL_recordLength 14 = .ok (.ireturn, 1) := by decide +kernel
theorem dL_recordLength_15 : decode cL_recordLength 15 = .ok (.iconst 0, 1) := by decide +kernel
theorem dL_recordLength_16 : decode cL_recordLength 16 = .ok (.ireturn, 1) := by decide +kernel
set_option maxRecDepth 20000 in
theorem ggL_setSupport_X11_setSupport : GoodIn wsL_setSupport wsX11_setSupport := goodIn_ca (goodIn_ca ((goodIn_ca (goodIn_ca (goodIn_ca (goodIn_ca (goodIn_r _ [6, 7, 8, 9, 10, 11, 12, 13, 14, 15, 16, 17, 18, 19, 20, 21, 22, 23, 24, 25, 26, 27, 28, 29, 30, 31, 32, 33, 34, 35, 36, 37, 38, 39, 40, 41, 42, 43, 44, 45, 46, 47, 48, 49, 50, 51, 52, 53, 54, 55] rfl (by decide +kernel)) (goodIn_sub (fun _ h => List.mem_cons_of_mem _ (List.mem_append_left _ (List.mem_append_left _ (List.mem_append_left _ (List.mem_append_left _ (List.mem_append_left _ (List.mem_append_right _ h))))))) gw_wsX110)) (goodIn_sub (fun _ h => List.mem_cons_of_mem _ (List.mem_append_left _ (List.mem_append_left _ (List.mem_append_left _ (List.mem_append_left _ (List.mem_append_right _ h)))))) gw_wsX10)) (goodIn_sub (fun _ h => List.mem_cons_of_mem _ (List.mem_append_left _ (List.mem_append_left _ (List.mem_append_left _ (List.mem_append_right _ h))))) gw_wsX100)) (goodIn_sub (fun _ h => List.mem_cons_of_mem _ (List.mem_append_left _ (List.mem_append_left _ (List.mem_append_right _ h)))) gw_wsX80))) (goodIn_sub (fun _ h => List.mem_cons_of_mem _ (List.mem_append_right _ h)) (all_fg _))) (goodIn_sub (fun _ h => List.mem_cons_of_mem _ (List.mem_append_left _ (List.mem_append_right _ h))) (all_fg _))
set_option maxRecDepth 20000 in
theorem gL_setSupport_X11_setSupport : GoodIn wsL_setSupport (wsV RL 44 RX11 yX11_setSupport wsX11_setSupport) := goodIn_app (goodIn_m (mem_cA (List.mem_cons_of_mem _ (List.mem_append_left _ (List.mem_append_left _ (List.mem_append_left _ (List.mem_append_left _ (List.mem_append_left _ (List.mem_append_left _ (List.mem_append_left _ (List.mem_of_getElem? (i := 1) rfl))))))))) (mem_cA (List.mem_cons_of_mem _ (List.mem_append_left _ (List.mem_append_left _ (List.mem_append_left _ (List.mem_append_left _ (List.mem_append_left _ (List.mem_append_left _ (List.mem_append_left _ (List.mem_of_getElem? (i := 2) rfl))))))))) (mem_cA (List.mem_cons_of_mem _ (List.mem_append_left _ (List.mem_append_left _ (List.mem_append_left _ (List.mem_append_left _ (List.mem_append_left _ (List.mem_append_left _ (List.mem_append_left _ (List.mem_of_getElem? (i := 3) rfl))))))))) (mem_cA (List.mem_cons_of_mem _ (List.mem_append_left _ (List.mem_append_left _ (List.mem_append_left _ (List.mem_append_left _ (List.mem_append_left _ (List.mem_append_left _ (List.mem_append_left _ (List.mem_of_getElem? (i := 4) rfl))))))))) mem_cZ)))) (by decide +kernel)) ggL_setSupport_X11_setSupport
theorem dL_setSupport_0 : decode cL_setSupport 0 = .ok (.aload_n 3, 1) := by decide +kernel
theorem dL_setSupport_1 : decode cL_setSupport 1 = .ok (.iconst 0, 1) := by decide +kernel
theorem dL_setSupport_2 : decode cL_setSupport 2 = .ok (.aload_n 0, 1) := by decide +kernel
theorem dL_setSupport_3 : decode cL_setSupport 3 = .ok (.iload_n 1, 1) := by decide +kernel
theorem dL_setSupport_4 : decode cL_setSupport 4 = .ok (.iload_n 2, 1) := by decide +kernel
theorem dL_setSupport_5 : decode cL_setSupport 5 = .ok (.invokevirtual 44, 3) := by decide +kernel
theorem dL_setSupport_8 : decode cL_setSupport 8 = .ok (.ifCond .eq 7, 3) := by decide +kernel
theorem dL_setSupport_11 : decode cL_setSupport 11 = .ok (.lconst 1, 1) := by decide +kernel
theorem dL_setSupport_12 : decode cL_setSupport 12 = .ok (.goto 4, 3) := by decide +kernel
theorem dL_setSupport_15 : decode cL_setSupport 15 = .ok (.lconst 0, 1) := by decide +kernel
theorem dL_setSupport_16 : decode cL_setSupport 16 = .ok (.lastore, 1) := by decide +kernel
theorem dL_setSupport_17 : decode cL_setSupport 17 = .ok (.goto 7, 3) := by decide +kernel
theorem dL_setSupport_20 : decode cL_setSupport 20 = .ok (.astore 4, 2) := by decide +kernel
theorem dL_setSupport_22 : decode cL_setSupport 22 = .ok (.iconst 1, 1) := by decide +kernel
theorem dL_setSupport_23 : decode cL_setSupport 23 = .ok (.ireturn, 1) := by decide +kernel
theorem dL_setSupport_24 : decode cL_setSupport 24 = .ok (.iconst 0, 1) := by decide +kernel
theorem dL_setSupport_25 : decode cL_setSupport 25 = .ok (.ireturn, 1) := by decide +kernel
set_option maxRecDepth 20000 in
theorem ggL_isDue_X11_isDue : GoodIn wsL_isDue wsX11_isDue := goodIn_ca (goodIn_ca ((goodIn_ca (goodIn_ca (goodIn_ca (goodIn_ca (goodIn_ca (goodIn_r _ [6, 7, 8, 9, 10, 11, 12, 5, 13, 14, 15, 16, 17, 18, 19, 20, 21, 22, 23, 24, 25, 26, 27, 28, 29, 30, 31, 32, 33, 34, 35, 36, 37, 38] rfl (by decide +kernel)) (goodIn_sub (fun _ h => List.mem_cons_of_mem _ (List.mem_append_left _ (List.mem_append_left _ (List.mem_append_left _ (List.mem_append_left _ (List.mem_append_left _ (List.mem_append_left _ (List.mem_append_right _ h)))))))) gw_wsX110)) (goodIn_sub (fun _ h => List.mem_cons_of_mem _ (List.mem_append_left _ (List.mem_append_left _ (List.mem_append_left _ (List.mem_append_left _ (List.mem_append_left _ (List.mem_append_right _ h))))))) gw_wsX20)) (goodIn_sub (fun _ h => List.mem_cons_of_mem _ (List.mem_append_left _ (List.mem_append_left _ (List.mem_append_left _ (List.mem_append_left _ (List.mem_append_right _ h)))))) gw_wsX10)) (goodIn_sub (fun _ h => List.mem_cons_of_mem _ (List.mem_append_left _ (List.mem_append_left _ (List.mem_append_left _ (List.mem_append_right _ h))))) gw_wsX80)) (goodIn_sub (fun _ h => List.mem_cons_of_mem _ (List.mem_append_left _ (List.mem_append_left _ (List.mem_append_right _ h)))) gw_wsX100))) (goodIn_sub (fun _ h => List.mem_cons_of_mem _ (List.mem_append_right _ h)) (all_fg _))) (goodIn_sub (fun _ h => List.mem_cons_of_mem _ (List.mem_append_left _ (List.mem_append_right _ h))) (all_fg _))
set_option maxRecDepth 20000 in
theorem gL_isDue_X11_isDue : GoodIn wsL_isDue (wsV RL 48 RX11 yX11_isDue wsX11_isDue) := goodIn_app (goodIn_m (mem_cA (List.mem_cons_of_mem _ (List.mem_append_left _ (List.mem_append_left _ (List.mem_append_left _ (List.mem_append_left _ (List.mem_append_left _ (List.mem_append_left _ (List.mem_append_left _ (List.mem_append_left _ (List.mem_of_getElem? (i := 1) rfl)))))))))) (mem_cA (List.mem_cons_of_mem _ (List.mem_append_left _ (List.mem_append_left _ (List.mem_append_left _ (List.mem_append_left _ (List.mem_append_left _ (List.mem_append_left _ (List.mem_append_left _ (List.mem_append_left _ (List.mem_of_getElem? (i := 2) rfl)))))))))) (mem_cA (List.mem_cons_of_mem _ (List.mem_append_left _ (List.mem_append_left _ (List.mem_append_left _ (List.mem_append_left _ (List.mem_append_left _ (List.mem_append_left _ (List.mem_append_left _ (List.mem_append_left _ (List.mem_of_getElem? (i := 3) rfl)))))))))) (mem_cA (List.mem_cons_of_mem _ (List.mem_append_left _ (List.mem_append_left _ (List.mem_append_left _ (List.mem_append_left _ (List.mem_append_left _ (List.mem_append_left _ (List.mem_append_left _ (List.mem_append_left _ (List.mem_of_getElem? (i := 4) rfl)))))))))) mem_cZ)))) (by decide +kernel)) ggL_isDue_X11_isDue
theorem dL_isDue_0 : decode cL_isDue 0 = .ok (.aload_n 2, 1) := by decide +kernel
theorem dL_isDue_1 : decode cL_isDue 1 = .ok (.iconst 0, 1) := by decide +kernel
theorem dL_isDue_2 : decode cL_isDue 2 = .ok (.aload_n 0, 1) := by decide +kernel
theorem dL_isDue_3 : decode cL_isDue 3 = .ok (.iload_n 1, 1) := by decide +kernel
theorem dL_isDue_4 : decode cL_isDue 4 = .ok (.invokevirtual 48, 3) := by decide +kernel
theorem dL_isDue_7 : decode cL_isDue 7 = .ok (.ifCond .eq 7, 3) := by decide +kernel
theorem dL_isDue_10 : decode cL_isDue 10 = .ok (.lconst 1, 1) := by decide +kernel
theorem dL_isDue_11 : decode cL_isDue 11 = .ok (.goto 4, 3) := by decide +kernel
theorem dL_isDue_14 : decode cL_isDue 14 = .ok (.lconst 0, 1) := by decide +kernel
theorem dL_isDue_15 : decode cL_isDue 15 = .ok (.lastore, 1) := by decide +kernel
theorem dL_isDue_16 : decode cL_isDue 16 = .ok (.goto 6, 3) := by decide +kernel
theorem dL_isDue_19 : decode cL_isDue 19 = .ok (.astore_n 3, 1) := by decide +kernel
theorem dL_isDue_20 : decode cL_isDue 20 = .ok (.iconst 1, 1) := by decide +kernel
theorem dL_isDue_21 : decode cL_isDue 21 = .ok (.ireturn, 1) := by decide +kernel
theorem dL_isDue_22 : decode cL_isDue 22 = .ok (.iconst 0, 1) := by decide +kernel
theorem dL_isDue_23 : decode cL_isDue 23 = .ok (.ireturn, 1) := by decide +kernel
set_option maxRecDepth 20000 in
theorem ggL_messageLength_X11_messageLength : GoodIn wsL_messageLength wsX11_messageLength := goodIn_ca ((goodIn_ca (goodIn_ca (goodIn_ca (goodIn_r _ [6, 7, 8, 9, 10, 11, 5, 12, 13, 14, 15, 16, 17, 18, 19, 20, 21] rfl (by decide +kernel)) (goodIn_sub (fun _ h => List.mem_cons_of_mem _ (List.mem_append_left _ (List.mem_append_left _ (List.mem_append_left _ (List.mem_append_left _ (List.mem_append_right _ h)))))) gw_wsX110)) (goodIn_sub (fun _ h => List.mem_cons_of_mem _ (List.mem_append_left _ (List.mem_append_left _ (List.mem_append_left _ (List.mem_append_right _ h))))) gw_wsX50)) (goodIn_sub (fun _ h => List.mem_cons_of_mem _ (List.mem_append_left _ (List.mem_append_left _ (List.mem_append_right _ h)))) gw_wsX70))) (goodIn_sub (fun _ h => List.mem_cons_of_mem _ (List.mem_append_right _ h)) (all_fg _))
set_option maxRecDepth 20000 in
theorem gL_messageLength_X11_messageLength : GoodIn wsL_messageLength (wsV RL 52 RX11 yX11_messageLength wsX11_messageLength) := goodIn_app (goodIn_m (mem_cA (List.mem_cons_of_mem _ (List.mem_append_left _ (List.mem_append_left _ (List.mem_append_left _ (List.mem_append_left _ (List.mem_append_left _ (List.mem_of_getElem? (i := 1) rfl))))))) (mem_cA (List.mem_cons_of_mem _ (List.mem_append_left _ (List.mem_append_left _ (List.mem_append_left _ (List.mem_append_left _ (List.mem_append_left _ (List.mem_of_getElem? (i := 2) rfl))))))) (mem_cA (List.mem_cons_of_mem _ (List.mem_append_left _ (List.mem_append_left _ (List.mem_append_left _ (List.mem_append_left _ (List.mem_append_left _ (List.mem_of_getElem? (i := 3) rfl))))))) (mem_cA (List.mem_cons_of_mem _ (List.mem_append_left _ (List.mem_append_left _ (List.mem_append_left _ (List.mem_append_left _ (List.mem_append_left _ (List.mem_of_getElem? (i := 4) rfl))))))) mem_cZ)))) (by decide +kernel)) ggL_messageLength_X11_messageLength
theorem dL_messageLength_0 : decode cL_messageLength 0 = .ok (.aload_n 2, 1) := by decide +kernel
theorem dL_messageLength_1 : decode cL_messageLength 1 = .ok (.iconst 0, 1) := by decide +kernel
theorem dL_messageLength_2 : decode cL_messageLength 2 = .ok (.aload_n 0, 1) := by decide +kernel
theorem dL_messageLength_3 : decode cL_messageLength 3 = .ok (.iload_n 1, 1) := by decide +kernel
theorem dL_messageLength_4 : decode cL_messageLength 4 = .ok (.invokevirtual 52, 3) := by decide +kernel
theorem dL_messageLength_7 : decode cL_messageLength 7 = .ok (.i2l, 1) := by decide +kernel
theorem dL_messageLength_8 : decode cL_messageLength 8 = .ok (.lastore, 1) := by decide +kernel
theorem dL_messageLength_9 : decode cL_messageLength 9 = .ok (.goto 6, 3) := by decide +kernel
theorem dL_messageLength_12 : decode cL_messageLength 12 = .ok (.astore_n 3, 1) := by decide +kernel
theorem dL_messageLength_13 : decode cL_messageLength 13 = .ok (.iconst 1, 1) := by decide +kernel
theorem dL_messageLength_14 : decode cL_messageLength 14 = .ok (.ireturn, 1) := by decide +kernel
theorem dL_messageLength_15 : decode cL_messageLength 15 = .ok (.iconst 0, 1) := by decide +kernel
theorem dL_messageLength_16 : decode cL_messageLength 16 = .ok (.ireturn, 1) := by decide +kernel
set_option maxRecDepth 20000 in
theorem ggL_messageByte_X11_messageByte : GoodIn wsL_messageByte wsX11_messageByte := goodIn_ca (goodIn_ca ((goodIn_ca (goodIn_ca (goodIn_ca (goodIn_r _ [6, 7, 8, 9, 10, 5, 11, 12, 13, 14, 15, 16, 17, 18, 19, 20, 21, 22, 23, 24, 25, 26, 27] rfl (by decide +kernel)) (goodIn_sub (fun _ h => List.mem_cons_of_mem _ (List.mem_append_left _ (List.mem_append_left _ (List.mem_append_left _ (List.mem_append_left _ (List.mem_append_right _ h)))))) gw_wsX110)) (goodIn_sub (fun _ h => List.mem_cons_of_mem _ (List.mem_append_left _ (List.mem_append_left _ (List.mem_append_left _ (List.mem_append_right _ h))))) gw_wsX70)) (goodIn_sub (fun _ h => List.mem_cons_of_mem _ (List.mem_append_left _ (List.mem_append_left _ (List.mem_append_right _ h)))) gw_wsX50))) (goodIn_sub (fun _ h => List.mem_cons_of_mem _ (List.mem_append_right _ h)) (all_fg _))) (goodIn_sub (fun _ h => List.mem_cons_of_mem _ (List.mem_append_left _ (List.mem_append_right _ h))) (all_fg _))
set_option maxRecDepth 20000 in
theorem gL_messageByte_X11_messageByte : GoodIn wsL_messageByte (wsV RL 55 RX11 yX11_messageByte wsX11_messageByte) := goodIn_app (goodIn_m (mem_cA (List.mem_cons_of_mem _ (List.mem_append_left _ (List.mem_append_left _ (List.mem_append_left _ (List.mem_append_left _ (List.mem_append_left _ (List.mem_append_left _ (List.mem_of_getElem? (i := 1) rfl)))))))) (mem_cA (List.mem_cons_of_mem _ (List.mem_append_left _ (List.mem_append_left _ (List.mem_append_left _ (List.mem_append_left _ (List.mem_append_left _ (List.mem_append_left _ (List.mem_of_getElem? (i := 2) rfl)))))))) (mem_cA (List.mem_cons_of_mem _ (List.mem_append_left _ (List.mem_append_left _ (List.mem_append_left _ (List.mem_append_left _ (List.mem_append_left _ (List.mem_append_left _ (List.mem_of_getElem? (i := 3) rfl)))))))) (mem_cA (List.mem_cons_of_mem _ (List.mem_append_left _ (List.mem_append_left _ (List.mem_append_left _ (List.mem_append_left _ (List.mem_append_left _ (List.mem_append_left _ (List.mem_of_getElem? (i := 4) rfl)))))))) mem_cZ)))) (by decide +kernel)) ggL_messageByte_X11_messageByte
theorem dL_messageByte_0 : decode cL_messageByte 0 = .ok (.aload_n 3, 1) := by decide +kernel
theorem dL_messageByte_1 : decode cL_messageByte 1 = .ok (.iconst 0, 1) := by decide +kernel
theorem dL_messageByte_2 : decode cL_messageByte 2 = .ok (.aload_n 0, 1) := by decide +kernel
theorem dL_messageByte_3 : decode cL_messageByte 3 = .ok (.iload_n 1, 1) := by decide +kernel
theorem dL_messageByte_4 : decode cL_messageByte 4 = .ok (.iload_n 2, 1) := by decide +kernel
theorem dL_messageByte_5 : decode cL_messageByte 5 = .ok (.invokevirtual 55, 3) := by decide +kernel
theorem dL_messageByte_8 : decode cL_messageByte 8 = .ok (.i2l, 1) := by decide +kernel
theorem dL_messageByte_9 : decode cL_messageByte 9 = .ok (.lastore, 1) := by decide +kernel
theorem dL_messageByte_10 : decode cL_messageByte 10 = .ok (.goto 7, 3) := by decide +kernel
theorem dL_messageByte_13 : decode cL_messageByte 13 = .ok (.astore 4, 2) := by decide +kernel
theorem dL_messageByte_15 : decode cL_messageByte 15 = .ok (.iconst 1, 1) := by decide +kernel
theorem dL_messageByte_16 : decode cL_messageByte 16 = .ok (.ireturn, 1) := by decide +kernel
theorem dL_messageByte_17 : decode cL_messageByte 17 = .ok (.iconst 0, 1) := by decide +kernel
theorem dL_messageByte_18 : decode cL_messageByte 18 = .ok (.ireturn, 1) := by decide +kernel
set_option maxRecDepth 20000 in
theorem ggL_deliver_X11_deliver : GoodIn wsL_deliver wsX11_deliver := goodIn_ca (goodIn_ca ((goodIn_ca (goodIn_ca (goodIn_ca (goodIn_ca (goodIn_ca (goodIn_ca (goodIn_ca (goodIn_ca (goodIn_r _ [6, 7, 8, 9, 10, 11, 12, 13, 5, 14, 15, 16, 17, 18, 19, 20, 21, 22, 23, 24, 25, 26, 27, 28, 29, 30, 31, 32, 33, 34, 35, 36, 37, 38, 39, 40, 41, 42, 43, 44, 45, 46, 47, 48, 49, 50, 51, 52, 53, 54, 55, 56, 57, 58, 59, 60, 61, 62, 63, 64, 65, 66, 67, 68, 69, 70, 71, 72, 73, 74, 75, 76, 77, 78, 79, 80, 81, 82, 83, 84, 85, 86, 87, 88, 89, 90, 91, 92, 93, 94, 95, 96, 97, 98, 99, 100, 101, 102, 103, 104, 105, 106, 107, 108, 109, 110, 111, 112, 113, 114, 115, 116, 117, 118, 119, 120, 121, 122, 123, 124, 125, 126, 127, 128, 129, 130, 131, 132, 133, 134, 135, 136, 137, 138, 139, 140, 141, 142, 143, 144, 145, 146, 147, 148, 149, 150, 151, 152, 153, 154, 155, 156, 157, 158, 159, 160, 161, 162, 163, 164, 165, 166, 167, 168, 169, 170, 171, 172, 173, 174, 175, 176, 177, 178, 179, 180, 181, 182] rfl (by decide +kernel)) (goodIn_sub (fun _ h => List.mem_cons_of_mem _ (List.mem_append_left _ (List.mem_append_left _ (List.mem_append_left _ (List.mem_append_left _ (List.mem_append_left _ (List.mem_append_left _ (List.mem_append_left _ (List.mem_append_left _ (List.mem_append_left _ (List.mem_append_right _ h))))))))))) gw_wsX110)) (goodIn_sub (fun _ h => List.mem_cons_of_mem _ (List.mem_append_left _ (List.mem_append_left _ (List.mem_append_left _ (List.mem_append_left _ (List.mem_append_left _ (List.mem_append_left _ (List.mem_append_left _ (List.mem_append_left _ (List.mem_append_right _ h)))))))))) gw_wsX20)) (goodIn_sub (fun _ h => List.mem_cons_of_mem _ (List.mem_append_left _ (List.mem_append_left _ (List.mem_append_left _ (List.mem_append_left _ (List.mem_append_left _ (List.mem_append_left _ (List.mem_append_left _ (List.mem_append_right _ h))))))))) gw_wsX70)) (goodIn_sub (fun _ h => List.mem_cons_of_mem _ (List.mem_append_left _ (List.mem_append_left _ (List.mem_append_left _ (List.mem_append_left _ (List.mem_append_left _ (List.mem_append_left _ (List.mem_append_right _ h)))))))) gw_wsX00)) (goodIn_sub (fun _ h => List.mem_cons_of_mem _ (List.mem_append_left _ (List.mem_append_left _ (List.mem_append_left _ (List.mem_append_left _ (List.mem_append_left _ (List.mem_append_right _ h))))))) gw_wsX50)) (goodIn_sub (fun _ h => List.mem_cons_of_mem _ (List.mem_append_left _ (List.mem_append_left _ (List.mem_append_left _ (List.mem_append_left _ (List.mem_append_right _ h)))))) gw_wsX100)) (goodIn_sub (fun _ h => List.mem_cons_of_mem _ (List.mem_append_left _ (List.mem_append_left _ (List.mem_append_left _ (List.mem_append_right _ h))))) gw_wsX10)) (goodIn_sub (fun _ h => List.mem_cons_of_mem _ (List.mem_append_left _ (List.mem_append_left _ (List.mem_append_right _ h)))) gw_wsX90))) (goodIn_sub (fun _ h => List.mem_cons_of_mem _ (List.mem_append_right _ h)) (all_fg _))) (goodIn_sub (fun _ h => List.mem_cons_of_mem _ (List.mem_append_left _ (List.mem_append_right _ h))) (all_fg _))
set_option maxRecDepth 20000 in
theorem gL_deliver_X11_deliver : GoodIn wsL_deliver (wsV RL 58 RX11 yX11_deliver wsX11_deliver) := goodIn_app (goodIn_m (mem_cA (List.mem_cons_of_mem _ (List.mem_append_left _ (List.mem_append_left _ (List.mem_append_left _ (List.mem_append_left _ (List.mem_append_left _ (List.mem_append_left _ (List.mem_append_left _ (List.mem_append_left _ (List.mem_append_left _ (List.mem_append_left _ (List.mem_append_left _ (List.mem_of_getElem? (i := 1) rfl))))))))))))) (mem_cA (List.mem_cons_of_mem _ (List.mem_append_left _ (List.mem_append_left _ (List.mem_append_left _ (List.mem_append_left _ (List.mem_append_left _ (List.mem_append_left _ (List.mem_append_left _ (List.mem_append_left _ (List.mem_append_left _ (List.mem_append_left _ (List.mem_append_left _ (List.mem_of_getElem? (i := 2) rfl))))))))))))) (mem_cA (List.mem_cons_of_mem _ (List.mem_append_left _ (List.mem_append_left _ (List.mem_append_left _ (List.mem_append_left _ (List.mem_append_left _ (List.mem_append_left _ (List.mem_append_left _ (List.mem_append_left _ (List.mem_append_left _ (List.mem_append_left _ (List.mem_append_left _ (List.mem_of_getElem? (i := 3) rfl))))))))))))) (mem_cA (List.mem_cons_of_mem _ (List.mem_append_left _ (List.mem_append_left _ (List.mem_append_left _ (List.mem_append_left _ (List.mem_append_left _ (List.mem_append_left _ (List.mem_append_left _ (List.mem_append_left _ (List.mem_append_left _ (List.mem_append_left _ (List.mem_append_left _ (List.mem_of_getElem? (i := 4) rfl))))))))))))) mem_cZ)))) (by decide +kernel)) ggL_deliver_X11_deliver
theorem dL_deliver_0 : decode cL_deliver 0 = .ok (.aload_n 2, 1) := by decide +kernel
theorem dL_deliver_1 : decode cL_deliver 1 = .ok (.iconst 0, 1) := by decide +kernel
theorem dL_deliver_2 : decode cL_deliver 2 = .ok (.aload_n 0, 1) := by decide +kernel
theorem dL_deliver_3 : decode cL_deliver 3 = .ok (.iload_n 1, 1) := by decide +kernel
theorem dL_deliver_4 : decode cL_deliver 4 = .ok (.invokevirtual 58, 3) := by decide +kernel
theorem dL_deliver_7 : decode cL_deliver 7 = .ok (.i2l, 1) := by decide +kernel
theorem dL_deliver_8 : decode cL_deliver 8 = .ok (.lastore, 1) := by decide +kernel
theorem dL_deliver_9 : decode cL_deliver 9 = .ok (.goto 6, 3) := by decide +kernel
theorem dL_deliver_12 : decode cL_deliver 12 = .ok (.astore_n 3, 1) := by decide +kernel
theorem dL_deliver_13 : decode cL_deliver 13 = .ok (.iconst 1, 1) := by decide +kernel
theorem dL_deliver_14 : decode cL_deliver 14 = .ok (.ireturn, 1) := by decide +kernel
theorem dL_deliver_15 : decode cL_deliver 15 = .ok (.iconst 0, 1) := by decide +kernel
theorem dL_deliver_16 : decode cL_deliver 16 = .ok (.ireturn, 1) := by decide +kernel
set_option maxHeartbeats 4000000 in
set_option maxRecDepth 100000 in
theorem w_observe (G : EnvG) (l : Launch) (hl9 : l.stackTraces = false) (Φ : Hm) (sz x ca : Nat) (tm r w : Nat) (aq e : Int32) (ob sm un : Int64) (n : Nat) (Fs : Nat → Fl) (nT : Nat) (Ft : Nat → Fl) (sn : SN) (qn : Nat) (qL : Nat → Nat) (qd : Int32) (t s : Nat) (c : Cf) (a : Int32) (b : Int32) (d : Int32) (f : Int32) (g : Int32) (o : Nat) (fo : Nat → Int64) (hx : G.2.2.2 ≤ x) (hno : G.2.2.2 ≤ o) (ho : ∀ j, j < 149 → o ≠ x + j) (hI : In G x ca Φ) (hc : Φ o = some (al_ G 1 fo)) (hXC : XC G x (tm, r, w, aq, e, ob, sm, un, (n, Fs), (nT, Ft)) Φ) (hSQ : SQ G x c sn (qn, qL, qd) Φ) (hcA : CfA G x t s c Φ) (hg : CfG c) (had9 : aq = 0 ∨ aq = 1) : Ct G l yL_observe wsL_observe ({ frames := 8, cells := 1, slots := 6, locals := 178 }) 1 6 [.ref x, .int a, .int b, .int d, .int f, .int g, .ref o] Φ sz (fun v Φ1 sz1 => (∃ (k9 : Int32) (fo9 : Nat → Int64) (y8 : YZ), v = some (.int k9) ∧ Φ1 o = some (al_ G 1 fo9) ∧ XC G x y8.1 Φ1 ∧ SQ G x c y8.2.1 y8.2.2 Φ1 ∧ AnsZ (PkP a b d f g) True (ObY c a b d f g 1 ((tm, r, w, aq, e, ob, sm, un, (n, Fs), (nT, Ft)), sn, qn, qL, qd)) ((tm, r, w, aq, e, ob, sm, un, (n, Fs), (nT, Ft)), sn, qn, qL, qd) y8 k9 (fo9 0)) ∧ WpL G x (ca) (fun j9 => 46 ≤ j9 ∧ j9 < 121) o Φ Φ1) := by
  refine Ct.ofH (cc := cL_observe) (maxL := 8) (ret := (some .int)) (by decide) rfl (Nat.le_of_ble_eq_true rfl) ?_
  intro p9 e9 s9 m9 w9 t9 k9 B htab9
  show Z p9 l e9 _ s9 m9 _ w9 t9 k9 _ G 8 0 [(0, .ref x), (1, .int a), (2, .int b), (3, .int d), (4, .int f), (5, .int g), (6, .ref o)] [] Φ sz 0 0
  have hX0 := hXC
  obtain ⟨xp, xb, pp, pt, he9, hE0, h810, h950, hTC, hTT, hb9⟩ := hXC
  have hSQ0 := hSQ
  obtain ⟨hSd, qp, hQ0⟩ := hSQ0
  have hQ : QbR G x qn qL qd qp Φ := hQ0
  have hqn9 : qn ≤ 12 := hQ.le
  replace he9 : xp - xb = e := he9
  have hE9 : Φ (x + 80) = some (e80 x (nI tm) (nI r) (nI w) aq xp xb ob sm un) := hE0
  have h819 : Φ (x + 81) = some (o_ 6 [.ref (x + 82), .int (nI n)]) := h810
  have h959 : Φ (x + 95) = some (o_ 6 [.ref (x + 96), .int (nI nT)]) := h950
  have hb8 : tm ≤ 1000000 ∧ 1 ≤ r ∧ r ≤ 1024 ∧ w < 2147483648 := hb9
  have hn9 : n ≤ 12 := TbR.le hTC
  have hnT9 : nT ≤ 24 := TbR.le hTT
  refine z_aload B dL_observe_0 6 rfl ?_
  refine z_iconst (v := 0) B dL_observe_2 rfl ?_
  refine z_aload_n B dL_observe_3 rfl 0 rfl ?_
  refine z_iload_n B dL_observe_4 rfl 1 rfl ?_
  refine z_iload_n B dL_observe_5 rfl 2 rfl ?_
  refine z_iload_n B dL_observe_6 rfl 3 rfl ?_
  refine z_iload B dL_observe_7 4 rfl ?_
  refine z_iload B dL_observe_9 5 rfl ?_
  have h0 : Φ x = some (o_ 13 [.ref (x + 1), .ref (x + 3), .ref (x + 24), .ref (x + 46), .ref (x + 74), .ref (x + 80), .ref (x + 132), .ref (x + 121)]) := in0 (k := 0) hI rfl
  refine zb_callC (As := [.int a, .int b, .int d, .int f, .int g]) (rest := [.int 0, .ref o]) B (s_X11_observeX G l hl9 Φ sz x ca tm r w aq xp xb ob sm (un, 0, fun _ => 0) n Fs pp nT Ft pt t s c sn qn qL qd qp a b d f g hx hI hE9 h819 h959 hTC hTT hcA (SdP.eq0 rfl hSd) hQ hn9 hnT9 hb8.1 ⟨hb8.2.1, hb8.2.2.1⟩ hb8.2.2.2 hg had9) (cwV 5 B.1.2.2.2.2 gL_observe_X11_observe rfl rfl rfl (by decide +kernel) ⟨Nat.le_of_ble_eq_true rfl, Nat.le_of_ble_eq_true rfl⟩) h0 rfl rfl rfl rfl (Nat.le_of_ble_eq_true rfl) dL_observe_11 ⟨Nat.le_of_ble_eq_true rfl, Nat.le_of_ble_eq_true rfl⟩ (fun v1 Φ1 sz1 st1 hp1 hs1 => ?_) (fun E9 hE9_ => ?_)
  · obtain ⟨⟨⟨n8, F8, u8, w8, k8, d8, p8, m8, G8, q8, s8, qn8, qL8, qd8, rfl, hE1, h811, h951, hTC1, hTT1, hSd1, hQ1, hf1, hf2, hf3, hf4, hf5, hf6, hsp⟩, hn1⟩, hz1, hI1, hF1⟩ := hp1
    obtain ⟨y8, hX8, hS8, hR8⟩ := XY_ob he9 ⟨hb8.1, hb8.2.1, hb8.2.2.1⟩ hf5 hE1 h811 h951 hTC1 hTT1 (SdP.z0 hSd1) hQ1 hf1 hf2 hsp
    subst sz1
    replace hs1 : st1 = [.int (nI k8), .int 0, .ref o] := hs1
    subst st1
    have hc1_ : Φ1 o = some (al_ G 1 fo) := (Fr.at hF1 (fun j hj => by replace hj : 46 ≤ j ∧ j < 121 := hj; omega) ho).trans hc
    refine z_if_eq (tgt := 21) B dL_observe_14 rfl (fun c_1 => ?_) (fun c_1 => ?_)
    · refine z_lconst (v := 0) B dL_observe_21 rfl ?_
      refine z_last B hc1_ hno (vin rfl) dL_observe_22 (fun Φ2 hΦ2 => ?_)
      refine z_goto (tgt := 30) B dL_observe_23 rfl ?_
      refine z_iconst (v := 0) B dL_observe_30 rfl ?_
      exact z_ret_i B dL_observe_31 ⟨⟨_, _, y8, rfl, fset_at hΦ2, XC_fl0 hX8 ho hΦ2, SQ_fl0 hS8 ho hΦ2, Or.inl ⟨rq_y hn1, trivial, rfl, _, hR8, (updL_at.trans (b2l_0 c_1))⟩⟩, In.out hI1 ho hΦ2, ⟨_, fset_at hΦ2⟩, fun b9 h9 h8 => (fset_fr hΦ2 h8).trans (hF1 b9 (fun j9 q9 hj => h9 j9 hj q9))⟩
    · refine z_lconst (v := 1) B dL_observe_17 rfl ?_
      refine z_goto (tgt := 22) B dL_observe_18 rfl ?_
      refine z_last B hc1_ hno (vin rfl) dL_observe_22 (fun Φ2 hΦ2 => ?_)
      refine z_goto (tgt := 30) B dL_observe_23 rfl ?_
      refine z_iconst (v := 0) B dL_observe_30 rfl ?_
      exact z_ret_i B dL_observe_31 ⟨⟨_, _, y8, rfl, fset_at hΦ2, XC_fl0 hX8 ho hΦ2, SQ_fl0 hS8 ho hΦ2, Or.inl ⟨rq_y hn1, trivial, rfl, _, hR8, (updL_at.trans (b2l_1 (k01 hf6) c_1))⟩⟩, In.out hI1 ho hΦ2, ⟨_, fset_at hΦ2⟩, fun b9 h9 h8 => (fset_fr hΦ2 h8).trans (hF1 b9 (fun j9 q9 hj => h9 j9 hj q9))⟩
  · obtain rfl : E9 = xIA := List.mem_singleton.mp hE9_
    refine ⟨26, ⟨[], ⟨0, 23, 26, 13⟩, [], htab9.trans rfl, (fun z9 hz9 => absurd hz9 List.not_mem_nil), by decide, by decide, by decide +kernel, by decide, rfl⟩, fun q9 sz9 Φ9 hP9 => ?_⟩
    refine z_astore (lv' := [(7, .ref q9), (0, .ref x), (1, .int a), (2, .int b), (3, .int d), (4, .int f), (5, .int g), (6, .ref o)]) B dL_observe_26 (Nat.le_of_ble_eq_true rfl) rfl ?_
    refine z_iconst (v := 1) B dL_observe_28 rfl ?_
    exact z_ret_i B dL_observe_29 ⟨⟨_, fo, _, rfl, (Fr.at0 hP9.2.2).trans hc, XC.eq hX0 (fun j _ _ => Fr.at0 hP9.2.2), SQ.eq hSQ (fun j _ _ => Fr.at0 hP9.2.2), Or.inr (Or.inl ⟨rq_n hP9.1, rfl, rfl⟩)⟩, In.mono hP9.2.1 (by omega), ⟨_, (Fr.at0 hP9.2.2).trans hc⟩, fun b9 _ _ => Fr.at0 hP9.2.2⟩

set_option maxHeartbeats 4000000 in
set_option maxRecDepth 100000 in
theorem w_observeMany (G : EnvG) (l : Launch) (hl9 : l.stackTraces = false) (Φ : Hm) (sz x ca : Nat) (tm r w : Nat) (aq e : Int32) (ob sm un : Int64) (n : Nat) (Fs : Nat → Fl) (nT : Nat) (Ft : Nat → Fl) (sn : SN) (qn : Nat) (qL : Nat → Nat) (qd : Int32) (t s : Nat) (c : Cf) (a : Int32) (b : Int32) (d : Int32) (f : Int32) (g : Int32) (h : Int32) (o : Nat) (fo : Nat → Int64) (hx : G.2.2.2 ≤ x) (hno : G.2.2.2 ≤ o) (ho : ∀ j, j < 149 → o ≠ x + j) (hI : In G x ca Φ) (hc : Φ o = some (al_ G 1 fo)) (hXC : XC G x (tm, r, w, aq, e, ob, sm, un, (n, Fs), (nT, Ft)) Φ) (hSQ : SQ G x c sn (qn, qL, qd) Φ) (hcA : CfA G x t s c Φ) (hg : CfG c) (had9 : aq = 0 ∨ aq = 1) : Ct G l yL_observeMany wsL_observeMany ({ frames := 8, cells := 1, slots := 6, locals := 179 }) 1 6 [.ref x, .int a, .int b, .int d, .int f, .int g, .int h, .ref o] Φ sz (fun v Φ1 sz1 => (∃ (k9 : Int32) (fo9 : Nat → Int64) (y8 : YZ), v = some (.int k9) ∧ Φ1 o = some (al_ G 1 fo9) ∧ XC G x y8.1 Φ1 ∧ SQ G x c y8.2.1 y8.2.2 Φ1 ∧ AnsZ (PkP a b d f g ∧ 1 ≤ h.toInt ∧ h.toInt ≤ 200) True (ObY c a b d f g h.toNatClampNeg ((tm, r, w, aq, e, ob, sm, un, (n, Fs), (nT, Ft)), sn, qn, qL, qd)) ((tm, r, w, aq, e, ob, sm, un, (n, Fs), (nT, Ft)), sn, qn, qL, qd) y8 k9 (fo9 0)) ∧ WpL G x (ca) (fun j9 => 46 ≤ j9 ∧ j9 < 121) o Φ Φ1) := by
  refine Ct.ofH (cc := cL_observeMany) (maxL := 9) (ret := (some .int)) (by decide) rfl (Nat.le_of_ble_eq_true rfl) ?_
  intro p9 e9 s9 m9 w9 t9 k9 B htab9
  show Z p9 l e9 _ s9 m9 _ w9 t9 k9 _ G 9 0 [(0, .ref x), (1, .int a), (2, .int b), (3, .int d), (4, .int f), (5, .int g), (6, .int h), (7, .ref o)] [] Φ sz 0 0
  have hX0 := hXC
  obtain ⟨xp, xb, pp, pt, he9, hE0, h810, h950, hTC, hTT, hb9⟩ := hXC
  have hSQ0 := hSQ
  obtain ⟨hSd, qp, hQ0⟩ := hSQ0
  have hQ : QbR G x qn qL qd qp Φ := hQ0
  have hqn9 : qn ≤ 12 := hQ.le
  replace he9 : xp - xb = e := he9
  have hE9 : Φ (x + 80) = some (e80 x (nI tm) (nI r) (nI w) aq xp xb ob sm un) := hE0
  have h819 : Φ (x + 81) = some (o_ 6 [.ref (x + 82), .int (nI n)]) := h810
  have h959 : Φ (x + 95) = some (o_ 6 [.ref (x + 96), .int (nI nT)]) := h950
  have hb8 : tm ≤ 1000000 ∧ 1 ≤ r ∧ r ≤ 1024 ∧ w < 2147483648 := hb9
  have hn9 : n ≤ 12 := TbR.le hTC
  have hnT9 : nT ≤ 24 := TbR.le hTT
  refine z_aload B dL_observeMany_0 7 rfl ?_
  refine z_iconst (v := 0) B dL_observeMany_2 rfl ?_
  refine z_aload_n B dL_observeMany_3 rfl 0 rfl ?_
  refine z_iload_n B dL_observeMany_4 rfl 1 rfl ?_
  refine z_iload_n B dL_observeMany_5 rfl 2 rfl ?_
  refine z_iload_n B dL_observeMany_6 rfl 3 rfl ?_
  refine z_iload B dL_observeMany_7 4 rfl ?_
  refine z_iload B dL_observeMany_9 5 rfl ?_
  refine z_iload B dL_observeMany_11 6 rfl ?_
  have h0 : Φ x = some (o_ 13 [.ref (x + 1), .ref (x + 3), .ref (x + 24), .ref (x + 46), .ref (x + 74), .ref (x + 80), .ref (x + 132), .ref (x + 121)]) := in0 (k := 0) hI rfl
  refine zb_callC (As := [.int a, .int b, .int d, .int f, .int g, .int h]) (rest := [.int 0, .ref o]) B (s_X11_observeManyX G l hl9 Φ sz x ca tm r w aq xp xb ob sm (un, 0, fun _ => 0) n Fs pp nT Ft pt t s c sn qn qL qd qp a b d f g h hx hI hE9 h819 h959 hTC hTT hcA (SdP.eq0 rfl hSd) hQ hn9 hnT9 hb8.1 ⟨hb8.2.1, hb8.2.2.1⟩ hb8.2.2.2 hg had9) (cwV 6 B.1.2.2.2.2 gL_observeMany_X11_observeMany rfl rfl rfl (by decide +kernel) ⟨Nat.le_of_ble_eq_true rfl, Nat.le_of_ble_eq_true rfl⟩) h0 rfl rfl rfl rfl (Nat.le_of_ble_eq_true rfl) dL_observeMany_13 ⟨Nat.le_of_ble_eq_true rfl, Nat.le_of_ble_eq_true rfl⟩ (fun v1 Φ1 sz1 st1 hp1 hs1 => ?_) (fun E9 hE9_ => ?_)
  · obtain ⟨⟨⟨n8, F8, u8, w8, k8, d8, p8, m8, G8, q8, s8, qn8, qL8, qd8, rfl, hE1, h811, h951, hTC1, hTT1, hSd1, hQ1, hf1, hf2, hf3, hf4, hf5, hsp⟩, hn1⟩, hz1, hI1, hF1⟩ := hp1
    have hh9 : nI h.toNatClampNeg = h := nI_cli (by have := (rq_my hn1).2; omega)
    have hE2 : Φ1 (x + 80) = some (e80 x (nI tm) (nI r) (nI w8) aq (xp + nI d8) xb (ob + (nI h.toNatClampNeg).toInt64) (sm + (nI k8).toInt64) u8.1) := hE1.trans (congrArg (fun w9 : Int32 => some (e80 x (nI tm) (nI r) (nI w8) aq (xp + nI d8) xb (ob + w9.toInt64) (sm + (nI k8).toInt64) u8.1)) hh9.symm)
    obtain ⟨y8, hX8, hS8, hR8⟩ := XY_ob he9 ⟨hb8.1, hb8.2.1, hb8.2.2.1⟩ hf5 hE2 h811 h951 hTC1 hTT1 (SdP.z0 hSd1) hQ1 hf1 hf2 hsp
    subst sz1
    replace hs1 : st1 = [.int (nI k8), .int 0, .ref o] := hs1
    subst st1
    have hc1_ : Φ1 o = some (al_ G 1 fo) := (Fr.at hF1 (fun j hj => by replace hj : 46 ≤ j ∧ j < 121 := hj; omega) ho).trans hc
    refine z_i2l (v := (nI k8)) B dL_observeMany_16 rfl ?_
    refine z_last B hc1_ hno (vin rfl) dL_observeMany_17 (fun Φ2 hΦ2 => ?_)
    refine z_goto (tgt := 25) B dL_observeMany_18 rfl ?_
    refine z_iconst (v := 0) B dL_observeMany_25 rfl ?_
    exact z_ret_i B dL_observeMany_26 ⟨⟨_, _, y8, rfl, fset_at hΦ2, XC_fl0 hX8 ho hΦ2, SQ_fl0 hS8 ho hΦ2, Or.inl ⟨rq_my hn1, trivial, rfl, _, hR8, updL_at⟩⟩, In.out hI1 ho hΦ2, ⟨_, fset_at hΦ2⟩, fun b9 h9 h8 => (fset_fr hΦ2 h8).trans (hF1 b9 (fun j9 q9 hj => h9 j9 hj q9))⟩
  · obtain rfl : E9 = xIA := List.mem_singleton.mp hE9_
    refine ⟨21, ⟨[], ⟨0, 18, 21, 13⟩, [], htab9.trans rfl, (fun z9 hz9 => absurd hz9 List.not_mem_nil), by decide, by decide, by decide +kernel, by decide, rfl⟩, fun q9 sz9 Φ9 hP9 => ?_⟩
    refine z_astore (lv' := [(8, .ref q9), (0, .ref x), (1, .int a), (2, .int b), (3, .int d), (4, .int f), (5, .int g), (6, .int h), (7, .ref o)]) B dL_observeMany_21 (Nat.le_of_ble_eq_true rfl) rfl ?_
    refine z_iconst (v := 1) B dL_observeMany_23 rfl ?_
    exact z_ret_i B dL_observeMany_24 ⟨⟨_, fo, _, rfl, (Fr.at0 hP9.2.2).trans hc, XC.eq hX0 (fun j _ _ => Fr.at0 hP9.2.2), SQ.eq hSQ (fun j _ _ => Fr.at0 hP9.2.2), Or.inr (Or.inl ⟨rq_mn hP9.1, rfl, rfl⟩)⟩, In.mono hP9.2.1 (by omega), ⟨_, (Fr.at0 hP9.2.2).trans hc⟩, fun b9 _ _ => Fr.at0 hP9.2.2⟩

set_option maxHeartbeats 4000000 in
set_option maxRecDepth 100000 in
theorem w_advance (G : EnvG) (l : Launch) (hl9 : l.stackTraces = false) (Φ : Hm) (sz x ca : Nat) (tm r w : Nat) (aq e : Int32) (ob sm un : Int64) (n : Nat) (Fs : Nat → Fl) (nT : Nat) (Ft : Nat → Fl) (sn : SN) (qn : Nat) (qL : Nat → Nat) (qd : Int32) (t s : Nat) (c : Cf) (a : Int32) (o : Nat) (fo : Nat → Int64) (hx : G.2.2.2 ≤ x) (hno : G.2.2.2 ≤ o) (ho : ∀ j, j < 149 → o ≠ x + j) (hI : In G x ca Φ) (hc : Φ o = some (al_ G 1 fo)) (hXC : XC G x (tm, r, w, aq, e, ob, sm, un, (n, Fs), (nT, Ft)) Φ) (hSQ : SQ G x c sn (qn, qL, qd) Φ) (hcA : CfA G x t s c Φ) (hg : CfG c) (had9 : aq = 0 ∨ aq = 1) : Ct G l yL_advance wsL_advance ({ frames := 7, cells := 1, slots := 6, locals := 169 }) 1 6 [.ref x, .int a, .ref o] Φ sz (fun v Φ1 sz1 => (∃ (k9 : Int32) (fo9 : Nat → Int64) (y8 : YZ), v = some (.int k9) ∧ Φ1 o = some (al_ G 1 fo9) ∧ XC G x y8.1 Φ1 ∧ SQ G x c y8.2.1 y8.2.2 Φ1 ∧ AnsZ (Av1 a) (Av2 tm a) (AvY c a ((tm, r, w, aq, e, ob, sm, un, (n, Fs), (nT, Ft)), sn, qn, qL, qd)) ((tm, r, w, aq, e, ob, sm, un, (n, Fs), (nT, Ft)), sn, qn, qL, qd) y8 k9 (fo9 0)) ∧ WpL G x (ca) (fun j9 => 46 ≤ j9 ∧ j9 < 95) o Φ Φ1) := by
  refine Ct.ofH (cc := cL_advance) (maxL := 4) (ret := (some .int)) (by decide) rfl (Nat.le_of_ble_eq_true rfl) ?_
  intro p9 e9 s9 m9 w9 t9 k9 B htab9
  show Z p9 l e9 _ s9 m9 _ w9 t9 k9 _ G 4 0 [(0, .ref x), (1, .int a), (2, .ref o)] [] Φ sz 0 0
  have hX0 := hXC
  obtain ⟨xp, xb, pp, pt, he9, hE0, h810, h950, hTC, hTT, hb9⟩ := hXC
  have hSQ0 := hSQ
  obtain ⟨hSd, qp, hQ0⟩ := hSQ0
  have hQ : QbR G x qn qL qd qp Φ := hQ0
  have hqn9 : qn ≤ 12 := hQ.le
  replace he9 : xp - xb = e := he9
  have hE9 : Φ (x + 80) = some (e80 x (nI tm) (nI r) (nI w) aq xp xb ob sm un) := hE0
  have h819 : Φ (x + 81) = some (o_ 6 [.ref (x + 82), .int (nI n)]) := h810
  have h959 : Φ (x + 95) = some (o_ 6 [.ref (x + 96), .int (nI nT)]) := h950
  have hb8 : tm ≤ 1000000 ∧ 1 ≤ r ∧ r ≤ 1024 ∧ w < 2147483648 := hb9
  have hn9 : n ≤ 12 := TbR.le hTC
  have hnT9 : nT ≤ 24 := TbR.le hTT
  refine z_aload_n B dL_advance_0 rfl 2 rfl ?_
  refine z_iconst (v := 0) B dL_advance_1 rfl ?_
  refine z_aload_n B dL_advance_2 rfl 0 rfl ?_
  refine z_iload_n B dL_advance_3 rfl 1 rfl ?_
  have h0 : Φ x = some (o_ 13 [.ref (x + 1), .ref (x + 3), .ref (x + 24), .ref (x + 46), .ref (x + 74), .ref (x + 80), .ref (x + 132), .ref (x + 121)]) := in0 (k := 0) hI rfl
  by_cases hc1 : Av1 a
  · refine zb_callC (As := [.int a]) (rest := [.int 0, .ref o]) B (s_X11_advanceXa G l hl9 Φ sz x ca tm r w aq xp xb ob sm (un, 0, fun _ => 0) n Fs pp t s c sn qn qL qd qp a hx hI hE9 h819 hTC hcA (SdP.eq0 rfl hSd) hQ hn9 hb8.1 ⟨hb8.2.1, hb8.2.2.1⟩ hc1 hg had9 rfl) (cwV 1 B.1.2.2.2.2 gL_advance_X11_advance rfl rfl rfl (by decide +kernel) ⟨Nat.le_of_ble_eq_true rfl, Nat.le_of_ble_eq_true rfl⟩) h0 rfl rfl rfl rfl (Nat.le_of_ble_eq_true rfl) dL_advance_4 ⟨Nat.le_of_ble_eq_true rfl, Nat.le_of_ble_eq_true rfl⟩ (fun v1 Φ1 sz1 st1 hp1 hs1 => ?_) (fun E9 hE9_ => ?_)
    · obtain ⟨⟨n8, F8, u8, r8, e8, d8, b8, p8, s8, qn8, qL8, qd8, rfl, hE1, h811, hTC1, hSd1, hQ1, hf1, hf2, hf3, hf4, hv2, hu8⟩, hz1, hI1, hF1⟩ := hp1
      have hv3 : tm + a.toNatClampNeg ≤ 1000000 := by
        have h1 := hc1
        have h2 := hv2
        have h3 : a.toNatClampNeg = a.toInt.toNat := rfl
        unfold Av1 at h1
        unfold Av2 at h2
        omega
      have hQ9 : ∀ j, 95 ≤ j → j < 121 → Φ1 (x + j) = Φ (x + j) := fun j q1 q2 => hF1 (x + j) (fun j9 q9 hj => by replace hj : 46 ≤ j9 ∧ j9 < 95 := hj; omega)
      obtain ⟨y8, hX8, hS8, hR8⟩ := XY_av (T := (nT, Ft)) he9 hv3 hf4 hb8.2.2.2 hE1 h811 ((hQ9 95 (by decide) (by decide)).trans h959) hTC1 (TbR.mv hTT (fun j q1 q2 _ => hQ9 j (by omega) (by omega))) hSd1 hQ1 hf1 hf2 hu8
      subst sz1
      replace hs1 : st1 = [.int (nI d8), .int 0, .ref o] := hs1
      subst st1
      have hc1_ : Φ1 o = some (al_ G 1 fo) := (Fr.at hF1 (fun j hj => by replace hj : 46 ≤ j ∧ j < 95 := hj; omega) ho).trans hc
      refine z_i2l (v := (nI d8)) B dL_advance_7 rfl ?_
      refine z_last B hc1_ hno (vin rfl) dL_advance_8 (fun Φ2 hΦ2 => ?_)
      refine z_goto (tgt := 18) B dL_advance_9 rfl ?_
      refine z_iconst (v := 0) B dL_advance_18 rfl ?_
      exact z_ret_i B dL_advance_19 ⟨⟨_, _, y8, rfl, fset_at hΦ2, XC_fl0 hX8 ho hΦ2, SQ_fl0 hS8 ho hΦ2, Or.inl ⟨hc1, hv2, rfl, _, hR8, updL_at⟩⟩, In.out hI1 ho hΦ2, ⟨_, fset_at hΦ2⟩, fun b9 h9 h8 => (fset_fr hΦ2 h8).trans (hF1 b9 (fun j9 q9 hj => h9 j9 hj q9))⟩
    · obtain rfl : E9 = xIS := List.mem_singleton.mp hE9_
      refine ⟨15, ⟨[⟨0, 9, 12, 13⟩], ⟨0, 9, 15, 23⟩, [], htab9.trans rfl, (fun z9 hz9 => by obtain rfl := List.mem_singleton.mp hz9; exact Or.inr ⟨by decide, xIA, by decide +kernel, by decide⟩), by decide, by decide, by decide +kernel, by decide, rfl⟩, fun q9 sz9 Φ9 hP9 => ?_⟩
      refine z_astore_n (lv' := [(3, .ref q9), (0, .ref x), (1, .int a), (2, .ref o)]) B dL_advance_15 rfl (Nat.le_of_ble_eq_true rfl) rfl ?_
      refine z_iconst (v := 2) B dL_advance_16 rfl ?_
      exact z_ret_i B dL_advance_17 ⟨⟨_, fo, _, rfl, (Fr.at0 hP9.2.2).trans hc, XC.eq hX0 (fun j _ _ => Fr.at0 hP9.2.2), SQ.eq hSQ (fun j _ _ => Fr.at0 hP9.2.2), Or.inr (Or.inr ⟨hc1, hP9.1, rfl, rfl⟩)⟩, In.mono hP9.2.1 (by omega), ⟨_, (Fr.at0 hP9.2.2).trans hc⟩, fun b9 _ _ => Fr.at0 hP9.2.2⟩
  · refine zb_callC (As := [.int a]) (rest := [.int 0, .ref o]) B (s_X11_advanceXb G l hl9 Φ sz x ca a hx hI hc1) (cwV 1 B.1.2.2.2.2 gL_advance_X11_advance rfl rfl rfl (by decide +kernel) ⟨Nat.le_of_ble_eq_true rfl, Nat.le_of_ble_eq_true rfl⟩) h0 rfl rfl rfl rfl (Nat.le_of_ble_eq_true rfl) dL_advance_4 ⟨Nat.le_of_ble_eq_true rfl, Nat.le_of_ble_eq_true rfl⟩ (fun v1 Φ1 sz1 st1 hp1 hs1 => ?_) (fun E9 hE9_ => ?_)
    · exact hp1.1.elim
    · obtain rfl : E9 = xIA := List.mem_singleton.mp hE9_
      refine ⟨12, ⟨[], ⟨0, 9, 12, 13⟩, [⟨0, 9, 15, 23⟩], htab9.trans rfl, (fun z9 hz9 => absurd hz9 List.not_mem_nil), by decide, by decide, by decide +kernel, by decide, rfl⟩, fun q9 sz9 Φ9 hP9 => ?_⟩
      refine z_astore_n (lv' := [(3, .ref q9), (0, .ref x), (1, .int a), (2, .ref o)]) B dL_advance_12 rfl (Nat.le_of_ble_eq_true rfl) rfl ?_
      refine z_iconst (v := 1) B dL_advance_13 rfl ?_
      exact z_ret_i B dL_advance_14 ⟨⟨_, fo, _, rfl, (Fr.at0 hP9.2).trans hc, XC.eq hX0 (fun j _ _ => Fr.at0 hP9.2), SQ.eq hSQ (fun j _ _ => Fr.at0 hP9.2), Or.inr (Or.inl ⟨hc1, rfl, rfl⟩)⟩, In.mono hP9.1 (by omega), ⟨_, (Fr.at0 hP9.2).trans hc⟩, fun b9 _ _ => Fr.at0 hP9.2⟩

set_option maxHeartbeats 4000000 in
set_option maxRecDepth 100000 in
theorem w_cached (G : EnvG) (l : Launch) (hl9 : l.stackTraces = false) (Φ : Hm) (sz x ca : Nat) (tm r w : Nat) (aq e : Int32) (ob sm un : Int64) (n : Nat) (Fs : Nat → Fl) (nT : Nat) (Ft : Nat → Fl) (t s : Nat) (c : Cf) (a : Int32) (b : Int32) (o : Nat) (fo : Nat → Int64) (hx : G.2.2.2 ≤ x) (hno : G.2.2.2 ≤ o) (ho : ∀ j, j < 149 → o ≠ x + j) (hI : In G x ca Φ) (hc : Φ o = some (al_ G 1 fo)) (hXC : XC G x (tm, r, w, aq, e, ob, sm, un, (n, Fs), (nT, Ft)) Φ) (hcA : CfA G x t s c Φ) (hg : CfG c) (had9 : aq = 0 ∨ aq = 1) : Ct G l yL_cached wsL_cached ({ frames := 7, cells := 1, slots := 6, locals := 103 }) 1 6 [.ref x, .int a, .int b, .ref o] Φ sz (fun v Φ1 sz1 => (∃ (k9 : Int32) (fo9 : Nat → Int64), v = some (.int k9) ∧ Φ1 o = some (al_ G 1 fo9) ∧ AnsR (Ca1 n a) (Ca2 b) (vlL (Fs a.toNatClampNeg) b.toNatClampNeg) k9 (fo9 0)) ∧ WpL G x (ca) (fun j9 => False) o Φ Φ1) := by
  refine Ct.ofH (cc := cL_cached) (maxL := 5) (ret := (some .int)) (by decide) rfl (Nat.le_of_ble_eq_true rfl) ?_
  intro p9 e9 s9 m9 w9 t9 k9 B htab9
  show Z p9 l e9 _ s9 m9 _ w9 t9 k9 _ G 5 0 [(0, .ref x), (1, .int a), (2, .int b), (3, .ref o)] [] Φ sz 0 0
  have hX0 := hXC
  obtain ⟨xp, xb, pp, pt, he9, hE0, h810, h950, hTC, hTT, hb9⟩ := hXC
  replace he9 : xp - xb = e := he9
  have hE9 : Φ (x + 80) = some (o_ 4 [.ref (x + 3), .ref (x + 74), .ref (x + 81), .ref (x + 95), .int (nI tm), .int (nI r), .int (nI w), .int aq, .int xp, .int xb, .long ob, .long sm, .long (un.1)]) := hE0
  have h819 : Φ (x + 81) = some (o_ 6 [.ref (x + 82), .int (nI n)]) := h810
  have h959 : Φ (x + 95) = some (o_ 6 [.ref (x + 96), .int (nI nT)]) := h950
  have hb8 : tm ≤ 1000000 ∧ 1 ≤ r ∧ r ≤ 1024 ∧ w < 2147483648 := hb9
  have hn9 : n ≤ 12 := TbR.le hTC
  have hnT9 : nT ≤ 24 := TbR.le hTT
  refine z_aload_n B dL_cached_0 rfl 3 rfl ?_
  refine z_iconst (v := 0) B dL_cached_1 rfl ?_
  refine z_aload_n B dL_cached_2 rfl 0 rfl ?_
  refine z_iload_n B dL_cached_3 rfl 1 rfl ?_
  refine z_iload_n B dL_cached_4 rfl 2 rfl ?_
  have h0 : Φ x = some (o_ 13 [.ref (x + 1), .ref (x + 3), .ref (x + 24), .ref (x + 46), .ref (x + 74), .ref (x + 80), .ref (x + 132), .ref (x + 121)]) := in0 (k := 0) hI rfl
  by_cases hc1 : Ca1 n a
  · refine zb_callC (As := [.int a, .int b]) (rest := [.int 0, .ref o]) B (s_X11_cachedXa G l hl9 Φ sz x ca n Fs pp a b hx hI h819 hTC hn9 hc1) (cwV 2 B.1.2.2.2.2 gL_cached_X11_cached rfl rfl rfl (by decide +kernel) ⟨Nat.le_of_ble_eq_true rfl, Nat.le_of_ble_eq_true rfl⟩) h0 rfl rfl rfl rfl (Nat.le_of_ble_eq_true rfl) dL_cached_5 ⟨Nat.le_of_ble_eq_true rfl, Nat.le_of_ble_eq_true rfl⟩ (fun v1 Φ1 sz1 st1 hp1 hs1 => ?_) (fun E9 hE9_ => ?_)
    · obtain ⟨⟨rfl, hv2⟩, hz1, hI1, hF1⟩ := hp1
      subst sz1
      replace hs1 : st1 = [.long (vlL (Fs a.toNatClampNeg) b.toNatClampNeg), .int 0, .ref o] := hs1
      subst st1
      have hc1_ : Φ1 o = some (al_ G 1 fo) := (Fr.at hF1 (fun j hj => (show False from hj).elim) ho).trans hc
      refine z_last B hc1_ hno (vin rfl) dL_cached_8 (fun Φ2 hΦ2 => ?_)
      refine z_goto (tgt := 20) B dL_cached_9 rfl ?_
      refine z_iconst (v := 0) B dL_cached_20 rfl ?_
      exact z_ret_i B dL_cached_21 ⟨⟨_, _, rfl, fset_at hΦ2, Or.inl ⟨hc1, hv2, rfl, updL_at⟩⟩, In.out hI1 ho hΦ2, ⟨_, fset_at hΦ2⟩, fun b9 h9 h8 => (fset_fr hΦ2 h8).trans (hF1 b9 (fun j9 q9 hj => h9 j9 hj q9))⟩
    · obtain rfl : E9 = xIA := List.mem_singleton.mp hE9_
      refine ⟨16, ⟨[⟨0, 9, 12, 29⟩], ⟨0, 9, 16, 13⟩, [], htab9.trans rfl, (fun z9 hz9 => by obtain rfl := List.mem_singleton.mp hz9; exact Or.inr ⟨by decide, xIO, by decide +kernel, by decide⟩), by decide, by decide, by decide +kernel, by decide, rfl⟩, fun q9 sz9 Φ9 hP9 => ?_⟩
      refine z_astore (lv' := [(4, .ref q9), (0, .ref x), (1, .int a), (2, .int b), (3, .ref o)]) B dL_cached_16 (Nat.le_of_ble_eq_true rfl) rfl ?_
      refine z_iconst (v := 2) B dL_cached_18 rfl ?_
      exact z_ret_i B dL_cached_19 ⟨⟨_, fo, rfl, (Fr.at0 hP9.2.2).trans hc, Or.inr (Or.inr ⟨hc1, hP9.1, rfl⟩)⟩, In.mono hP9.2.1 (by omega), ⟨_, (Fr.at0 hP9.2.2).trans hc⟩, fun b9 _ _ => Fr.at0 hP9.2.2⟩
  · refine zb_callC (As := [.int a, .int b]) (rest := [.int 0, .ref o]) B (s_X11_cachedXb G l hl9 Φ sz x ca n a b hx hI h819 hn9 hc1) (cwV 2 B.1.2.2.2.2 gL_cached_X11_cached rfl rfl rfl (by decide +kernel) ⟨Nat.le_of_ble_eq_true rfl, Nat.le_of_ble_eq_true rfl⟩) h0 rfl rfl rfl rfl (Nat.le_of_ble_eq_true rfl) dL_cached_5 ⟨Nat.le_of_ble_eq_true rfl, Nat.le_of_ble_eq_true rfl⟩ (fun v1 Φ1 sz1 st1 hp1 hs1 => ?_) (fun E9 hE9_ => ?_)
    · exact hp1.1.elim
    · obtain rfl : E9 = xIO := List.mem_singleton.mp hE9_
      refine ⟨12, ⟨[], ⟨0, 9, 12, 29⟩, [⟨0, 9, 16, 13⟩], htab9.trans rfl, (fun z9 hz9 => absurd hz9 List.not_mem_nil), by decide, by decide, by decide +kernel, by decide, rfl⟩, fun q9 sz9 Φ9 hP9 => ?_⟩
      refine z_astore (lv' := [(4, .ref q9), (0, .ref x), (1, .int a), (2, .int b), (3, .ref o)]) B dL_cached_12 (Nat.le_of_ble_eq_true rfl) rfl ?_
      refine z_iconst (v := 1) B dL_cached_14 rfl ?_
      exact z_ret_i B dL_cached_15 ⟨⟨_, fo, rfl, (Fr.at0 hP9.2).trans hc, Or.inr (Or.inl ⟨hc1, rfl⟩)⟩, In.mono hP9.1 (by omega), ⟨_, (Fr.at0 hP9.2).trans hc⟩, fun b9 _ _ => Fr.at0 hP9.2⟩

set_option maxHeartbeats 4000000 in
set_option maxRecDepth 100000 in
theorem w_templateFields (G : EnvG) (l : Launch) (hl9 : l.stackTraces = false) (Φ : Hm) (sz x ca : Nat) (t s : Nat) (c : Cf) (a : Int32) (o : Nat) (fo : Nat → Int64) (hx : G.2.2.2 ≤ x) (hno : G.2.2.2 ≤ o) (ho : ∀ j, j < 149 → o ≠ x + j) (hI : In G x ca Φ) (hc : Φ o = some (al_ G 1 fo)) (hcA : CfA G x t s c Φ)  : Ct G l yL_templateFields wsL_templateFields ({ frames := 8, cells := 1, slots := 6, locals := 123 }) 1 6 [.ref x, .int a, .ref o] Φ sz (fun v Φ1 sz1 => (∃ (k9 : Int32) (fo9 : Nat → Int64), v = some (.int k9) ∧ Φ1 o = some (al_ G 1 fo9) ∧ AnsR (InT c a) True ((tfF c a.toNatClampNeg).toInt64) k9 (fo9 0)) ∧ WpL G x (ca) (fun j9 => False) o Φ Φ1) := by
  refine Ct.ofH (cc := cL_templateFields) (maxL := 4) (ret := (some .int)) (by decide) rfl (Nat.le_of_ble_eq_true rfl) ?_
  intro p9 e9 s9 m9 w9 t9 k9 B htab9
  show Z p9 l e9 _ s9 m9 _ w9 t9 k9 _ G 4 0 [(0, .ref x), (1, .int a), (2, .ref o)] [] Φ sz 0 0
  refine z_aload_n B dL_templateFields_0 rfl 2 rfl ?_
  refine z_iconst (v := 0) B dL_templateFields_1 rfl ?_
  refine z_aload_n B dL_templateFields_2 rfl 0 rfl ?_
  refine z_iload_n B dL_templateFields_3 rfl 1 rfl ?_
  have h0 : Φ x = some (o_ 13 [.ref (x + 1), .ref (x + 3), .ref (x + 24), .ref (x + 46), .ref (x + 74), .ref (x + 80), .ref (x + 132), .ref (x + 121)]) := in0 (k := 0) hI rfl
  refine zb_callC (As := [.int a]) (rest := [.int 0, .ref o]) B (s_X11_templateFieldsC G l hl9 Φ sz x ca t s c a hx hI hcA ) (cwV 1 B.1.2.2.2.2 gL_templateFields_X11_templateFields rfl rfl rfl (by decide +kernel) ⟨Nat.le_of_ble_eq_true rfl, Nat.le_of_ble_eq_true rfl⟩) h0 rfl rfl rfl rfl (Nat.le_of_ble_eq_true rfl) dL_templateFields_4 ⟨Nat.le_of_ble_eq_true rfl, Nat.le_of_ble_eq_true rfl⟩ (fun v1 Φ1 sz1 st1 hp1 hs1 => ?_) (fun E9 hE9 => ?_)
  · obtain ⟨⟨u1, hu1, rfl, rfl⟩, hz1, hI1, hF1⟩ := hp1
    subst sz1
    replace hs1 : st1 = [.int (tfF c u1), .int 0, .ref o] := hs1
    subst st1
    have hc1 : Φ1 o = some (al_ G 1 fo) := (Fr.at hF1 (fun j hj => (show False from hj).elim) ho).trans hc
    refine z_i2l (v := ((tfF c u1)).toInt64) B dL_templateFields_7 rfl ?_
    refine z_last B hc1 hno (vin rfl) dL_templateFields_8 (fun Φ2 hΦ2 => ?_)
    refine z_goto (tgt := 15) B dL_templateFields_9 rfl ?_
    refine z_iconst (v := 0) B dL_templateFields_15 rfl ?_
    exact z_ret_i B dL_templateFields_16 ⟨⟨_, _, rfl, fset_at hΦ2, Or.inl ⟨(hcA.inT.mpr ⟨u1, hu1, rfl⟩), trivial, rfl, updL_at.trans (congrArg (fun w9 : Nat => (tfF c w9).toInt64) (nI_clamp (n := u1) (by have := hcA.1.2.1; omega)).symm)⟩⟩, In.out hI1 ho hΦ2, ⟨_, fset_at hΦ2⟩, fun b9 h9 h8 => (fset_fr hΦ2 h8).trans (hF1 b9 (fun j9 q9 hj => h9 j9 hj q9))⟩
  · obtain rfl : E9 = xIO := List.mem_singleton.mp hE9
    refine ⟨12, ⟨[], ⟨0, 9, 12, 29⟩, [], htab9.trans rfl, (fun z9 hz9 => absurd hz9 List.not_mem_nil), by decide, by decide, by decide +kernel, by decide, rfl⟩, fun q9 sz9 Φ9 hP9 => ?_⟩
    refine z_astore_n (lv' := [(3, .ref q9), (0, .ref x), (1, .int a), (2, .ref o)]) B dL_templateFields_12 rfl (Nat.le_of_ble_eq_true rfl) rfl ?_
    refine z_iconst (v := 1) B dL_templateFields_13 rfl ?_
    exact z_ret_i B dL_templateFields_14 ⟨⟨_, fo, rfl, (Fr.at0 hP9.2.2).trans hc, Or.inr (Or.inl ⟨hP9.1, rfl⟩)⟩, In.mono hP9.2.1 (by omega), ⟨_, (Fr.at0 hP9.2.2).trans hc⟩, fun b9 _ _ => Fr.at0 hP9.2.2⟩

set_option maxHeartbeats 4000000 in
set_option maxRecDepth 100000 in
theorem w_effectiveFields (G : EnvG) (l : Launch) (hl9 : l.stackTraces = false) (Φ : Hm) (sz x ca : Nat) (t s : Nat) (c : Cf) (a : Int32) (o : Nat) (fo : Nat → Int64) (hx : G.2.2.2 ≤ x) (hno : G.2.2.2 ≤ o) (ho : ∀ j, j < 149 → o ≠ x + j) (hI : In G x ca Φ) (hc : Φ o = some (al_ G 1 fo)) (hcA : CfA G x t s c Φ)  : Ct G l yL_effectiveFields wsL_effectiveFields ({ frames := 8, cells := 1, slots := 6, locals := 123 }) 1 6 [.ref x, .int a, .ref o] Φ sz (fun v Φ1 sz1 => (∃ (k9 : Int32) (fo9 : Nat → Int64), v = some (.int k9) ∧ Φ1 o = some (al_ G 1 fo9) ∧ AnsR (InT c a) True ((efF c a.toNatClampNeg).toInt64) k9 (fo9 0)) ∧ WpL G x (ca) (fun j9 => False) o Φ Φ1) := by
  refine Ct.ofH (cc := cL_effectiveFields) (maxL := 4) (ret := (some .int)) (by decide) rfl (Nat.le_of_ble_eq_true rfl) ?_
  intro p9 e9 s9 m9 w9 t9 k9 B htab9
  show Z p9 l e9 _ s9 m9 _ w9 t9 k9 _ G 4 0 [(0, .ref x), (1, .int a), (2, .ref o)] [] Φ sz 0 0
  refine z_aload_n B dL_effectiveFields_0 rfl 2 rfl ?_
  refine z_iconst (v := 0) B dL_effectiveFields_1 rfl ?_
  refine z_aload_n B dL_effectiveFields_2 rfl 0 rfl ?_
  refine z_iload_n B dL_effectiveFields_3 rfl 1 rfl ?_
  have h0 : Φ x = some (o_ 13 [.ref (x + 1), .ref (x + 3), .ref (x + 24), .ref (x + 46), .ref (x + 74), .ref (x + 80), .ref (x + 132), .ref (x + 121)]) := in0 (k := 0) hI rfl
  refine zb_callC (As := [.int a]) (rest := [.int 0, .ref o]) B (s_X11_effectiveFieldsC G l hl9 Φ sz x ca t s c a hx hI hcA ) (cwV 1 B.1.2.2.2.2 gL_effectiveFields_X11_effectiveFields rfl rfl rfl (by decide +kernel) ⟨Nat.le_of_ble_eq_true rfl, Nat.le_of_ble_eq_true rfl⟩) h0 rfl rfl rfl rfl (Nat.le_of_ble_eq_true rfl) dL_effectiveFields_4 ⟨Nat.le_of_ble_eq_true rfl, Nat.le_of_ble_eq_true rfl⟩ (fun v1 Φ1 sz1 st1 hp1 hs1 => ?_) (fun E9 hE9 => ?_)
  · obtain ⟨⟨u1, hu1, rfl, rfl⟩, hz1, hI1, hF1⟩ := hp1
    subst sz1
    replace hs1 : st1 = [.int (efF c u1), .int 0, .ref o] := hs1
    subst st1
    have hc1 : Φ1 o = some (al_ G 1 fo) := (Fr.at hF1 (fun j hj => (show False from hj).elim) ho).trans hc
    refine z_i2l (v := ((efF c u1)).toInt64) B dL_effectiveFields_7 rfl ?_
    refine z_last B hc1 hno (vin rfl) dL_effectiveFields_8 (fun Φ2 hΦ2 => ?_)
    refine z_goto (tgt := 15) B dL_effectiveFields_9 rfl ?_
    refine z_iconst (v := 0) B dL_effectiveFields_15 rfl ?_
    exact z_ret_i B dL_effectiveFields_16 ⟨⟨_, _, rfl, fset_at hΦ2, Or.inl ⟨(hcA.inT.mpr ⟨u1, hu1, rfl⟩), trivial, rfl, updL_at.trans (congrArg (fun w9 : Nat => (efF c w9).toInt64) (nI_clamp (n := u1) (by have := hcA.1.2.1; omega)).symm)⟩⟩, In.out hI1 ho hΦ2, ⟨_, fset_at hΦ2⟩, fun b9 h9 h8 => (fset_fr hΦ2 h8).trans (hF1 b9 (fun j9 q9 hj => h9 j9 hj q9))⟩
  · obtain rfl : E9 = xIO := List.mem_singleton.mp hE9
    refine ⟨12, ⟨[], ⟨0, 9, 12, 29⟩, [], htab9.trans rfl, (fun z9 hz9 => absurd hz9 List.not_mem_nil), by decide, by decide, by decide +kernel, by decide, rfl⟩, fun q9 sz9 Φ9 hP9 => ?_⟩
    refine z_astore_n (lv' := [(3, .ref q9), (0, .ref x), (1, .int a), (2, .ref o)]) B dL_effectiveFields_12 rfl (Nat.le_of_ble_eq_true rfl) rfl ?_
    refine z_iconst (v := 1) B dL_effectiveFields_13 rfl ?_
    exact z_ret_i B dL_effectiveFields_14 ⟨⟨_, fo, rfl, (Fr.at0 hP9.2.2).trans hc, Or.inr (Or.inl ⟨hP9.1, rfl⟩)⟩, In.mono hP9.2.1 (by omega), ⟨_, (Fr.at0 hP9.2.2).trans hc⟩, fun b9 _ _ => Fr.at0 hP9.2.2⟩

set_option maxHeartbeats 4000000 in
set_option maxRecDepth 100000 in
theorem w_fieldAt (G : EnvG) (l : Launch) (hl9 : l.stackTraces = false) (Φ : Hm) (sz x ca : Nat) (t s : Nat) (c : Cf) (a : Int32) (b : Int32) (o : Nat) (fo : Nat → Int64) (hx : G.2.2.2 ≤ x) (hno : G.2.2.2 ≤ o) (ho : ∀ j, j < 149 → o ≠ x + j) (hI : In G x ca Φ) (hc : Φ o = some (al_ G 1 fo)) (hcA : CfA G x t s c Φ)  : Ct G l yL_fieldAt wsL_fieldAt ({ frames := 8, cells := 1, slots := 6, locals := 124 }) 1 6 [.ref x, .int a, .int b, .ref o] Φ sz (fun v Φ1 sz1 => (∃ (k9 : Int32) (fo9 : Nat → Int64), v = some (.int k9) ∧ Φ1 o = some (al_ G 1 fo9) ∧ AnsR (InT c a) True ((faF c a.toNatClampNeg b).toInt64) k9 (fo9 0)) ∧ WpL G x (ca) (fun j9 => False) o Φ Φ1) := by
  refine Ct.ofH (cc := cL_fieldAt) (maxL := 5) (ret := (some .int)) (by decide) rfl (Nat.le_of_ble_eq_true rfl) ?_
  intro p9 e9 s9 m9 w9 t9 k9 B htab9
  show Z p9 l e9 _ s9 m9 _ w9 t9 k9 _ G 5 0 [(0, .ref x), (1, .int a), (2, .int b), (3, .ref o)] [] Φ sz 0 0
  refine z_aload_n B dL_fieldAt_0 rfl 3 rfl ?_
  refine z_iconst (v := 0) B dL_fieldAt_1 rfl ?_
  refine z_aload_n B dL_fieldAt_2 rfl 0 rfl ?_
  refine z_iload_n B dL_fieldAt_3 rfl 1 rfl ?_
  refine z_iload_n B dL_fieldAt_4 rfl 2 rfl ?_
  have h0 : Φ x = some (o_ 13 [.ref (x + 1), .ref (x + 3), .ref (x + 24), .ref (x + 46), .ref (x + 74), .ref (x + 80), .ref (x + 132), .ref (x + 121)]) := in0 (k := 0) hI rfl
  refine zb_callC (As := [.int a, .int b]) (rest := [.int 0, .ref o]) B (s_X11_fieldAtC G l hl9 Φ sz x ca t s c a b hx hI hcA ) (cwV 2 B.1.2.2.2.2 gL_fieldAt_X11_fieldAt rfl rfl rfl (by decide +kernel) ⟨Nat.le_of_ble_eq_true rfl, Nat.le_of_ble_eq_true rfl⟩) h0 rfl rfl rfl rfl (Nat.le_of_ble_eq_true rfl) dL_fieldAt_5 ⟨Nat.le_of_ble_eq_true rfl, Nat.le_of_ble_eq_true rfl⟩ (fun v1 Φ1 sz1 st1 hp1 hs1 => ?_) (fun E9 hE9 => ?_)
  · obtain ⟨⟨u1, hu1, rfl, rfl⟩, hz1, hI1, hF1⟩ := hp1
    subst sz1
    replace hs1 : st1 = [.int (faF c u1 b), .int 0, .ref o] := hs1
    subst st1
    have hc1 : Φ1 o = some (al_ G 1 fo) := (Fr.at hF1 (fun j hj => (show False from hj).elim) ho).trans hc
    refine z_i2l (v := ((faF c u1 b)).toInt64) B dL_fieldAt_8 rfl ?_
    refine z_last B hc1 hno (vin rfl) dL_fieldAt_9 (fun Φ2 hΦ2 => ?_)
    refine z_goto (tgt := 17) B dL_fieldAt_10 rfl ?_
    refine z_iconst (v := 0) B dL_fieldAt_17 rfl ?_
    exact z_ret_i B dL_fieldAt_18 ⟨⟨_, _, rfl, fset_at hΦ2, Or.inl ⟨(hcA.inT.mpr ⟨u1, hu1, rfl⟩), trivial, rfl, updL_at.trans (congrArg (fun w9 : Nat => (faF c w9 b).toInt64) (nI_clamp (n := u1) (by have := hcA.1.2.1; omega)).symm)⟩⟩, In.out hI1 ho hΦ2, ⟨_, fset_at hΦ2⟩, fun b9 h9 h8 => (fset_fr hΦ2 h8).trans (hF1 b9 (fun j9 q9 hj => h9 j9 hj q9))⟩
  · obtain rfl : E9 = xIO := List.mem_singleton.mp hE9
    refine ⟨13, ⟨[], ⟨0, 10, 13, 29⟩, [], htab9.trans rfl, (fun z9 hz9 => absurd hz9 List.not_mem_nil), by decide, by decide, by decide +kernel, by decide, rfl⟩, fun q9 sz9 Φ9 hP9 => ?_⟩
    refine z_astore (lv' := [(4, .ref q9), (0, .ref x), (1, .int a), (2, .int b), (3, .ref o)]) B dL_fieldAt_13 (Nat.le_of_ble_eq_true rfl) rfl ?_
    refine z_iconst (v := 1) B dL_fieldAt_15 rfl ?_
    exact z_ret_i B dL_fieldAt_16 ⟨⟨_, fo, rfl, (Fr.at0 hP9.2.2).trans hc, Or.inr (Or.inl ⟨hP9.1, rfl⟩)⟩, In.mono hP9.2.1 (by omega), ⟨_, (Fr.at0 hP9.2.2).trans hc⟩, fun b9 _ _ => Fr.at0 hP9.2.2⟩

set_option maxHeartbeats 4000000 in
set_option maxRecDepth 100000 in
theorem w_recordLength (G : EnvG) (l : Launch) (hl9 : l.stackTraces = false) (Φ : Hm) (sz x ca : Nat) (t s : Nat) (c : Cf) (a : Int32) (o : Nat) (fo : Nat → Int64) (hx : G.2.2.2 ≤ x) (hno : G.2.2.2 ≤ o) (ho : ∀ j, j < 149 → o ≠ x + j) (hI : In G x ca Φ) (hc : Φ o = some (al_ G 1 fo)) (hcA : CfA G x t s c Φ)  : Ct G l yL_recordLength wsL_recordLength ({ frames := 8, cells := 1, slots := 6, locals := 123 }) 1 6 [.ref x, .int a, .ref o] Φ sz (fun v Φ1 sz1 => (∃ (k9 : Int32) (fo9 : Nat → Int64), v = some (.int k9) ∧ Φ1 o = some (al_ G 1 fo9) ∧ AnsR (InT c a) True ((rlF c a.toNatClampNeg).toInt64) k9 (fo9 0)) ∧ WpL G x (ca) (fun j9 => False) o Φ Φ1) := by
  refine Ct.ofH (cc := cL_recordLength) (maxL := 4) (ret := (some .int)) (by decide) rfl (Nat.le_of_ble_eq_true rfl) ?_
  intro p9 e9 s9 m9 w9 t9 k9 B htab9
  show Z p9 l e9 _ s9 m9 _ w9 t9 k9 _ G 4 0 [(0, .ref x), (1, .int a), (2, .ref o)] [] Φ sz 0 0
  refine z_aload_n B dL_recordLength_0 rfl 2 rfl ?_
  refine z_iconst (v := 0) B dL_recordLength_1 rfl ?_
  refine z_aload_n B dL_recordLength_2 rfl 0 rfl ?_
  refine z_iload_n B dL_recordLength_3 rfl 1 rfl ?_
  have h0 : Φ x = some (o_ 13 [.ref (x + 1), .ref (x + 3), .ref (x + 24), .ref (x + 46), .ref (x + 74), .ref (x + 80), .ref (x + 132), .ref (x + 121)]) := in0 (k := 0) hI rfl
  refine zb_callC (As := [.int a]) (rest := [.int 0, .ref o]) B (s_X11_recordLengthC G l hl9 Φ sz x ca t s c a hx hI hcA ) (cwV 1 B.1.2.2.2.2 gL_recordLength_X11_recordLength rfl rfl rfl (by decide +kernel) ⟨Nat.le_of_ble_eq_true rfl, Nat.le_of_ble_eq_true rfl⟩) h0 rfl rfl rfl rfl (Nat.le_of_ble_eq_true rfl) dL_recordLength_4 ⟨Nat.le_of_ble_eq_true rfl, Nat.le_of_ble_eq_true rfl⟩ (fun v1 Φ1 sz1 st1 hp1 hs1 => ?_) (fun E9 hE9 => ?_)
  · obtain ⟨⟨u1, hu1, rfl, rfl⟩, hz1, hI1, hF1⟩ := hp1
    subst sz1
    replace hs1 : st1 = [.int (rlF c u1), .int 0, .ref o] := hs1
    subst st1
    have hc1 : Φ1 o = some (al_ G 1 fo) := (Fr.at hF1 (fun j hj => (show False from hj).elim) ho).trans hc
    refine z_i2l (v := ((rlF c u1)).toInt64) B dL_recordLength_7 rfl ?_
    refine z_last B hc1 hno (vin rfl) dL_recordLength_8 (fun Φ2 hΦ2 => ?_)
    refine z_goto (tgt := 15) B dL_recordLength_9 rfl ?_
    refine z_iconst (v := 0) B dL_recordLength_15 rfl ?_
    exact z_ret_i B dL_recordLength_16 ⟨⟨_, _, rfl, fset_at hΦ2, Or.inl ⟨(hcA.inT.mpr ⟨u1, hu1, rfl⟩), trivial, rfl, updL_at.trans (congrArg (fun w9 : Nat => (rlF c w9).toInt64) (nI_clamp (n := u1) (by have := hcA.1.2.1; omega)).symm)⟩⟩, In.out hI1 ho hΦ2, ⟨_, fset_at hΦ2⟩, fun b9 h9 h8 => (fset_fr hΦ2 h8).trans (hF1 b9 (fun j9 q9 hj => h9 j9 hj q9))⟩
  · obtain rfl : E9 = xIO := List.mem_singleton.mp hE9
    refine ⟨12, ⟨[], ⟨0, 9, 12, 29⟩, [], htab9.trans rfl, (fun z9 hz9 => absurd hz9 List.not_mem_nil), by decide, by decide, by decide +kernel, by decide, rfl⟩, fun q9 sz9 Φ9 hP9 => ?_⟩
    refine z_astore_n (lv' := [(3, .ref q9), (0, .ref x), (1, .int a), (2, .ref o)]) B dL_recordLength_12 rfl (Nat.le_of_ble_eq_true rfl) rfl ?_
    refine z_iconst (v := 1) B dL_recordLength_13 rfl ?_
    exact z_ret_i B dL_recordLength_14 ⟨⟨_, fo, rfl, (Fr.at0 hP9.2.2).trans hc, Or.inr (Or.inl ⟨hP9.1, rfl⟩)⟩, In.mono hP9.2.1 (by omega), ⟨_, (Fr.at0 hP9.2.2).trans hc⟩, fun b9 _ _ => Fr.at0 hP9.2.2⟩

set_option maxHeartbeats 4000000 in
set_option maxRecDepth 100000 in
theorem w_setSupport (G : EnvG) (l : Launch) (hl9 : l.stackTraces = false) (Φ : Hm) (sz x ca : Nat) (tm r w : Nat) (aq e : Int32) (ob sm un : Int64) (n : Nat) (Fs : Nat → Fl) (nT : Nat) (Ft : Nat → Fl) (sn : SN) (qn : Nat) (qL : Nat → Nat) (qd : Int32) (t s : Nat) (c : Cf) (a : Int32) (b : Int32) (o : Nat) (fo : Nat → Int64) (hx : G.2.2.2 ≤ x) (hno : G.2.2.2 ≤ o) (ho : ∀ j, j < 149 → o ≠ x + j) (hI : In G x ca Φ) (hc : Φ o = some (al_ G 1 fo)) (hXC : XC G x (tm, r, w, aq, e, ob, sm, un, (n, Fs), (nT, Ft)) Φ) (hSQ : SQ G x c sn (qn, qL, qd) Φ) (hcA : CfA G x t s c Φ) (hg : CfG c) (had9 : aq = 0 ∨ aq = 1) (hy_hb : b = 0 ∨ b = 1) : Ct G l yL_setSupport wsL_setSupport ({ frames := 7, cells := 1, slots := 6, locals := 104 }) 1 6 [.ref x, .int a, .int b, .ref o] Φ sz (fun v Φ1 sz1 => (∃ (k9 : Int32) (fo9 : Nat → Int64) , v = some (.int k9) ∧ Φ1 o = some (al_ G 1 fo9) ∧ AnsR (InF a) True (suV c a).toInt64 k9 (fo9 0) ∧ (∃ s8 : Nat, CfA G x t s8 (suW c a b) Φ1) ∧ ∃ a8 : Nat → Int32, SQ G x (suW c a b) (a8, sn.2) (qn, qL, qd) Φ1 ∧ ∀ j, j < 4 → a8 j = suX c a b sn.1 j) ∧ WpL G x (ca) (fun j9 => (3 ≤ j9 ∧ j9 < 24) ∨ j9 = 78) o Φ Φ1) := by
  refine Ct.ofH (cc := cL_setSupport) (maxL := 5) (ret := (some .int)) (by decide) rfl (Nat.le_of_ble_eq_true rfl) ?_
  intro p9 e9 s9 m9 w9 t9 k9 B htab9
  show Z p9 l e9 _ s9 m9 _ w9 t9 k9 _ G 5 0 [(0, .ref x), (1, .int a), (2, .int b), (3, .ref o)] [] Φ sz 0 0
  have hX0 := hXC
  obtain ⟨xp, xb, pp, pt, he9, hE0, h810, h950, hTC, hTT, hb9⟩ := hXC
  have hSQ0 := hSQ
  obtain ⟨hSd, qp, hQ0⟩ := hSQ0
  have hQ : QbR G x qn qL qd qp Φ := hQ0
  have hqn9 : qn ≤ 12 := hQ.le
  replace he9 : xp - xb = e := he9
  have hE9 : Φ (x + 80) = some (e80 x (nI tm) (nI r) (nI w) aq xp xb ob sm un) := hE0
  have h819 : Φ (x + 81) = some (o_ 6 [.ref (x + 82), .int (nI n)]) := h810
  have h959 : Φ (x + 95) = some (o_ 6 [.ref (x + 96), .int (nI nT)]) := h950
  have hb8 : tm ≤ 1000000 ∧ 1 ≤ r ∧ r ≤ 1024 ∧ w < 2147483648 := hb9
  have hn9 : n ≤ 12 := TbR.le hTC
  have hnT9 : nT ≤ 24 := TbR.le hTT
  refine z_aload_n B dL_setSupport_0 rfl 3 rfl ?_
  refine z_iconst (v := 0) B dL_setSupport_1 rfl ?_
  refine z_aload_n B dL_setSupport_2 rfl 0 rfl ?_
  refine z_iload_n B dL_setSupport_3 rfl 1 rfl ?_
  refine z_iload_n B dL_setSupport_4 rfl 2 rfl ?_
  have h0 : Φ x = some (o_ 13 [.ref (x + 1), .ref (x + 3), .ref (x + 24), .ref (x + 46), .ref (x + 74), .ref (x + 80), .ref (x + 132), .ref (x + 121)]) := in0 (k := 0) hI rfl
  refine zb_callC (As := [.int a, .int b]) (rest := [.int 0, .ref o]) B (s_X11_setSupportX G l hl9 Φ sz x ca t s c sn a b hx hI hcA hSd hy_hb hg) (cwV 2 B.1.2.2.2.2 gL_setSupport_X11_setSupport rfl rfl rfl (by decide +kernel) ⟨Nat.le_of_ble_eq_true rfl, Nat.le_of_ble_eq_true rfl⟩) h0 rfl rfl rfl rfl (Nat.le_of_ble_eq_true rfl) dL_setSupport_5 ⟨Nat.le_of_ble_eq_true rfl, Nat.le_of_ble_eq_true rfl⟩ (fun v1 Φ1 sz1 st1 hp1 hs1 => ?_) (fun E9 hE9_ => ?_)
  · obtain ⟨⟨rfl, hF1_, ⟨s1_, hA1_⟩, a8, hSd1, hx1⟩, hz1, hI1, hF1⟩ := hp1
    have hS8 : SQ G x (suW c a b) (a8, sn.2) (qn, qL, qd) Φ1 := ⟨SdP.cz hSd1, qp, hQ.mv (hF1 _ (fun j9 q9 hj9 => by replace hj9 : (3 ≤ j9 ∧ j9 < 24) ∨ j9 = 78 := hj9; omega)) (hF1 _ (fun j9 q9 hj9 => by replace hj9 : (3 ≤ j9 ∧ j9 < 24) ∨ j9 = 78 := hj9; omega)) (fun i hi => hF1 _ (fun j9 q9 hj9 => by have h7 := hQ.lt (j := i) (by omega); replace hj9 : (3 ≤ j9 ∧ j9 < 24) ∨ j9 = 78 := hj9; omega))⟩
    subst sz1
    replace hs1 : st1 = [.int (suV c a), .int 0, .ref o] := hs1
    subst st1
    have hc1_ : Φ1 o = some (al_ G 1 fo) := (Fr.at hF1 (fun j hj => by replace hj : (3 ≤ j ∧ j < 24) ∨ j = 78 := hj; omega) ho).trans hc
    refine z_if_eq (tgt := 15) B dL_setSupport_8 rfl (fun c_1 => ?_) (fun c_1 => ?_)
    · refine z_lconst (v := 0) B dL_setSupport_15 rfl ?_
      refine z_last B hc1_ hno (vin rfl) dL_setSupport_16 (fun Φ2 hΦ2 => ?_)
      refine z_goto (tgt := 24) B dL_setSupport_17 rfl ?_
      refine z_iconst (v := 0) B dL_setSupport_24 rfl ?_
      exact z_ret_i B dL_setSupport_25 ⟨⟨_, _, rfl, fset_at hΦ2, Or.inl ⟨hF1_, trivial, rfl, (updL_at.trans (b2l_0 c_1))⟩, ⟨s1_, CfA.y hF1_ (hA1_.mv (fun j9 q1 q2 => fset_fr hΦ2 (fun q => ho j9 (by omega) q.symm)))⟩, a8, SQ_fl0 hS8 ho hΦ2, suX_c hF1_ hx1⟩, In.out hI1 ho hΦ2, ⟨_, fset_at hΦ2⟩, fun b9 h9 h8 => (fset_fr hΦ2 h8).trans (hF1 b9 (fun j9 q9 hj => h9 j9 hj q9))⟩
    · refine z_lconst (v := 1) B dL_setSupport_11 rfl ?_
      refine z_goto (tgt := 16) B dL_setSupport_12 rfl ?_
      refine z_last B hc1_ hno (vin rfl) dL_setSupport_16 (fun Φ2 hΦ2 => ?_)
      refine z_goto (tgt := 24) B dL_setSupport_17 rfl ?_
      refine z_iconst (v := 0) B dL_setSupport_24 rfl ?_
      exact z_ret_i B dL_setSupport_25 ⟨⟨_, _, rfl, fset_at hΦ2, Or.inl ⟨hF1_, trivial, rfl, (updL_at.trans (b2l_1 (suV_01 c a) c_1))⟩, ⟨s1_, CfA.y hF1_ (hA1_.mv (fun j9 q1 q2 => fset_fr hΦ2 (fun q => ho j9 (by omega) q.symm)))⟩, a8, SQ_fl0 hS8 ho hΦ2, suX_c hF1_ hx1⟩, In.out hI1 ho hΦ2, ⟨_, fset_at hΦ2⟩, fun b9 h9 h8 => (fset_fr hΦ2 h8).trans (hF1 b9 (fun j9 q9 hj => h9 j9 hj q9))⟩
  · obtain rfl : E9 = xIA := List.mem_singleton.mp hE9_
    refine ⟨20, ⟨[], ⟨0, 17, 20, 13⟩, [], htab9.trans rfl, (fun z9 hz9 => absurd hz9 List.not_mem_nil), by decide, by decide, by decide +kernel, by decide, rfl⟩, fun q9 sz9 Φ9 hP9 => ?_⟩
    refine z_astore (lv' := [(4, .ref q9), (0, .ref x), (1, .int a), (2, .int b), (3, .ref o)]) B dL_setSupport_20 (Nat.le_of_ble_eq_true rfl) rfl ?_
    refine z_iconst (v := 1) B dL_setSupport_22 rfl ?_
    exact z_ret_i B dL_setSupport_23 ⟨⟨_, fo, rfl, (Fr.at0 hP9.2.2).trans hc, Or.inr (Or.inl ⟨hP9.1, rfl⟩), ⟨s, CfA.n hP9.1 (hcA.mv (fun j9 _ _ => Fr.at0 hP9.2.2))⟩, sn.1, SQ.cn hP9.1 (SQ.eq hSQ (fun j _ _ => Fr.at0 hP9.2.2)), fun j _ => (congrFun (suX_n hP9.1) j).symm⟩, In.mono hP9.2.1 (by omega), ⟨_, (Fr.at0 hP9.2.2).trans hc⟩, fun b9 _ _ => Fr.at0 hP9.2.2⟩

set_option maxHeartbeats 4000000 in
set_option maxRecDepth 100000 in
theorem w_isDue (G : EnvG) (l : Launch) (hl9 : l.stackTraces = false) (Φ : Hm) (sz x ca : Nat) (tm r w : Nat) (aq e : Int32) (ob sm un : Int64) (n : Nat) (Fs : Nat → Fl) (nT : Nat) (Ft : Nat → Fl) (sn : SN) (qn : Nat) (qL : Nat → Nat) (qd : Int32) (t s : Nat) (c : Cf) (a : Int32) (o : Nat) (fo : Nat → Int64) (hx : G.2.2.2 ≤ x) (hno : G.2.2.2 ≤ o) (ho : ∀ j, j < 149 → o ≠ x + j) (hI : In G x ca Φ) (hc : Φ o = some (al_ G 1 fo)) (hXC : XC G x (tm, r, w, aq, e, ob, sm, un, (n, Fs), (nT, Ft)) Φ) (hSQ : SQ G x c sn (qn, qL, qd) Φ) (hcA : CfA G x t s c Φ) (hg : CfG c) (had9 : aq = 0 ∨ aq = 1) : Ct G l yL_isDue wsL_isDue ({ frames := 8, cells := 1, slots := 6, locals := 123 }) 1 6 [.ref x, .int a, .ref o] Φ sz (fun v Φ1 sz1 => (∃ (k9 : Int32) (fo9 : Nat → Int64) , v = some (.int k9) ∧ Φ1 o = some (al_ G 1 fo9) ∧ AnsR (InT c a) True (duV c (nI tm) sn a.toNatClampNeg).toInt64 k9 (fo9 0)) ∧ WpL G x (ca) (fun j9 => False) o Φ Φ1) := by
  refine Ct.ofH (cc := cL_isDue) (maxL := 4) (ret := (some .int)) (by decide) rfl (Nat.le_of_ble_eq_true rfl) ?_
  intro p9 e9 s9 m9 w9 t9 k9 B htab9
  show Z p9 l e9 _ s9 m9 _ w9 t9 k9 _ G 4 0 [(0, .ref x), (1, .int a), (2, .ref o)] [] Φ sz 0 0
  have hX0 := hXC
  obtain ⟨xp, xb, pp, pt, he9, hE0, h810, h950, hTC, hTT, hb9⟩ := hXC
  have hSQ0 := hSQ
  obtain ⟨hSd, qp, hQ0⟩ := hSQ0
  have hQ : QbR G x qn qL qd qp Φ := hQ0
  have hqn9 : qn ≤ 12 := hQ.le
  replace he9 : xp - xb = e := he9
  have hE9 : Φ (x + 80) = some (e80 x (nI tm) (nI r) (nI w) aq xp xb ob sm un) := hE0
  have h819 : Φ (x + 81) = some (o_ 6 [.ref (x + 82), .int (nI n)]) := h810
  have h959 : Φ (x + 95) = some (o_ 6 [.ref (x + 96), .int (nI nT)]) := h950
  have hb8 : tm ≤ 1000000 ∧ 1 ≤ r ∧ r ≤ 1024 ∧ w < 2147483648 := hb9
  have hn9 : n ≤ 12 := TbR.le hTC
  have hnT9 : nT ≤ 24 := TbR.le hTT
  refine z_aload_n B dL_isDue_0 rfl 2 rfl ?_
  refine z_iconst (v := 0) B dL_isDue_1 rfl ?_
  refine z_aload_n B dL_isDue_2 rfl 0 rfl ?_
  refine z_iload_n B dL_isDue_3 rfl 1 rfl ?_
  have h0 : Φ x = some (o_ 13 [.ref (x + 1), .ref (x + 3), .ref (x + 24), .ref (x + 46), .ref (x + 74), .ref (x + 80), .ref (x + 132), .ref (x + 121)]) := in0 (k := 0) hI rfl
  refine zb_callC (As := [.int a]) (rest := [.int 0, .ref o]) B (s_X11_isDueX G l hl9 Φ sz x ca tm r w aq xp xb ob sm (un, 0, fun _ => 0) t s c sn a hx hI hE9 hcA hSd hg had9) (cwV 1 B.1.2.2.2.2 gL_isDue_X11_isDue rfl rfl rfl (by decide +kernel) ⟨Nat.le_of_ble_eq_true rfl, Nat.le_of_ble_eq_true rfl⟩) h0 rfl rfl rfl rfl (Nat.le_of_ble_eq_true rfl) dL_isDue_4 ⟨Nat.le_of_ble_eq_true rfl, Nat.le_of_ble_eq_true rfl⟩ (fun v1 Φ1 sz1 st1 hp1 hs1 => ?_) (fun E9 hE9_ => ?_)
  · obtain ⟨⟨u1, hu1, rfl, hd1⟩, hz1, hI1, hF1⟩ := hp1
    obtain rfl := du_val (show u1 < 4 from Nat.lt_of_lt_of_le hu1 hcA.1.2.1) hd1
    subst sz1
    replace hs1 : st1 = [.int (duV c (nI tm) sn (nI u1).toNatClampNeg), .int 0, .ref o] := hs1
    subst st1
    have hc1_ : Φ1 o = some (al_ G 1 fo) := (Fr.at hF1 (fun j hj => (show False from hj).elim) ho).trans hc
    refine z_if_eq (tgt := 14) B dL_isDue_7 rfl (fun c_1 => ?_) (fun c_1 => ?_)
    · refine z_lconst (v := 0) B dL_isDue_14 rfl ?_
      refine z_last B hc1_ hno (vin rfl) dL_isDue_15 (fun Φ2 hΦ2 => ?_)
      refine z_goto (tgt := 22) B dL_isDue_16 rfl ?_
      refine z_iconst (v := 0) B dL_isDue_22 rfl ?_
      exact z_ret_i B dL_isDue_23 ⟨⟨_, _, rfl, fset_at hΦ2, Or.inl ⟨hcA.inT.mpr ⟨u1, hu1, rfl⟩, trivial, rfl, (updL_at.trans (b2l_0 c_1))⟩⟩, In.out hI1 ho hΦ2, ⟨_, fset_at hΦ2⟩, fun b9 h9 h8 => (fset_fr hΦ2 h8).trans (hF1 b9 (fun j9 q9 hj => h9 j9 hj q9))⟩
    · refine z_lconst (v := 1) B dL_isDue_10 rfl ?_
      refine z_goto (tgt := 15) B dL_isDue_11 rfl ?_
      refine z_last B hc1_ hno (vin rfl) dL_isDue_15 (fun Φ2 hΦ2 => ?_)
      refine z_goto (tgt := 22) B dL_isDue_16 rfl ?_
      refine z_iconst (v := 0) B dL_isDue_22 rfl ?_
      exact z_ret_i B dL_isDue_23 ⟨⟨_, _, rfl, fset_at hΦ2, Or.inl ⟨hcA.inT.mpr ⟨u1, hu1, rfl⟩, trivial, rfl, (updL_at.trans (b2l_1 duV_01 c_1))⟩⟩, In.out hI1 ho hΦ2, ⟨_, fset_at hΦ2⟩, fun b9 h9 h8 => (fset_fr hΦ2 h8).trans (hF1 b9 (fun j9 q9 hj => h9 j9 hj q9))⟩
  · obtain rfl : E9 = xIO := List.mem_singleton.mp hE9_
    refine ⟨19, ⟨[], ⟨0, 16, 19, 29⟩, [], htab9.trans rfl, (fun z9 hz9 => absurd hz9 List.not_mem_nil), by decide, by decide, by decide +kernel, by decide, rfl⟩, fun q9 sz9 Φ9 hP9 => ?_⟩
    refine z_astore_n (lv' := [(3, .ref q9), (0, .ref x), (1, .int a), (2, .ref o)]) B dL_isDue_19 rfl (Nat.le_of_ble_eq_true rfl) rfl ?_
    refine z_iconst (v := 1) B dL_isDue_20 rfl ?_
    exact z_ret_i B dL_isDue_21 ⟨⟨_, fo, rfl, (Fr.at0 hP9.2.2).trans hc, Or.inr (Or.inl ⟨hP9.1, rfl⟩)⟩, In.mono hP9.2.1 (by omega), ⟨_, (Fr.at0 hP9.2.2).trans hc⟩, fun b9 _ _ => Fr.at0 hP9.2.2⟩

set_option maxHeartbeats 4000000 in
set_option maxRecDepth 100000 in
theorem w_messageLength (G : EnvG) (l : Launch) (hl9 : l.stackTraces = false) (Φ : Hm) (sz x ca : Nat) (tm r w : Nat) (aq e : Int32) (ob sm un : Int64) (n : Nat) (Fs : Nat → Fl) (nT : Nat) (Ft : Nat → Fl) (sn : SN) (qn : Nat) (qL : Nat → Nat) (qd : Int32) (t s : Nat) (c : Cf) (a : Int32) (o : Nat) (fo : Nat → Int64) (hx : G.2.2.2 ≤ x) (hno : G.2.2.2 ≤ o) (ho : ∀ j, j < 149 → o ≠ x + j) (hI : In G x ca Φ) (hc : Φ o = some (al_ G 1 fo)) (hXC : XC G x (tm, r, w, aq, e, ob, sm, un, (n, Fs), (nT, Ft)) Φ) (hSQ : SQ G x c sn (qn, qL, qd) Φ) (hcA : CfA G x t s c Φ) (hg : CfG c) (had9 : aq = 0 ∨ aq = 1) : Ct G l yL_messageLength wsL_messageLength ({ frames := 8, cells := 1, slots := 6, locals := 123 }) 1 6 [.ref x, .int a, .ref o] Φ sz (fun v Φ1 sz1 => (∃ (k9 : Int32) (fo9 : Nat → Int64) , v = some (.int k9) ∧ Φ1 o = some (al_ G 1 fo9) ∧ AnsR (InQ qn a) True (nI (qL a.toNatClampNeg)).toInt64 k9 (fo9 0)) ∧ WpL G x (ca) (fun j9 => False) o Φ Φ1) := by
  refine Ct.ofH (cc := cL_messageLength) (maxL := 4) (ret := (some .int)) (by decide) rfl (Nat.le_of_ble_eq_true rfl) ?_
  intro p9 e9 s9 m9 w9 t9 k9 B htab9
  show Z p9 l e9 _ s9 m9 _ w9 t9 k9 _ G 4 0 [(0, .ref x), (1, .int a), (2, .ref o)] [] Φ sz 0 0
  have hX0 := hXC
  obtain ⟨xp, xb, pp, pt, he9, hE0, h810, h950, hTC, hTT, hb9⟩ := hXC
  have hSQ0 := hSQ
  obtain ⟨hSd, qp, hQ0⟩ := hSQ0
  have hQ : QbR G x qn qL qd qp Φ := hQ0
  have hqn9 : qn ≤ 12 := hQ.le
  replace he9 : xp - xb = e := he9
  have hE9 : Φ (x + 80) = some (e80 x (nI tm) (nI r) (nI w) aq xp xb ob sm un) := hE0
  have h819 : Φ (x + 81) = some (o_ 6 [.ref (x + 82), .int (nI n)]) := h810
  have h959 : Φ (x + 95) = some (o_ 6 [.ref (x + 96), .int (nI nT)]) := h950
  have hb8 : tm ≤ 1000000 ∧ 1 ≤ r ∧ r ≤ 1024 ∧ w < 2147483648 := hb9
  have hn9 : n ≤ 12 := TbR.le hTC
  have hnT9 : nT ≤ 24 := TbR.le hTT
  refine z_aload_n B dL_messageLength_0 rfl 2 rfl ?_
  refine z_iconst (v := 0) B dL_messageLength_1 rfl ?_
  refine z_aload_n B dL_messageLength_2 rfl 0 rfl ?_
  refine z_iload_n B dL_messageLength_3 rfl 1 rfl ?_
  have h0 : Φ x = some (o_ 13 [.ref (x + 1), .ref (x + 3), .ref (x + 24), .ref (x + 46), .ref (x + 74), .ref (x + 80), .ref (x + 132), .ref (x + 121)]) := in0 (k := 0) hI rfl
  refine zb_callC (As := [.int a]) (rest := [.int 0, .ref o]) B (s_X11_messageLengthX G l hl9 Φ sz x ca qn qL qd qp a hx hI hQ) (cwV 1 B.1.2.2.2.2 gL_messageLength_X11_messageLength rfl rfl rfl (by decide +kernel) ⟨Nat.le_of_ble_eq_true rfl, Nat.le_of_ble_eq_true rfl⟩) h0 rfl rfl rfl rfl (Nat.le_of_ble_eq_true rfl) dL_messageLength_4 ⟨Nat.le_of_ble_eq_true rfl, Nat.le_of_ble_eq_true rfl⟩ (fun v1 Φ1 sz1 st1 hp1 hs1 => ?_) (fun E9 hE9_ => ?_)
  · obtain ⟨⟨u1, hu1, rfl, rfl⟩, hz1, hI1, hF1⟩ := hp1
    subst sz1
    replace hs1 : st1 = [.int (nI (qL u1)), .int 0, .ref o] := hs1
    subst st1
    have hc1_ : Φ1 o = some (al_ G 1 fo) := (Fr.at hF1 (fun j hj => (show False from hj).elim) ho).trans hc
    refine z_i2l (v := (nI (qL u1))) B dL_messageLength_7 rfl ?_
    refine z_last B hc1_ hno (vin rfl) dL_messageLength_8 (fun Φ2 hΦ2 => ?_)
    refine z_goto (tgt := 15) B dL_messageLength_9 rfl ?_
    refine z_iconst (v := 0) B dL_messageLength_15 rfl ?_
    exact z_ret_i B dL_messageLength_16 ⟨⟨_, _, rfl, fset_at hΦ2, Or.inl ⟨InQ_i hu1 hqn9, trivial, rfl, updL_at.trans (congrArg (fun w9 : Nat => (nI (qL w9)).toInt64) (nI_clamp (n := u1) (by omega)).symm)⟩⟩, In.out hI1 ho hΦ2, ⟨_, fset_at hΦ2⟩, fun b9 h9 h8 => (fset_fr hΦ2 h8).trans (hF1 b9 (fun j9 q9 hj => h9 j9 hj q9))⟩
  · obtain rfl : E9 = xIO := List.mem_singleton.mp hE9_
    refine ⟨12, ⟨[], ⟨0, 9, 12, 29⟩, [], htab9.trans rfl, (fun z9 hz9 => absurd hz9 List.not_mem_nil), by decide, by decide, by decide +kernel, by decide, rfl⟩, fun q9 sz9 Φ9 hP9 => ?_⟩
    refine z_astore_n (lv' := [(3, .ref q9), (0, .ref x), (1, .int a), (2, .ref o)]) B dL_messageLength_12 rfl (Nat.le_of_ble_eq_true rfl) rfl ?_
    refine z_iconst (v := 1) B dL_messageLength_13 rfl ?_
    exact z_ret_i B dL_messageLength_14 ⟨⟨_, fo, rfl, (Fr.at0 hP9.2.2).trans hc, Or.inr (Or.inl ⟨hP9.1, rfl⟩)⟩, In.mono hP9.2.1 (by omega), ⟨_, (Fr.at0 hP9.2.2).trans hc⟩, fun b9 _ _ => Fr.at0 hP9.2.2⟩

set_option maxHeartbeats 4000000 in
set_option maxRecDepth 100000 in
theorem w_messageByte (G : EnvG) (l : Launch) (hl9 : l.stackTraces = false) (Φ : Hm) (sz x ca : Nat) (a : Int32) (b : Int32) (o : Nat) (fo : Nat → Int64) (hx : G.2.2.2 ≤ x) (hno : G.2.2.2 ≤ o) (ho : ∀ j, j < 149 → o ≠ x + j) (hI : In G x ca Φ) (hc : Φ o = some (al_ G 1 fo))  : Ct G l yL_messageByte wsL_messageByte ({ frames := 8, cells := 1, slots := 6, locals := 124 }) 1 6 [.ref x, .int a, .int b, .ref o] Φ sz (fun v Φ1 sz1 => (∃ r : Int32, v = some (.int r)) ∧ WpL G x (ca) (fun j9 => False) o Φ Φ1) := by
  refine Ct.ofH (cc := cL_messageByte) (maxL := 5) (ret := (some .int)) (by decide) rfl (Nat.le_of_ble_eq_true rfl) ?_
  intro p9 e9 s9 m9 w9 t9 k9 B htab9
  show Z p9 l e9 _ s9 m9 _ w9 t9 k9 _ G 5 0 [(0, .ref x), (1, .int a), (2, .int b), (3, .ref o)] [] Φ sz 0 0
  refine z_aload_n B dL_messageByte_0 rfl 3 rfl ?_
  refine z_iconst (v := 0) B dL_messageByte_1 rfl ?_
  refine z_aload_n B dL_messageByte_2 rfl 0 rfl ?_
  refine z_iload_n B dL_messageByte_3 rfl 1 rfl ?_
  refine z_iload_n B dL_messageByte_4 rfl 2 rfl ?_
  have h0 : Φ x = some (o_ 13 [.ref (x + 1), .ref (x + 3), .ref (x + 24), .ref (x + 46), .ref (x + 74), .ref (x + 80), .ref (x + 132), .ref (x + 121)]) := in0 (k := 0) hI rfl
  refine zb_callC (As := [.int a, .int b]) (rest := [.int 0, .ref o]) B (s_X11_messageByte G l hl9 Φ sz x ca a b hx hI ) (cwV 2 B.1.2.2.2.2 gL_messageByte_X11_messageByte rfl rfl rfl (by decide +kernel) ⟨Nat.le_of_ble_eq_true rfl, Nat.le_of_ble_eq_true rfl⟩) h0 rfl rfl rfl rfl (Nat.le_of_ble_eq_true rfl) dL_messageByte_5 ⟨Nat.le_of_ble_eq_true rfl, Nat.le_of_ble_eq_true rfl⟩ (fun v1 Φ1 sz1 st1 hp1 hs1 => ?_) (fun E9 hE9 => ?_)
  · obtain ⟨⟨r1, rfl⟩, hz1, hI1, hF1⟩ := hp1
    subst sz1
    replace hs1 : st1 = [.int r1, .int 0, .ref o] := hs1
    subst st1
    have hc1 : Φ1 o = some (al_ G 1 fo) := (Fr.at hF1 (fun j hj => (show False from hj).elim) ho).trans hc
    refine z_i2l (v := (r1).toInt64) B dL_messageByte_8 rfl ?_
    refine z_last B hc1 hno (vin rfl) dL_messageByte_9 (fun Φ2 hΦ2 => ?_)
    refine z_goto (tgt := 17) B dL_messageByte_10 rfl ?_
    refine z_iconst (v := 0) B dL_messageByte_17 rfl ?_
    exact z_ret_i B dL_messageByte_18 ⟨⟨_, rfl⟩, In.out hI1 ho hΦ2, ⟨_, fset_at hΦ2⟩, fun b9 h9 h8 => (fset_fr hΦ2 h8).trans (hF1 b9 (fun j9 q9 hj => h9 j9 hj q9))⟩
  · obtain rfl : E9 = xIO := List.mem_singleton.mp hE9
    refine ⟨13, ⟨[], ⟨0, 10, 13, 29⟩, [], htab9.trans rfl, (fun z9 hz9 => absurd hz9 List.not_mem_nil), by decide, by decide, by decide +kernel, by decide, rfl⟩, fun q9 sz9 Φ9 hP9 => ?_⟩
    refine z_astore (lv' := [(4, .ref q9), (0, .ref x), (1, .int a), (2, .int b), (3, .ref o)]) B dL_messageByte_13 (Nat.le_of_ble_eq_true rfl) rfl ?_
    refine z_iconst (v := 1) B dL_messageByte_15 rfl ?_
    exact z_ret_i B dL_messageByte_16 ⟨⟨_, rfl⟩, In.mono hP9.1 (by omega), ⟨_, (Fr.at0 hP9.2).trans hc⟩, fun b9 _ _ => Fr.at0 hP9.2⟩

set_option maxHeartbeats 4000000 in
set_option maxRecDepth 100000 in
theorem w_deliver (G : EnvG) (l : Launch) (hl9 : l.stackTraces = false) (Φ : Hm) (sz x ca : Nat) (tm r w : Nat) (aq e : Int32) (ob sm un : Int64) (n : Nat) (Fs : Nat → Fl) (nT : Nat) (Ft : Nat → Fl) (sn : SN) (qn : Nat) (qL : Nat → Nat) (qd : Int32) (t s : Nat) (c : Cf) (a : Int32) (o : Nat) (fo : Nat → Int64) (hx : G.2.2.2 ≤ x) (hno : G.2.2.2 ≤ o) (ho : ∀ j, j < 149 → o ≠ x + j) (hI : In G x ca Φ) (hc : Φ o = some (al_ G 1 fo)) (hXC : XC G x (tm, r, w, aq, e, ob, sm, un, (n, Fs), (nT, Ft)) Φ) (hSQ : SQ G x c sn (qn, qL, qd) Φ) (hcA : CfA G x t s c Φ) (hg : CfG c) (had9 : aq = 0 ∨ aq = 1) (hy_hca : ca < 1000000) : Ct G l yL_deliver wsL_deliver ({ frames := 8, cells := 1, slots := 6, locals := 177 }) 1 6 [.ref x, .int a, .ref o] Φ sz (fun v Φ1 sz1 => (∃ (k9 : Int32) (fo9 : Nat → Int64) (q8 : QN), v = some (.int k9) ∧ Φ1 o = some (al_ G 1 fo9) ∧ SQ G x c sn q8 Φ1 ∧ LoR a (qn, qL, qd) q8) ∧ WpL G x (ca + 1) (fun j9 => j9 = 46 ∨ (j9 = 47 ∨ (121 ≤ j9 ∧ j9 < 149))) o Φ Φ1) := by
  refine Ct.ofH (cc := cL_deliver) (maxL := 4) (ret := (some .int)) (by decide) rfl (Nat.le_of_ble_eq_true rfl) ?_
  intro p9 e9 s9 m9 w9 t9 k9 B htab9
  show Z p9 l e9 _ s9 m9 _ w9 t9 k9 _ G 4 0 [(0, .ref x), (1, .int a), (2, .ref o)] [] Φ sz 0 0
  have hX0 := hXC
  obtain ⟨xp, xb, pp, pt, he9, hE0, h810, h950, hTC, hTT, hb9⟩ := hXC
  have hSQ0 := hSQ
  obtain ⟨hSd, qp, hQ0⟩ := hSQ0
  have hQ : QbR G x qn qL qd qp Φ := hQ0
  have hqn9 : qn ≤ 12 := hQ.le
  replace he9 : xp - xb = e := he9
  have hE9 : Φ (x + 80) = some (e80 x (nI tm) (nI r) (nI w) aq xp xb ob sm un) := hE0
  have h819 : Φ (x + 81) = some (o_ 6 [.ref (x + 82), .int (nI n)]) := h810
  have h959 : Φ (x + 95) = some (o_ 6 [.ref (x + 96), .int (nI nT)]) := h950
  have hb8 : tm ≤ 1000000 ∧ 1 ≤ r ∧ r ≤ 1024 ∧ w < 2147483648 := hb9
  have hn9 : n ≤ 12 := TbR.le hTC
  have hnT9 : nT ≤ 24 := TbR.le hTT
  refine z_aload_n B dL_deliver_0 rfl 2 rfl ?_
  refine z_iconst (v := 0) B dL_deliver_1 rfl ?_
  refine z_aload_n B dL_deliver_2 rfl 0 rfl ?_
  refine z_iload_n B dL_deliver_3 rfl 1 rfl ?_
  have h0 : Φ x = some (o_ 13 [.ref (x + 1), .ref (x + 3), .ref (x + 24), .ref (x + 46), .ref (x + 74), .ref (x + 80), .ref (x + 132), .ref (x + 121)]) := in0 (k := 0) hI rfl
  refine zb_callC (As := [.int a]) (rest := [.int 0, .ref o]) B (s_X11_deliverX G l hl9 Φ sz x ca qn qL qd qp a hx hI hQ hy_hca) (cwV 1 B.1.2.2.2.2 gL_deliver_X11_deliver rfl rfl rfl (by decide +kernel) ⟨Nat.le_of_ble_eq_true rfl, Nat.le_of_ble_eq_true rfl⟩) h0 rfl rfl rfl rfl (Nat.le_of_ble_eq_true rfl) dL_deliver_4 ⟨Nat.le_of_ble_eq_true rfl, Nat.le_of_ble_eq_true rfl⟩ (fun v1 Φ1 sz1 st1 hp1 hs1 => ?_) (fun E9 hE9_ => ?_)
  · obtain ⟨⟨u1, hu1, rfl, ⟨r1, rfl⟩, hQ1⟩, hz1, hI1, hF1⟩ := hp1
    have hS8 : SQ G x c sn (qn - 1, rmL qL u1, qd) Φ1 := ⟨hSd.mv (fun j hj => hF1 _ (fun j9 q9 hj9 => by replace hj9 : j9 = 46 ∨ (j9 = 47 ∨ (121 ≤ j9 ∧ j9 < 149)) := hj9; omega)), _, hQ1⟩
    subst sz1
    replace hs1 : st1 = [.int r1, .int 0, .ref o] := hs1
    subst st1
    have hc1_ : Φ1 o = some (al_ G 1 fo) := (Fr.at hF1 (fun j hj => by replace hj : j = 46 ∨ (j = 47 ∨ (121 ≤ j ∧ j < 149)) := hj; omega) ho).trans hc
    refine z_i2l (v := r1) B dL_deliver_7 rfl ?_
    refine z_last B hc1_ hno (vin rfl) dL_deliver_8 (fun Φ2 hΦ2 => ?_)
    refine z_goto (tgt := 15) B dL_deliver_9 rfl ?_
    refine z_iconst (v := 0) B dL_deliver_15 rfl ?_
    exact z_ret_i B dL_deliver_16 ⟨⟨_, _, _, rfl, fset_at hΦ2, SQ_fl0 hS8 ho hΦ2, Or.inr ⟨u1, hu1, rfl, rfl⟩⟩, In.out hI1 ho hΦ2, ⟨_, fset_at hΦ2⟩, fun b9 h9 h8 => (fset_fr hΦ2 h8).trans (hF1 b9 (fun j9 q9 hj => h9 j9 hj q9))⟩
  · obtain rfl : E9 = xIO := List.mem_singleton.mp hE9_
    refine ⟨12, ⟨[], ⟨0, 9, 12, 29⟩, [], htab9.trans rfl, (fun z9 hz9 => absurd hz9 List.not_mem_nil), by decide, by decide, by decide +kernel, by decide, rfl⟩, fun q9 sz9 Φ9 hP9 => ?_⟩
    refine z_astore_n (lv' := [(3, .ref q9), (0, .ref x), (1, .int a), (2, .ref o)]) B dL_deliver_12 rfl (Nat.le_of_ble_eq_true rfl) rfl ?_
    refine z_iconst (v := 1) B dL_deliver_13 rfl ?_
    exact z_ret_i B dL_deliver_14 ⟨⟨_, fo, _, rfl, (Fr.at0 hP9.2.2).trans hc, SQ.eq hSQ (fun j _ _ => Fr.at0 hP9.2.2), Or.inl ⟨hP9.1, rfl⟩⟩, In.mono hP9.2.1 (by omega), ⟨_, (Fr.at0 hP9.2.2).trans hc⟩, fun b9 _ _ => Fr.at0 hP9.2.2⟩
