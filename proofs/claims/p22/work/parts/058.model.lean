set_option maxRecDepth 20000 in
theorem ggX12_cached_X12_inRange : GoodIn wsX12_cached wsX12_inRange := (goodIn_r _ [8] rfl (by decide +kernel))
set_option maxRecDepth 20000 in
theorem gX12_cached_X12_inRange : GoodIn wsX12_cached (va_wsS RX12 169 yX12_inRange wsX12_inRange) := goodIn_app (goodIn_m (mem_cA (List.mem_cons_of_mem _ (List.mem_append_left _ (List.mem_append_left _ (List.mem_of_getElem? (i := 4) rfl)))) (mem_cA (List.mem_cons_of_mem _ (List.mem_append_left _ (List.mem_append_left _ (List.mem_of_getElem? (i := 5) rfl)))) (mem_cA (List.mem_cons_of_mem _ (List.mem_append_left _ (List.mem_append_left _ (List.mem_of_getElem? (i := 6) rfl)))) mem_cZ))) (by decide +kernel)) ggX12_cached_X12_inRange
set_option maxRecDepth 20000 in
theorem ggX12_cached_X12_throwsIf : GoodIn wsX12_cached wsX12_throwsIf := (goodIn_ca (goodIn_r _ [12, 1] rfl (by decide +kernel)) (goodIn_sub (fun _ h => List.mem_cons_of_mem _ (List.mem_append_left _ (List.mem_append_right _ h))) gw_wsX120))
set_option maxRecDepth 20000 in
theorem gX12_cached_X12_throwsIf : GoodIn wsX12_cached (wsV RX12 185 RX12 yX12_throwsIf wsX12_throwsIf) := goodIn_app (goodIn_m (mem_cA (List.mem_cons_of_mem _ (List.mem_append_left _ (List.mem_append_left _ (List.mem_of_getElem? (i := 8) rfl)))) (mem_cA (List.mem_cons_of_mem _ (List.mem_append_left _ (List.mem_append_left _ (List.mem_of_getElem? (i := 9) rfl)))) (mem_cA (List.mem_cons_of_mem _ (List.mem_append_left _ (List.mem_append_left _ (List.mem_of_getElem? (i := 10) rfl)))) (mem_cA (List.mem_cons_of_mem _ (List.mem_append_left _ (List.mem_append_left _ (List.mem_of_getElem? (i := 6) rfl)))) mem_cZ)))) (by decide +kernel)) ggX12_cached_X12_throwsIf
theorem dX12_cached_0 : decode cX12_cached 0 = .ok (.aload_n 0, 1) := by decide +kernel
theorem dX12_cached_1 : decode cX12_cached 1 = .ok (.iconst 0, 1) := by decide +kernel
theorem dX12_cached_2 : decode cX12_cached 2 = .ok (.putfield 1, 3) := by decide +kernel
theorem dX12_cached_5 : decode cX12_cached 5 = .ok (.aload_n 0, 1) := by decide +kernel
theorem dX12_cached_6 : decode cX12_cached 6 = .ok (.iload_n 1, 1) := by decide +kernel
theorem dX12_cached_7 : decode cX12_cached 7 = .ok (.i2l, 1) := by decide +kernel
theorem dX12_cached_8 : decode cX12_cached 8 = .ok (.lconst 0, 1) := by decide +kernel
theorem dX12_cached_9 : decode cX12_cached 9 = .ok (.aload_n 0, 1) := by decide +kernel
theorem dX12_cached_10 : decode cX12_cached 10 = .ok (.getfield 133, 3) := by decide +kernel
theorem dX12_cached_13 : decode cX12_cached 13 = .ok (.iconst 1, 1) := by decide +kernel
theorem dX12_cached_14 : decode cX12_cached 14 = .ok (.isub, 1) := by decide +kernel
theorem dX12_cached_15 : decode cX12_cached 15 = .ok (.i2l, 1) := by decide +kernel
theorem dX12_cached_16 : decode cX12_cached 16 = .ok (.invokestatic 169, 3) := by decide +kernel
theorem dX12_cached_19 : decode cX12_cached 19 = .ok (.ifCond .ne 7, 3) := by decide +kernel
theorem dX12_cached_22 : decode cX12_cached 22 = .ok (.iconst 1, 1) := by decide +kernel
theorem dX12_cached_23 : decode cX12_cached 23 = .ok (.goto 4, 3) := by decide +kernel
theorem dX12_cached_26 : decode cX12_cached 26 = .ok (.iconst 0, 1) := by decide +kernel
theorem dX12_cached_27 : decode cX12_cached 27 = .ok (.iconst 1, 1) := by decide +kernel
theorem dX12_cached_28 : decode cX12_cached 28 = .ok (.invokevirtual 185, 3) := by decide +kernel
theorem dX12_cached_31 : decode cX12_cached 31 = .ok (.ifCond .ne 28, 3) := by decide +kernel
theorem dX12_cached_34 : decode cX12_cached 34 = .ok (.aload_n 0, 1) := by decide +kernel
theorem dX12_cached_35 : decode cX12_cached 35 = .ok (.iload_n 2, 1) := by decide +kernel
theorem dX12_cached_36 : decode cX12_cached 36 = .ok (.i2l, 1) := by decide +kernel
theorem dX12_cached_37 : decode cX12_cached 37 = .ok (.lconst 0, 1) := by decide +kernel
theorem dX12_cached_38 : decode cX12_cached 38 = .ok (.ldc2_w 212, 3) := by decide +kernel
theorem dX12_cached_41 : decode cX12_cached 41 = .ok (.invokestatic 169, 3) := by decide +kernel
theorem dX12_cached_44 : decode cX12_cached 44 = .ok (.ifCond .ne 7, 3) := by decide +kernel
theorem dX12_cached_47 : decode cX12_cached 47 = .ok (.iconst 1, 1) := by decide +kernel
theorem dX12_cached_48 : decode cX12_cached 48 = .ok (.goto 4, 3) := by decide +kernel
theorem dX12_cached_51 : decode cX12_cached 51 = .ok (.iconst 0, 1) := by decide +kernel
theorem dX12_cached_52 : decode cX12_cached 52 = .ok (.iconst 2, 1) := by decide +kernel
theorem dX12_cached_53 : decode cX12_cached 53 = .ok (.invokevirtual 185, 3) := by decide +kernel
theorem dX12_cached_56 : decode cX12_cached 56 = .ok (.ifCond .eq 7, 3) := by decide +kernel
theorem dX12_cached_59 : decode cX12_cached 59 = .ok (.lconst 0, 1) := by decide +kernel
theorem dX12_cached_60 : decode cX12_cached 60 = .ok (.goto 14, 3) := by decide +kernel
theorem dX12_cached_63 : decode cX12_cached 63 = .ok (.aload_n 0, 1) := by decide +kernel
theorem dX12_cached_64 : decode cX12_cached 64 = .ok (.getfield 26, 3) := by decide +kernel
theorem dX12_cached_67 : decode cX12_cached 67 = .ok (.bipush 8, 2) := by decide +kernel
theorem dX12_cached_69 : decode cX12_cached 69 = .ok (.iload_n 1, 1) := by decide +kernel
theorem dX12_cached_70 : decode cX12_cached 70 = .ok (.imul, 1) := by decide +kernel
theorem dX12_cached_71 : decode cX12_cached 71 = .ok (.iload_n 2, 1) := by decide +kernel
theorem dX12_cached_72 : decode cX12_cached 72 = .ok (.iadd, 1) := by decide +kernel
theorem dX12_cached_73 : decode cX12_cached 73 = .ok (.laload, 1) := by decide +kernel
theorem dX12_cached_74 : decode cX12_cached 74 = .ok (.lreturn, 1) := by decide +kernel
set_option maxRecDepth 20000 in
theorem ggX12_advance_X12_inRange : GoodIn wsX12_advance wsX12_inRange := (goodIn_r _ [8] rfl (by decide +kernel))
set_option maxRecDepth 20000 in
theorem gX12_advance_X12_inRange : GoodIn wsX12_advance (va_wsS RX12 169 yX12_inRange wsX12_inRange) := goodIn_app (goodIn_m (mem_cA (List.mem_cons_of_mem _ (List.mem_append_left _ (List.mem_append_left _ (List.mem_append_left _ (List.mem_of_getElem? (i := 4) rfl))))) (mem_cA (List.mem_cons_of_mem _ (List.mem_append_left _ (List.mem_append_left _ (List.mem_append_left _ (List.mem_of_getElem? (i := 5) rfl))))) (mem_cA (List.mem_cons_of_mem _ (List.mem_append_left _ (List.mem_append_left _ (List.mem_append_left _ (List.mem_of_getElem? (i := 6) rfl))))) mem_cZ))) (by decide +kernel)) ggX12_advance_X12_inRange
set_option maxRecDepth 20000 in
theorem ggX12_advance_X12_throwsIf : GoodIn wsX12_advance wsX12_throwsIf := (goodIn_ca (goodIn_r _ [12, 1] rfl (by decide +kernel)) (goodIn_sub (fun _ h => List.mem_cons_of_mem _ (List.mem_append_left _ (List.mem_append_right _ h))) gw_wsX120))
set_option maxRecDepth 20000 in
theorem gX12_advance_X12_throwsIf : GoodIn wsX12_advance (wsV RX12 185 RX12 yX12_throwsIf wsX12_throwsIf) := goodIn_app (goodIn_m (mem_cA (List.mem_cons_of_mem _ (List.mem_append_left _ (List.mem_append_left _ (List.mem_append_left _ (List.mem_of_getElem? (i := 8) rfl))))) (mem_cA (List.mem_cons_of_mem _ (List.mem_append_left _ (List.mem_append_left _ (List.mem_append_left _ (List.mem_of_getElem? (i := 9) rfl))))) (mem_cA (List.mem_cons_of_mem _ (List.mem_append_left _ (List.mem_append_left _ (List.mem_append_left _ (List.mem_of_getElem? (i := 10) rfl))))) (mem_cA (List.mem_cons_of_mem _ (List.mem_append_left _ (List.mem_append_left _ (List.mem_append_left _ (List.mem_of_getElem? (i := 6) rfl))))) mem_cZ)))) (by decide +kernel)) ggX12_advance_X12_throwsIf
set_option maxRecDepth 20000 in
theorem ggX12_advance_X12_tick : GoodIn wsX12_advance wsX12_tick := goodIn_ca ((goodIn_ca (goodIn_r _ [16, 3, 17, 18, 19, 20, 7, 21, 22, 23, 24, 25, 26, 27, 28, 29, 30, 31, 32, 33, 34, 35, 36, 37, 38, 39, 40, 41, 42, 43, 44, 45, 46, 47, 48, 49, 50, 51, 52, 53, 54, 55, 56, 57, 58, 59, 60, 61, 62, 63, 64, 65, 66, 67, 68, 69, 70, 71, 72, 73, 74, 75, 76, 77, 78, 79, 80, 81, 82, 83, 84, 85, 86, 87, 88, 89, 90, 91, 92, 93, 94, 95, 96, 97, 98, 99, 100, 101, 102, 103, 104, 105, 106, 107, 108, 109, 110, 111, 112, 113, 114, 115, 116, 117, 118, 119, 120, 121, 122, 123, 124, 125, 126, 127, 128, 129, 130, 131, 132, 133, 134, 135, 136, 137, 138, 139, 140, 141, 142, 143] rfl (by decide +kernel)) (goodIn_sub (fun _ h => List.mem_cons_of_mem _ (List.mem_append_left _ (List.mem_append_right _ h))) gw_wsX120))) (goodIn_sub (fun _ h => List.mem_cons_of_mem _ (List.mem_append_right _ h)) (all_fg _))
set_option maxRecDepth 20000 in
theorem gX12_advance_X12_tick : GoodIn wsX12_advance (wsV RX12 277 RX12 yX12_tick wsX12_tick) := goodIn_app (goodIn_m (mem_cA (List.mem_cons_of_mem _ (List.mem_append_left _ (List.mem_append_left _ (List.mem_append_left _ (List.mem_of_getElem? (i := 12) rfl))))) (mem_cA (List.mem_cons_of_mem _ (List.mem_append_left _ (List.mem_append_left _ (List.mem_append_left _ (List.mem_of_getElem? (i := 13) rfl))))) (mem_cA (List.mem_cons_of_mem _ (List.mem_append_left _ (List.mem_append_left _ (List.mem_append_left _ (List.mem_of_getElem? (i := 14) rfl))))) (mem_cA (List.mem_cons_of_mem _ (List.mem_append_left _ (List.mem_append_left _ (List.mem_append_left _ (List.mem_of_getElem? (i := 6) rfl))))) mem_cZ)))) (by decide +kernel)) ggX12_advance_X12_tick
theorem dX12_advance_0 : decode cX12_advance 0 = .ok (.aload_n 0, 1) := by decide +kernel
theorem dX12_advance_1 : decode cX12_advance 1 = .ok (.iconst 0, 1) := by decide +kernel
theorem dX12_advance_2 : decode cX12_advance 2 = .ok (.putfield 1, 3) := by decide +kernel
theorem dX12_advance_5 : decode cX12_advance 5 = .ok (.aload_n 0, 1) := by decide +kernel
theorem dX12_advance_6 : decode cX12_advance 6 = .ok (.iload_n 1, 1) := by decide +kernel
theorem dX12_advance_7 : decode cX12_advance 7 = .ok (.i2l, 1) := by decide +kernel
theorem dX12_advance_8 : decode cX12_advance 8 = .ok (.lconst 1, 1) := by decide +kernel
theorem dX12_advance_9 : decode cX12_advance 9 = .ok (.ldc2_w 274, 3) := by decide +kernel
theorem dX12_advance_12 : decode cX12_advance 12 = .ok (.invokestatic 169, 3) := by decide +kernel
theorem dX12_advance_15 : decode cX12_advance 15 = .ok (.ifCond .ne 7, 3) := by decide +kernel
theorem dX12_advance_18 : decode cX12_advance 18 = .ok (.iconst 1, 1) := by decide +kernel
theorem dX12_advance_19 : decode cX12_advance 19 = .ok (.goto 4, 3) := by decide +kernel
theorem dX12_advance_22 : decode cX12_advance 22 = .ok (.iconst 0, 1) := by decide +kernel
theorem dX12_advance_23 : decode cX12_advance 23 = .ok (.iconst 1, 1) := by decide +kernel
theorem dX12_advance_24 : decode cX12_advance 24 = .ok (.invokevirtual 185, 3) := by decide +kernel
theorem dX12_advance_27 : decode cX12_advance 27 = .ok (.ifCond .ne 28, 3) := by decide +kernel
theorem dX12_advance_30 : decode cX12_advance 30 = .ok (.aload_n 0, 1) := by decide +kernel
theorem dX12_advance_31 : decode cX12_advance 31 = .ok (.aload_n 0, 1) := by decide +kernel
theorem dX12_advance_32 : decode cX12_advance 32 = .ok (.getfield 101, 3) := by decide +kernel
theorem dX12_advance_35 : decode cX12_advance 35 = .ok (.iload_n 1, 1) := by decide +kernel
theorem dX12_advance_36 : decode cX12_advance 36 = .ok (.iadd, 1) := by decide +kernel
theorem dX12_advance_37 : decode cX12_advance 37 = .ok (.ldc_w 276, 3) := by decide +kernel
theorem dX12_advance_40 : decode cX12_advance 40 = .ok (.if_icmp .le 7, 3) := by decide +kernel
theorem dX12_advance_43 : decode cX12_advance 43 = .ok (.iconst 1, 1) := by decide +kernel
theorem dX12_advance_44 : decode cX12_advance 44 = .ok (.goto 4, 3) := by decide +kernel
theorem dX12_advance_47 : decode cX12_advance 47 = .ok (.iconst 0, 1) := by decide +kernel
theorem dX12_advance_48 : decode cX12_advance 48 = .ok (.iconst 2, 1) := by decide +kernel
theorem dX12_advance_49 : decode cX12_advance 49 = .ok (.invokevirtual 185, 3) := by decide +kernel
theorem dX12_advance_52 : decode cX12_advance 52 = .ok (.ifCond .eq 5, 3) := by decide +kernel
theorem dX12_advance_55 : decode cX12_advance 55 = .ok (.iconst 0, 1) := by decide +kernel
theorem dX12_advance_56 : decode cX12_advance 56 = .ok (.ireturn, 1) := by decide +kernel
theorem dX12_advance_57 : decode cX12_advance 57 = .ok (.iconst 0, 1) := by decide +kernel
theorem dX12_advance_58 : decode cX12_advance 58 = .ok (.istore_n 2, 1) := by decide +kernel
theorem dX12_advance_59 : decode cX12_advance 59 = .ok (.iconst 0, 1) := by decide +kernel
theorem dX12_advance_60 : decode cX12_advance 60 = .ok (.istore_n 3, 1) := by decide +kernel
theorem dX12_advance_61 : decode cX12_advance 61 = .ok (.iload_n 3, 1) := by decide +kernel
theorem dX12_advance_62 : decode cX12_advance 62 = .ok (.iload_n 1, 1) := by decide +kernel
theorem dX12_advance_63 : decode cX12_advance 63 = .ok (.if_icmp .ge 16, 3) := by decide +kernel
theorem dX12_advance_66 : decode cX12_advance 66 = .ok (.iload_n 2, 1) := by decide +kernel
theorem dX12_advance_67 : decode cX12_advance 67 = .ok (.aload_n 0, 1) := by decide +kernel
theorem dX12_advance_68 : decode cX12_advance 68 = .ok (.invokevirtual 277, 3) := by decide +kernel
theorem dX12_advance_71 : decode cX12_advance 71 = .ok (.iadd, 1) := by decide +kernel
theorem dX12_advance_72 : decode cX12_advance 72 = .ok (.istore_n 2, 1) := by decide +kernel
theorem dX12_advance_73 : decode cX12_advance 73 = .ok (.iinc 3 1, 3) := by decide +kernel
theorem dX12_advance_76 : decode cX12_advance 76 = .ok (.goto (-15), 3) := by decide +kernel
theorem dX12_advance_79 : decode cX12_advance 79 = .ok (.iload_n 2, 1) := by decide +kernel
theorem dX12_advance_80 : decode cX12_advance 80 = .ok (.ireturn, 1) := by decide +kernel
set_option maxRecDepth 20000 in
theorem ggX12_messageLength_X12_isMessage : GoodIn wsX12_messageLength wsX12_isMessage := (goodIn_ca (goodIn_r _ [7, 8, 9, 10, 6, 11] rfl (by decide +kernel)) (goodIn_sub (fun _ h => List.mem_cons_of_mem _ (List.mem_append_left _ (List.mem_append_right _ h))) gw_wsX120))
set_option maxRecDepth 20000 in
theorem gX12_messageLength_X12_isMessage : GoodIn wsX12_messageLength (wsV RX12 311 RX12 yX12_isMessage wsX12_isMessage) := goodIn_app (goodIn_m (mem_cA (List.mem_cons_of_mem _ (List.mem_append_left _ (List.mem_append_left _ (List.mem_of_getElem? (i := 2) rfl)))) (mem_cA (List.mem_cons_of_mem _ (List.mem_append_left _ (List.mem_append_left _ (List.mem_of_getElem? (i := 3) rfl)))) (mem_cA (List.mem_cons_of_mem _ (List.mem_append_left _ (List.mem_append_left _ (List.mem_of_getElem? (i := 4) rfl)))) (mem_cA (List.mem_cons_of_mem _ (List.mem_append_left _ (List.mem_append_left _ (List.mem_of_getElem? (i := 5) rfl)))) mem_cZ)))) (by decide +kernel)) ggX12_messageLength_X12_isMessage
set_option maxRecDepth 20000 in
theorem ggX12_messageLength_X12_throwsIf : GoodIn wsX12_messageLength wsX12_throwsIf := (goodIn_ca (goodIn_r _ [15, 1] rfl (by decide +kernel)) (goodIn_sub (fun _ h => List.mem_cons_of_mem _ (List.mem_append_left _ (List.mem_append_right _ h))) gw_wsX120))
set_option maxRecDepth 20000 in
theorem gX12_messageLength_X12_throwsIf : GoodIn wsX12_messageLength (wsV RX12 185 RX12 yX12_throwsIf wsX12_throwsIf) := goodIn_app (goodIn_m (mem_cA (List.mem_cons_of_mem _ (List.mem_append_left _ (List.mem_append_left _ (List.mem_of_getElem? (i := 11) rfl)))) (mem_cA (List.mem_cons_of_mem _ (List.mem_append_left _ (List.mem_append_left _ (List.mem_of_getElem? (i := 12) rfl)))) (mem_cA (List.mem_cons_of_mem _ (List.mem_append_left _ (List.mem_append_left _ (List.mem_of_getElem? (i := 13) rfl)))) (mem_cA (List.mem_cons_of_mem _ (List.mem_append_left _ (List.mem_append_left _ (List.mem_of_getElem? (i := 5) rfl)))) mem_cZ)))) (by decide +kernel)) ggX12_messageLength_X12_throwsIf
theorem dX12_messageLength_0 : decode cX12_messageLength 0 = .ok (.aload_n 0, 1) := by decide +kernel
theorem dX12_messageLength_1 : decode cX12_messageLength 1 = .ok (.iconst 0, 1) := by decide +kernel
theorem dX12_messageLength_2 : decode cX12_messageLength 2 = .ok (.putfield 1, 3) := by decide +kernel
theorem dX12_messageLength_5 : decode cX12_messageLength 5 = .ok (.aload_n 0, 1) := by decide +kernel
theorem dX12_messageLength_6 : decode cX12_messageLength 6 = .ok (.aload_n 0, 1) := by decide +kernel
theorem dX12_messageLength_7 : decode cX12_messageLength 7 = .ok (.iload_n 1, 1) := by decide +kernel
theorem dX12_messageLength_8 : decode cX12_messageLength 8 = .ok (.invokevirtual 311, 3) := by decide +kernel
theorem dX12_messageLength_11 : decode cX12_messageLength 11 = .ok (.ifCond .ne 7, 3) := by decide +kernel
theorem dX12_messageLength_14 : decode cX12_messageLength 14 = .ok (.iconst 1, 1) := by decide +kernel
theorem dX12_messageLength_15 : decode cX12_messageLength 15 = .ok (.goto 4, 3) := by decide +kernel
theorem dX12_messageLength_18 : decode cX12_messageLength 18 = .ok (.iconst 0, 1) := by decide +kernel
theorem dX12_messageLength_19 : decode cX12_messageLength 19 = .ok (.iconst 1, 1) := by decide +kernel
theorem dX12_messageLength_20 : decode cX12_messageLength 20 = .ok (.invokevirtual 185, 3) := by decide +kernel
theorem dX12_messageLength_23 : decode cX12_messageLength 23 = .ok (.ifCond .eq 7, 3) := by decide +kernel
theorem dX12_messageLength_26 : decode cX12_messageLength 26 = .ok (.iconst 0, 1) := by decide +kernel
theorem dX12_messageLength_27 : decode cX12_messageLength 27 = .ok (.goto 9, 3) := by decide +kernel
theorem dX12_messageLength_30 : decode cX12_messageLength 30 = .ok (.aload_n 0, 1) := by decide +kernel
theorem dX12_messageLength_31 : decode cX12_messageLength 31 = .ok (.getfield 42, 3) := by decide +kernel
theorem dX12_messageLength_34 : decode cX12_messageLength 34 = .ok (.iload_n 1, 1) := by decide +kernel
theorem dX12_messageLength_35 : decode cX12_messageLength 35 = .ok (.iaload, 1) := by decide +kernel
theorem dX12_messageLength_36 : decode cX12_messageLength 36 = .ok (.ireturn, 1) := by decide +kernel
theorem hv_X12_advance_1 : Cond.fieldLink RX12 1 "FlowExporterModel" (TX12 0).2.1 (TX12 0).2.2.1 ∈ wsX12_advance := List.mem_cons_of_mem _ (List.mem_append_left _ (List.mem_append_left _ (List.mem_append_left _ (List.mem_of_getElem? (i := 0) rfl))))

theorem hv_X12_advance_101 : Cond.fieldLink RX12 101 "FlowExporterModel" (TX12 3).2.1 (TX12 3).2.2.1 ∈ wsX12_advance := List.mem_cons_of_mem _ (List.mem_append_left _ (List.mem_append_left _ (List.mem_append_left _ (List.mem_of_getElem? (i := 2) rfl))))

theorem fq_992 : ∀ j9 : Nat, (j9 = 0) → (j9 = 0 ∨ j9 = 3 ∨ j9 = 4 ∨ j9 = 5 ∨ j9 = 6 ∨ j9 = 7 ∨ j9 = 8 ∨ j9 = 9 ∨ j9 = 10) := by
  intro j9 h
  omega

set_option maxHeartbeats 4000000 in
set_option maxRecDepth 100000 in
theorem r_advance (G : EnvG) (l : Launch) (Φ : Hm) (sz x : Nat) (rd : (Nat → Int32) → Prop) (nw : (Nat → Int32) → Prop) (fl : Nat) (le : Nat) (nx : Nat) (il : Nat) (qu : Nat) (kn : Int32) (ec : Int32) (nu : Int32) (va : Int64) (st : Nat) (ep : Int32) (ti : Int32) (ad : Int32) (ob : Int64) (a : Int32) (hx : G.2.2.2 ≤ x) (hI : Im G x (rd, nw, fl, 0, le, nx, il, qu, kn, ec, nu, va, st, ep, ti, ad, ob) Φ) (hnw : ∀ f9 : Nat → Int32, nw f9 → NN f9) : Ct G l yX12_advance wsX12_advance ({ frames := 9, cells := 0, slots := 0, locals := 197 }) 0 0 [.ref x, .int a] Φ sz (fun v Φ1 sz1 => (∃ r9 : Int32, v = some (.int r9)) ∧ sz1 = sz ∧ (∃ (fl1 : Nat) (le1 : Nat) (qu1 : Nat) (ti1 : Int32), (((1 ≤ a.toInt ∧ a.toInt ≤ 1000 ∧ ti + a ≤ 1000000) ∧ ti1 = ti + a) ∨ (¬ (1 ≤ a.toInt ∧ a.toInt ≤ 1000 ∧ ti + a ≤ 1000000) ∧ ti1 = ti)) ∧ Im G x (rd, nw, fl1, 0, le1, nx, il, qu1, kn, ec, nu, va, st, ep, ti1, ad, ob) Φ1) ∧ Fr x (fun j9 => j9 = 0 ∨ j9 = 3 ∨ j9 = 4 ∨ j9 = 5 ∨ j9 = 6 ∨ j9 = 7 ∨ j9 = 8 ∨ j9 = 9 ∨ j9 = 10) Φ Φ1) := by
  refine Ct.of (cc := cX12_advance) (maxL := 4) (ret := (some .int)) (by decide) rfl (Nat.le_of_ble_eq_true rfl) ?_
  intro p9 e9 s9 m9 w9 t9 k9 B
  show Z p9 l e9 _ s9 m9 _ w9 t9 k9 _ G 4 0 [(0, .ref x), (1, .int a)] [] Φ sz 0 0
  refine z_aload_n B dX12_advance_0 rfl 0 rfl ?_
  refine z_iconst (v := 0) B dX12_advance_1 rfl ?_
  obtain ⟨v_1, v_2, n_1, v_3, v_4, v_5, v_6, v_7, v_8, v_9, n_2, v_10, n_3, n_4, h_1, b_13, b_1, b_2, b_3, b_4, b_5, b_6, b_7, b_8, b_9, b_10, b_11, b_12⟩ := im0 hI
  replace b_1 : 1 ≤ n_1 := b_1
  replace b_2 : n_1 ≤ 1024 := b_2
  replace b_3 : fl ≤ 12 := b_3
  replace b_4 : 0 ≤ 24 := b_4
  replace b_5 : le ≤ 700 := b_5
  replace b_6 : qu ≤ 12 := b_6
  replace b_7 : n_2 ≤ 8 := b_7
  replace b_8 : n_3 ≤ 24 := b_8
  replace b_9 : n_4 ≤ 24 := b_9
  replace b_10 : il ≤ 700 := b_10
  replace b_11 : nx ≤ 701 := b_11
  replace b_12 : st ≤ 701 := b_12
  have h_2 : Φ x = some (o_ 14 [.int v_1, .ref (x + 1), .ref (x + 2), .int ti, .int v_2, .int (nI n_1), .int v_3, .int ad, .ref (x + 3), .ref (x + 4), .int v_4, .long v_5, .ref (x + 5), .int (nI fl), .int v_6, .long ob, .long v_7, .long v_8, .long v_9, .ref (x + 6), .ref (x + 7), .int (nI 0), .ref (x + 8), .int (nI le), .ref (x + 9), .ref (x + 10), .int (nI qu), .ref (x + 11), .ref (x + 12), .ref (x + 13), .ref (x + 14), .ref (x + 15), .ref (x + 16), .int (nI n_2), .long v_10, .ref (x + 17), .ref (x + 18), .ref (x + 19), .ref (x + 20), .ref (x + 21), .ref (x + 22), .int (nI n_3), .ref (x + 23), .ref (x + 24), .int (nI n_4), .ref (x + 25), .int (nI il), .int (nI nx), .int ec, .int ep, .int kn, .int (nI st), .int nu, .long va]) := h_1
  refine z_put (ref := "FlowExporterModel") (C := RX12) (T := TX12) (N := 54) (ci := 14) (v := .int 0) B hu_X12_advance_X12 tyX12 tyX12_ok nmX12 rfl 0 (Nat.le_of_ble_eq_true rfl) hv_X12_advance_1 rfl (Or.inl rfl) h_2 hx rfl rfl (Nat.le_of_ble_eq_true rfl) dX12_advance_2 (fun Φ1 hΦ1 => ?_)
  have h_3 : Φ1 x = some (o_ 14 [.int 0, .ref (x + 1), .ref (x + 2), .int ti, .int v_2, .int (nI n_1), .int v_3, .int ad, .ref (x + 3), .ref (x + 4), .int v_4, .long v_5, .ref (x + 5), .int (nI fl), .int v_6, .long ob, .long v_7, .long v_8, .long v_9, .ref (x + 6), .ref (x + 7), .int (nI 0), .ref (x + 8), .int (nI le), .ref (x + 9), .ref (x + 10), .int (nI qu), .ref (x + 11), .ref (x + 12), .ref (x + 13), .ref (x + 14), .ref (x + 15), .ref (x + 16), .int (nI n_2), .long v_10, .ref (x + 17), .ref (x + 18), .ref (x + 19), .ref (x + 20), .ref (x + 21), .ref (x + 22), .int (nI n_3), .ref (x + 23), .ref (x + 24), .int (nI n_4), .ref (x + 25), .int (nI il), .int (nI nx), .int ec, .int ep, .int kn, .int (nI st), .int nu, .long va]) := fset_at hΦ1
  have hI1 : Im G x (rd, nw, fl, 0, le, nx, il, qu, kn, ec, nu, va, st, ep, ti, ad, ob) Φ1 := Im.put0 hI hΦ1 ⟨0, v_2, n_1, v_3, v_4, v_5, v_6, v_7, v_8, v_9, n_2, v_10, n_3, n_4, rfl, b_13, b_1, b_2, b_3, b_4, b_5, b_6, b_7, b_8, b_9, b_10, b_11, b_12⟩
  refine z_aload_n B dX12_advance_5 rfl 0 rfl ?_
  refine z_iload_n B dX12_advance_6 rfl 1 rfl ?_
  refine z_i2l (v := a.toInt64) B dX12_advance_7 rfl ?_
  refine z_lconst (v := 1) B dX12_advance_8 rfl ?_
  refine z_ldc2 (v := 1000) B (by decide +kernel) dX12_advance_9 ?_
  by_cases hR1 : inP a.toInt64 1 1000
  · obtain ⟨n_5, e_1, e_2, e_3, rfl⟩ := in_get (L := 1) (H := 1000) (by decide) (by decide) hR1
    refine z_callS (As := [.long ((nI n_5).toInt64), .long 1, .long 1000]) (rest := [.ref x]) B (c_inR1 G l Φ1 sz ((nI n_5).toInt64) 1 1000 hR1 (fun v8 Φ8 sz8 => v8 = some (.int 1) ∧ sz8 = sz ∧ Im G x (rd, nw, fl, 0, le, nx, il, qu, kn, ec, nu, va, st, ep, ti, ad, ob) Φ8 ∧ Fr x (fun j9 => False) Φ1 Φ8) ⟨rfl, rfl, hI1, fun _ _ => rfl⟩) (va_cwS 3 B.1.2.2.2.2 gX12_advance_X12_inRange rfl rfl rfl (by decide +kernel) ⟨Nat.le_of_ble_eq_true rfl, Nat.le_of_ble_eq_true rfl⟩) rfl rfl (Nat.le_of_ble_eq_true rfl) dX12_advance_12 ⟨Nat.le_of_ble_eq_true rfl, Nat.le_of_ble_eq_true rfl⟩ (fun r_1 Φ2 sz1 st1 hp1 hs1 => ?_)
    obtain ⟨rfl, hq1, hI2, hF1⟩ := hp1
    subst sz1
    replace hs1 : st1 = [.int 1, .ref x] := hs1
    subst st1
    refine z_if_ne (tgt := 22) B dX12_advance_15 rfl (fun c_1 => ?_) (fun h9 => absurd h9 (by decide))
    refine z_iconst (v := 0) B dX12_advance_22 rfl ?_
    refine z_iconst (v := 1) B dX12_advance_23 rfl ?_
    have h_4 : Φ2 x = some (o_ 14 [.int 0, .ref (x + 1), .ref (x + 2), .int ti, .int v_2, .int (nI n_1), .int v_3, .int ad, .ref (x + 3), .ref (x + 4), .int v_4, .long v_5, .ref (x + 5), .int (nI fl), .int v_6, .long ob, .long v_7, .long v_8, .long v_9, .ref (x + 6), .ref (x + 7), .int (nI 0), .ref (x + 8), .int (nI le), .ref (x + 9), .ref (x + 10), .int (nI qu), .ref (x + 11), .ref (x + 12), .ref (x + 13), .ref (x + 14), .ref (x + 15), .ref (x + 16), .int (nI n_2), .long v_10, .ref (x + 17), .ref (x + 18), .ref (x + 19), .ref (x + 20), .ref (x + 21), .ref (x + 22), .int (nI n_3), .ref (x + 23), .ref (x + 24), .int (nI n_4), .ref (x + 25), .int (nI il), .int (nI nx), .int ec, .int ep, .int kn, .int (nI st), .int nu, .long va]) := ((hF1 x (fun j9 h8 h7 => (show False from h7).elim)).trans h_3)
    refine z_callV (As := [.int 0, .int 1]) (rest := []) B (r_throwsIf G l Φ2 sz x rd nw fl 0 le nx il qu kn ec nu va st ep ti ad ob 0 1 hx hI2 (by decide) hnw) (cwV 2 B.1.2.2.2.2 gX12_advance_X12_throwsIf rfl rfl rfl (by decide +kernel) ⟨Nat.le_of_ble_eq_true rfl, Nat.le_of_ble_eq_true rfl⟩) h_4 rfl rfl rfl rfl (Nat.le_of_ble_eq_true rfl) dX12_advance_24 ⟨Nat.le_of_ble_eq_true rfl, Nat.le_of_ble_eq_true rfl⟩ (fun r_2 Φ3 sz2 st2 hp2 hs2 => ?_)
    obtain ⟨rfl, hq2, hI3, hF2⟩ := hp2
    subst sz2
    replace hs2 : st2 = [.int 0] := hs2
    subst st2
    replace hI3 : Im G x (rd, nw, fl, 0, le, nx, il, qu, kn, ec, nu, va, st, ep, ti, ad, ob) Φ3 := hI3
    refine z_if_ne (tgt := 55) B dX12_advance_27 rfl (fun h9 => absurd (by decide) h9) (fun c_2 => ?_)
    refine z_aload_n B dX12_advance_30 rfl 0 rfl ?_
    refine z_aload_n B dX12_advance_31 rfl 0 rfl ?_
    obtain ⟨v_11, v_12, n_6, v_13, v_14, v_15, v_16, v_17, v_18, v_19, n_7, v_20, n_8, n_9, h_5, b_26, b_14, b_15, b_16, b_17, b_18, b_19, b_20, b_21, b_22, b_23, b_24, b_25⟩ := im0 hI3
    replace b_14 : 1 ≤ n_6 := b_14
    replace b_15 : n_6 ≤ 1024 := b_15
    replace b_16 : fl ≤ 12 := b_16
    replace b_17 : 0 ≤ 24 := b_17
    replace b_18 : le ≤ 700 := b_18
    replace b_19 : qu ≤ 12 := b_19
    replace b_20 : n_7 ≤ 8 := b_20
    replace b_21 : n_8 ≤ 24 := b_21
    replace b_22 : n_9 ≤ 24 := b_22
    replace b_23 : il ≤ 700 := b_23
    replace b_24 : nx ≤ 701 := b_24
    replace b_25 : st ≤ 701 := b_25
    have h_6 : Φ3 x = some (o_ 14 [.int v_11, .ref (x + 1), .ref (x + 2), .int ti, .int v_12, .int (nI n_6), .int v_13, .int ad, .ref (x + 3), .ref (x + 4), .int v_14, .long v_15, .ref (x + 5), .int (nI fl), .int v_16, .long ob, .long v_17, .long v_18, .long v_19, .ref (x + 6), .ref (x + 7), .int (nI 0), .ref (x + 8), .int (nI le), .ref (x + 9), .ref (x + 10), .int (nI qu), .ref (x + 11), .ref (x + 12), .ref (x + 13), .ref (x + 14), .ref (x + 15), .ref (x + 16), .int (nI n_7), .long v_20, .ref (x + 17), .ref (x + 18), .ref (x + 19), .ref (x + 20), .ref (x + 21), .ref (x + 22), .int (nI n_8), .ref (x + 23), .ref (x + 24), .int (nI n_9), .ref (x + 25), .int (nI il), .int (nI nx), .int ec, .int ep, .int kn, .int (nI st), .int nu, .long va]) := h_5
    refine z_get (ref := "FlowExporterModel") (C := RX12) (T := TX12) (N := 54) (ci := 14) (v := .int ti) B hu_X12_advance_X12 rfl 3 (Nat.le_of_ble_eq_true rfl) hv_X12_advance_101 rfl h_6 rfl dX12_advance_32 ?_
    refine z_iload_n B dX12_advance_35 rfl 1 rfl ?_
    refine z_iadd B dX12_advance_36 ?_
    refine z_ldcw (v := 1000000) B (by decide +kernel) dX12_advance_37 ?_
    refine z_icmp_le (tgt := 47) B dX12_advance_40 rfl (fun c_3 => ?_) (fun c_3 => ?_)
    · refine z_iconst (v := 0) B dX12_advance_47 rfl ?_
      refine z_iconst (v := 2) B dX12_advance_48 rfl ?_
      refine z_callV (As := [.int 0, .int 2]) (rest := []) B (r_throwsIf G l Φ3 sz x rd nw fl 0 le nx il qu kn ec nu va st ep ti ad ob 0 2 hx hI3 (by decide) hnw) (cwV 2 B.1.2.2.2.2 gX12_advance_X12_throwsIf rfl rfl rfl (by decide +kernel) ⟨Nat.le_of_ble_eq_true rfl, Nat.le_of_ble_eq_true rfl⟩) h_6 rfl rfl rfl rfl (Nat.le_of_ble_eq_true rfl) dX12_advance_49 ⟨Nat.le_of_ble_eq_true rfl, Nat.le_of_ble_eq_true rfl⟩ (fun r_3 Φ4 sz3 st3 hp3 hs3 => ?_)
      obtain ⟨rfl, hq3, hI4, hF3⟩ := hp3
      subst sz3
      replace hs3 : st3 = [.int 0] := hs3
      subst st3
      replace hI4 : Im G x (rd, nw, fl, 0, le, nx, il, qu, kn, ec, nu, va, st, ep, ti, ad, ob) Φ4 := hI4
      refine z_if_eq (tgt := 57) B dX12_advance_52 rfl (fun c_4 => ?_) (fun h9 => absurd (by decide) h9)
      refine z_iconst (v := 0) B dX12_advance_57 rfl ?_
      refine z_istore_n (lv' := [(2, .int 0), (0, .ref x), (1, .int (nI n_5))]) B dX12_advance_58 rfl (Nat.le_of_ble_eq_true rfl) rfl ?_
      refine z_iconst (v := 0) B dX12_advance_59 rfl ?_
      refine z_istore_n (lv' := [(3, .int 0), (2, .int 0), (0, .ref x), (1, .int (nI n_5))]) B dX12_advance_60 rfl (Nat.le_of_ble_eq_true rfl) rfl ?_
      refine z_lv [0, 1, 2, 3] rfl ?_
      refine z_loop (α := Nat × Int32 × Nat × Nat × Nat × Int32) (fun (a9 : Nat × Int32 × Nat × Nat × Nat × Int32) Φi => Im G x (rd, nw, a9.2.2.1, 0, a9.2.2.2.1, nx, il, a9.2.2.2.2.1, kn, ec, nu, va, st, ep, a9.2.2.2.2.2, ad, ob) Φi ∧ Fr x (fun j9 => j9 = 0 ∨ j9 = 3 ∨ j9 = 4 ∨ j9 = 5 ∨ j9 = 6 ∨ j9 = 7 ∨ j9 = 8 ∨ j9 = 9 ∨ j9 = 10) Φ4 Φi ∧ (a9.1 ≤ n_5) ∧ (a9.2.2.2.2.2 = ti + nI a9.1) ∧ True) (fun a9 => [(3, .int (nI (a9.1))), (2, .int a9.2.1), (0, .ref x), (1, .int (nI n_5))]) (fun a9 => n_5 - a9.1) ?_ (0, 0, fl, le, qu, ti) ⟨hI4, fun _ _ => rfl, (show 0 ≤ n_5 by omega), nadd_0, trivial⟩
      rintro ⟨i_1, i_2, i_3, i_4, i_5, i_6⟩ Φl1 ⟨hI5, hF4, b_27, b_28, -⟩ ih1
      replace hI5 : Im G x (rd, nw, i_3, 0, i_4, nx, il, i_5, kn, ec, nu, va, st, ep, i_6, ad, ob) Φl1 := hI5
      replace b_27 : i_1 ≤ n_5 := b_27
      replace b_28 : i_6 = ti + nI i_1 := b_28
      show Z p9 l e9 _ s9 m9 _ w9 t9 k9 _ G 4 61 [(3, .int (nI i_1)), (2, .int i_2), (0, .ref x), (1, .int (nI n_5))] [] Φl1 _ _ _
      refine z_iload_n B dX12_advance_61 rfl 0 rfl ?_
      refine z_iload_n B dX12_advance_62 rfl 3 rfl ?_
      refine z_icmp_ge (tgt := 79) B dX12_advance_63 rfl (fun c_5 => ?_) (fun c_5 => ?_)
      · have e_4 : n_5 ≤ i_1 := (nI_leI (a := n_5) (b := i_1) (by omega) (by omega)).mp c_5
        refine z_iload_n B dX12_advance_79 rfl 1 rfl ?_
        have k_1 : (nI n_5).toInt = ((n_5 : Nat) : Int) := nI_toInt (by omega)
        exact z_ret_i B dX12_advance_80 ⟨⟨_, rfl⟩, rfl, ⟨i_3, i_4, i_5, i_6, (Or.inl ⟨⟨by omega, by omega, c_3⟩, b_28.trans (congrArg (fun w9 : Nat => ti + nI w9) (show i_1 = n_5 by omega))⟩), hI5⟩, (fun b9 h9 => ((hF4 b9 h9).trans ((hF3 b9 (fun j9 h8 h7 => h9 j9 h8 (fq_992 j9 h7))).trans ((hF2 b9 (fun j9 h8 h7 => h9 j9 h8 (fq_992 j9 h7))).trans ((hF1 b9 (fun j9 h8 h7 => (show False from h7).elim)).trans ((fset_fr hΦ1 (fun h8 => h9 (0) h8 (show 0 = 0 ∨ 0 = 3 ∨ 0 = 4 ∨ 0 = 5 ∨ 0 = 6 ∨ 0 = 7 ∨ 0 = 8 ∨ 0 = 9 ∨ 0 = 10 by decide))).trans rfl))))))⟩
      · have e_5 : ¬ (n_5 ≤ i_1) := fun h9 => c_5 ((nI_leI (a := n_5) (b := i_1) (by omega) (by omega)).mpr h9)
        refine z_iload_n B dX12_advance_66 rfl 1 rfl ?_
        refine z_aload_n B dX12_advance_67 rfl 2 rfl ?_
        obtain ⟨v_21, v_22, n_10, v_23, v_24, v_25, v_26, v_27, v_28, v_29, n_11, v_30, n_12, n_13, h_7, b_41, b_29, b_30, b_31, b_32, b_33, b_34, b_35, b_36, b_37, b_38, b_39, b_40⟩ := im0 hI5
        replace b_29 : 1 ≤ n_10 := b_29
        replace b_30 : n_10 ≤ 1024 := b_30
        replace b_31 : i_3 ≤ 12 := b_31
        replace b_32 : 0 ≤ 24 := b_32
        replace b_33 : i_4 ≤ 700 := b_33
        replace b_34 : i_5 ≤ 12 := b_34
        replace b_35 : n_11 ≤ 8 := b_35
        replace b_36 : n_12 ≤ 24 := b_36
        replace b_37 : n_13 ≤ 24 := b_37
        replace b_38 : il ≤ 700 := b_38
        replace b_39 : nx ≤ 701 := b_39
        replace b_40 : st ≤ 701 := b_40
        have h_8 : Φl1 x = some (o_ 14 [.int v_21, .ref (x + 1), .ref (x + 2), .int i_6, .int v_22, .int (nI n_10), .int v_23, .int ad, .ref (x + 3), .ref (x + 4), .int v_24, .long v_25, .ref (x + 5), .int (nI i_3), .int v_26, .long ob, .long v_27, .long v_28, .long v_29, .ref (x + 6), .ref (x + 7), .int (nI 0), .ref (x + 8), .int (nI i_4), .ref (x + 9), .ref (x + 10), .int (nI i_5), .ref (x + 11), .ref (x + 12), .ref (x + 13), .ref (x + 14), .ref (x + 15), .ref (x + 16), .int (nI n_11), .long v_30, .ref (x + 17), .ref (x + 18), .ref (x + 19), .ref (x + 20), .ref (x + 21), .ref (x + 22), .int (nI n_12), .ref (x + 23), .ref (x + 24), .int (nI n_13), .ref (x + 25), .int (nI il), .int (nI nx), .int ec, .int ep, .int kn, .int (nI st), .int nu, .long va]) := h_7
        refine z_callV (As := []) (rest := [.int i_2]) B (r_tick G l Φl1 sz x rd nw i_3 i_4 nx il i_5 kn ec nu va st ep i_6 ad ob  hx hI5 hnw) (cwV 0 B.1.2.2.2.2 gX12_advance_X12_tick rfl rfl rfl (by decide +kernel) ⟨Nat.le_of_ble_eq_true rfl, Nat.le_of_ble_eq_true rfl⟩) h_8 rfl rfl rfl rfl (Nat.le_of_ble_eq_true rfl) dX12_advance_68 ⟨Nat.le_of_ble_eq_true rfl, Nat.le_of_ble_eq_true rfl⟩ (fun r_4 Φ5 sz4 st4 hp4 hs4 => ?_)
        obtain ⟨⟨v_31, rfl⟩, hq4, ⟨n_14, n_15, n_16, hI6⟩, hF5⟩ := hp4
        subst sz4
        replace hs4 : st4 = [.int v_31, .int i_2] := hs4
        subst st4
        replace hI6 : Im G x (rd, nw, n_14, 0, n_15, nx, il, n_16, kn, ec, nu, va, st, ep, i_6 + 1, ad, ob) Φ5 := hI6
        refine z_iadd B dX12_advance_71 ?_
        refine z_fi (fun v_32 => ?_)
        refine z_istore_n (lv' := [(2, .int v_32), (3, .int (nI i_1)), (0, .ref x), (1, .int (nI n_5))]) B dX12_advance_72 rfl (Nat.le_of_ble_eq_true rfl) rfl ?_
        refine z_iinc (k := 1) (v := nI (i_1 + 1)) (lv' := [(3, .int (nI (i_1 + 1))), (2, .int v_32), (0, .ref x), (1, .int (nI n_5))]) B dX12_advance_73 rfl (nI_add i_1 1) (Nat.le_of_ble_eq_true rfl) rfl ?_
        refine z_goto (tgt := 61) B dX12_advance_76 rfl ?_
        refine z_lv [0, 1, 2, 3] rfl ?_
        exact ih1 (i_1 + 1, v_32, n_14, n_15, n_16, i_6 + 1) Φ5 (show n_5 - (i_1 + 1) < n_5 - i_1 by omega) ⟨hI6, (fun b9 h9 => ((hF5 b9 h9).trans ((hF4 b9 h9).trans rfl))), (show (i_1 + 1) ≤ n_5 by omega), ((congrArg (fun w9 : Int32 => w9 + 1) b_28).trans (nadd ti i_1)), trivial⟩
    · refine z_iconst (v := 1) B dX12_advance_43 rfl ?_
      refine z_goto (tgt := 48) B dX12_advance_44 rfl ?_
      refine z_iconst (v := 2) B dX12_advance_48 rfl ?_
      refine z_callV (As := [.int 1, .int 2]) (rest := []) B (r_throwsIf G l Φ3 sz x rd nw fl 0 le nx il qu kn ec nu va st ep ti ad ob 1 2 hx hI3 (by decide) hnw) (cwV 2 B.1.2.2.2.2 gX12_advance_X12_throwsIf rfl rfl rfl (by decide +kernel) ⟨Nat.le_of_ble_eq_true rfl, Nat.le_of_ble_eq_true rfl⟩) h_6 rfl rfl rfl rfl (Nat.le_of_ble_eq_true rfl) dX12_advance_49 ⟨Nat.le_of_ble_eq_true rfl, Nat.le_of_ble_eq_true rfl⟩ (fun r_5 Φ6 sz5 st5 hp5 hs5 => ?_)
      obtain ⟨rfl, hq5, hI7, hF6⟩ := hp5
      subst sz5
      replace hs5 : st5 = [.int 1] := hs5
      subst st5
      replace hI7 : Im G x (rd, nw, fl, 0, le, nx, il, qu, kn, ec, nu, va, st, ep, ti, ad, ob) Φ6 := hI7
      refine z_if_eq (tgt := 57) B dX12_advance_52 rfl (fun h9 => absurd h9 (by decide)) (fun c_6 => ?_)
      refine z_iconst (v := 0) B dX12_advance_55 rfl ?_
      exact z_ret_i B dX12_advance_56 ⟨⟨_, rfl⟩, rfl, ⟨fl, le, qu, ti, (Or.inr ⟨fun h9 => c_3 h9.2.2, rfl⟩), hI7⟩, (fun b9 h9 => ((hF6 b9 (fun j9 h8 h7 => h9 j9 h8 (fq_992 j9 h7))).trans ((hF2 b9 (fun j9 h8 h7 => h9 j9 h8 (fq_992 j9 h7))).trans ((hF1 b9 (fun j9 h8 h7 => (show False from h7).elim)).trans ((fset_fr hΦ1 (fun h8 => h9 (0) h8 (show 0 = 0 ∨ 0 = 3 ∨ 0 = 4 ∨ 0 = 5 ∨ 0 = 6 ∨ 0 = 7 ∨ 0 = 8 ∨ 0 = 9 ∨ 0 = 10 by decide))).trans rfl)))))⟩
  · have q_1 : ¬ (1 ≤ a.toInt ∧ a.toInt ≤ 1000) := fun h9 => hR1 ((inP_i (by decide) (by decide)).mpr h9)
    refine z_callS (As := [.long a.toInt64, .long 1, .long 1000]) (rest := [.ref x]) B (c_inR0 G l Φ1 sz a.toInt64 1 1000 hR1 (fun v8 Φ8 sz8 => v8 = some (.int 0) ∧ sz8 = sz ∧ Im G x (rd, nw, fl, 0, le, nx, il, qu, kn, ec, nu, va, st, ep, ti, ad, ob) Φ8 ∧ Fr x (fun j9 => False) Φ1 Φ8) ⟨rfl, rfl, hI1, fun _ _ => rfl⟩) (va_cwS 3 B.1.2.2.2.2 gX12_advance_X12_inRange rfl rfl rfl (by decide +kernel) ⟨Nat.le_of_ble_eq_true rfl, Nat.le_of_ble_eq_true rfl⟩) rfl rfl (Nat.le_of_ble_eq_true rfl) dX12_advance_12 ⟨Nat.le_of_ble_eq_true rfl, Nat.le_of_ble_eq_true rfl⟩ (fun r_6 Φ7 sz6 st6 hp6 hs6 => ?_)
    obtain ⟨rfl, hq6, hI8, hF7⟩ := hp6
    subst sz6
    replace hs6 : st6 = [.int 0, .ref x] := hs6
    subst st6
    refine z_if_ne (tgt := 22) B dX12_advance_15 rfl (fun h9 => absurd (by decide) h9) (fun c_7 => ?_)
    refine z_iconst (v := 1) B dX12_advance_18 rfl ?_
    refine z_goto (tgt := 23) B dX12_advance_19 rfl ?_
    refine z_iconst (v := 1) B dX12_advance_23 rfl ?_
    have h_9 : Φ7 x = some (o_ 14 [.int 0, .ref (x + 1), .ref (x + 2), .int ti, .int v_2, .int (nI n_1), .int v_3, .int ad, .ref (x + 3), .ref (x + 4), .int v_4, .long v_5, .ref (x + 5), .int (nI fl), .int v_6, .long ob, .long v_7, .long v_8, .long v_9, .ref (x + 6), .ref (x + 7), .int (nI 0), .ref (x + 8), .int (nI le), .ref (x + 9), .ref (x + 10), .int (nI qu), .ref (x + 11), .ref (x + 12), .ref (x + 13), .ref (x + 14), .ref (x + 15), .ref (x + 16), .int (nI n_2), .long v_10, .ref (x + 17), .ref (x + 18), .ref (x + 19), .ref (x + 20), .ref (x + 21), .ref (x + 22), .int (nI n_3), .ref (x + 23), .ref (x + 24), .int (nI n_4), .ref (x + 25), .int (nI il), .int (nI nx), .int ec, .int ep, .int kn, .int (nI st), .int nu, .long va]) := ((hF7 x (fun j9 h8 h7 => (show False from h7).elim)).trans h_3)
    refine z_callV (As := [.int 1, .int 1]) (rest := []) B (r_throwsIf G l Φ7 sz x rd nw fl 0 le nx il qu kn ec nu va st ep ti ad ob 1 1 hx hI8 (by decide) hnw) (cwV 2 B.1.2.2.2.2 gX12_advance_X12_throwsIf rfl rfl rfl (by decide +kernel) ⟨Nat.le_of_ble_eq_true rfl, Nat.le_of_ble_eq_true rfl⟩) h_9 rfl rfl rfl rfl (Nat.le_of_ble_eq_true rfl) dX12_advance_24 ⟨Nat.le_of_ble_eq_true rfl, Nat.le_of_ble_eq_true rfl⟩ (fun r_7 Φ8 sz7 st7 hp7 hs7 => ?_)
    obtain ⟨rfl, hq7, hI9, hF8⟩ := hp7
    subst sz7
    replace hs7 : st7 = [.int 1] := hs7
    subst st7
    replace hI9 : Im G x (rd, nw, fl, 0, le, nx, il, qu, kn, ec, nu, va, st, ep, ti, ad, ob) Φ8 := hI9
    refine z_if_ne (tgt := 55) B dX12_advance_27 rfl (fun c_8 => ?_) (fun h9 => absurd h9 (by decide))
    refine z_iconst (v := 0) B dX12_advance_55 rfl ?_
    exact z_ret_i B dX12_advance_56 ⟨⟨_, rfl⟩, rfl, ⟨fl, le, qu, ti, (Or.inr ⟨fun h9 => by omega, rfl⟩), hI9⟩, (fun b9 h9 => ((hF8 b9 (fun j9 h8 h7 => h9 j9 h8 (fq_992 j9 h7))).trans ((hF7 b9 (fun j9 h8 h7 => (show False from h7).elim)).trans ((fset_fr hΦ1 (fun h8 => h9 (0) h8 (show 0 = 0 ∨ 0 = 3 ∨ 0 = 4 ∨ 0 = 5 ∨ 0 = 6 ∨ 0 = 7 ∨ 0 = 8 ∨ 0 = 9 ∨ 0 = 10 by decide))).trans rfl))))⟩

theorem hu_X12_cached_X12 : ∀ w ∈ u_ws RX12 TX12 54, w ∈ wsX12_cached := fun _ h => List.mem_cons_of_mem _ (List.mem_append_left _ (List.mem_append_right _ (h)))

theorem hv_X12_cached_1 : Cond.fieldLink RX12 1 "FlowExporterModel" (TX12 0).2.1 (TX12 0).2.2.1 ∈ wsX12_cached := List.mem_cons_of_mem _ (List.mem_append_left _ (List.mem_append_left _ (List.mem_of_getElem? (i := 0) rfl)))

theorem hv_X12_cached_133 : Cond.fieldLink RX12 133 "FlowExporterModel" (TX12 13).2.1 (TX12 13).2.2.1 ∈ wsX12_cached := List.mem_cons_of_mem _ (List.mem_append_left _ (List.mem_append_left _ (List.mem_of_getElem? (i := 1) rfl)))

theorem hv_X12_cached_26 : Cond.fieldLink RX12 26 "FlowExporterModel" (TX12 12).2.1 (TX12 12).2.2.1 ∈ wsX12_cached := List.mem_cons_of_mem _ (List.mem_append_left _ (List.mem_append_left _ (List.mem_of_getElem? (i := 3) rfl)))

set_option maxHeartbeats 4000000 in
set_option maxRecDepth 100000 in
theorem r_cached (G : EnvG) (l : Launch) (Φ : Hm) (sz x : Nat) (rd : (Nat → Int32) → Prop) (nw : (Nat → Int32) → Prop) (fl : Nat) (pe : Nat) (le : Nat) (nx : Nat) (il : Nat) (qu : Nat) (kn : Int32) (ec : Int32) (nu : Int32) (va : Int64) (st : Nat) (ep : Int32) (ti : Int32) (ad : Int32) (ob : Int64) (a : Int32) (b : Int32) (hx : G.2.2.2 ≤ x) (hI : Im G x (rd, nw, fl, pe, le, nx, il, qu, kn, ec, nu, va, st, ep, ti, ad, ob) Φ) (hnw : ∀ f9 : Nat → Int32, nw f9 → NN f9) : Ct G l yX12_cached wsX12_cached ({ frames := 1, cells := 0, slots := 0, locals := 25 }) 0 0 [.ref x, .int a, .int b] Φ sz (fun v Φ1 sz1 => (∃ r9 : Int64, v = some (.long r9)) ∧ sz1 = sz ∧ (Im G x (rd, nw, fl, pe, le, nx, il, qu, kn, ec, nu, va, st, ep, ti, ad, ob) Φ1) ∧ Fr x (fun j9 => j9 = 0) Φ Φ1) := by
  refine Ct.of (cc := cX12_cached) (maxL := 3) (ret := (some .long)) (by decide) rfl (Nat.le_of_ble_eq_true rfl) ?_
  intro p9 e9 s9 m9 w9 t9 k9 B
  show Z p9 l e9 _ s9 m9 _ w9 t9 k9 _ G 3 0 [(0, .ref x), (1, .int a), (2, .int b)] [] Φ sz 0 0
  refine z_aload_n B dX12_cached_0 rfl 0 rfl ?_
  refine z_iconst (v := 0) B dX12_cached_1 rfl ?_
  obtain ⟨v_1, v_2, n_1, v_3, v_4, v_5, v_6, v_7, v_8, v_9, n_2, v_10, n_3, n_4, h_1, b_13, b_1, b_2, b_3, b_4, b_5, b_6, b_7, b_8, b_9, b_10, b_11, b_12⟩ := im0 hI
  replace b_1 : 1 ≤ n_1 := b_1
  replace b_2 : n_1 ≤ 1024 := b_2
  replace b_3 : fl ≤ 12 := b_3
  replace b_4 : pe ≤ 24 := b_4
  replace b_5 : le ≤ 700 := b_5
  replace b_6 : qu ≤ 12 := b_6
  replace b_7 : n_2 ≤ 8 := b_7
  replace b_8 : n_3 ≤ 24 := b_8
  replace b_9 : n_4 ≤ 24 := b_9
  replace b_10 : il ≤ 700 := b_10
  replace b_11 : nx ≤ 701 := b_11
  replace b_12 : st ≤ 701 := b_12
  have h_2 : Φ x = some (o_ 14 [.int v_1, .ref (x + 1), .ref (x + 2), .int ti, .int v_2, .int (nI n_1), .int v_3, .int ad, .ref (x + 3), .ref (x + 4), .int v_4, .long v_5, .ref (x + 5), .int (nI fl), .int v_6, .long ob, .long v_7, .long v_8, .long v_9, .ref (x + 6), .ref (x + 7), .int (nI pe), .ref (x + 8), .int (nI le), .ref (x + 9), .ref (x + 10), .int (nI qu), .ref (x + 11), .ref (x + 12), .ref (x + 13), .ref (x + 14), .ref (x + 15), .ref (x + 16), .int (nI n_2), .long v_10, .ref (x + 17), .ref (x + 18), .ref (x + 19), .ref (x + 20), .ref (x + 21), .ref (x + 22), .int (nI n_3), .ref (x + 23), .ref (x + 24), .int (nI n_4), .ref (x + 25), .int (nI il), .int (nI nx), .int ec, .int ep, .int kn, .int (nI st), .int nu, .long va]) := h_1
  refine z_put (ref := "FlowExporterModel") (C := RX12) (T := TX12) (N := 54) (ci := 14) (v := .int 0) B hu_X12_cached_X12 tyX12 tyX12_ok nmX12 rfl 0 (Nat.le_of_ble_eq_true rfl) hv_X12_cached_1 rfl (Or.inl rfl) h_2 hx rfl rfl (Nat.le_of_ble_eq_true rfl) dX12_cached_2 (fun Φ1 hΦ1 => ?_)
  have h_3 : Φ1 x = some (o_ 14 [.int 0, .ref (x + 1), .ref (x + 2), .int ti, .int v_2, .int (nI n_1), .int v_3, .int ad, .ref (x + 3), .ref (x + 4), .int v_4, .long v_5, .ref (x + 5), .int (nI fl), .int v_6, .long ob, .long v_7, .long v_8, .long v_9, .ref (x + 6), .ref (x + 7), .int (nI pe), .ref (x + 8), .int (nI le), .ref (x + 9), .ref (x + 10), .int (nI qu), .ref (x + 11), .ref (x + 12), .ref (x + 13), .ref (x + 14), .ref (x + 15), .ref (x + 16), .int (nI n_2), .long v_10, .ref (x + 17), .ref (x + 18), .ref (x + 19), .ref (x + 20), .ref (x + 21), .ref (x + 22), .int (nI n_3), .ref (x + 23), .ref (x + 24), .int (nI n_4), .ref (x + 25), .int (nI il), .int (nI nx), .int ec, .int ep, .int kn, .int (nI st), .int nu, .long va]) := fset_at hΦ1
  have hI1 : Im G x (rd, nw, fl, pe, le, nx, il, qu, kn, ec, nu, va, st, ep, ti, ad, ob) Φ1 := Im.put0 hI hΦ1 ⟨0, v_2, n_1, v_3, v_4, v_5, v_6, v_7, v_8, v_9, n_2, v_10, n_3, n_4, rfl, b_13, b_1, b_2, b_3, b_4, b_5, b_6, b_7, b_8, b_9, b_10, b_11, b_12⟩
  refine z_aload_n B dX12_cached_5 rfl 0 rfl ?_
  refine z_iload_n B dX12_cached_6 rfl 1 rfl ?_
  refine z_i2l (v := a.toInt64) B dX12_cached_7 rfl ?_
  refine z_lconst (v := 0) B dX12_cached_8 rfl ?_
  refine z_aload_n B dX12_cached_9 rfl 0 rfl ?_
  refine z_get (ref := "FlowExporterModel") (C := RX12) (T := TX12) (N := 54) (ci := 14) (v := .int (nI fl)) B hu_X12_cached_X12 rfl 13 (Nat.le_of_ble_eq_true rfl) hv_X12_cached_133 rfl h_3 rfl dX12_cached_10 ?_
  refine z_iconst (v := 1) B dX12_cached_13 rfl ?_
  refine z_isub B dX12_cached_14 ?_
  refine z_i2l (v := (nI fl - 1).toInt64) B dX12_cached_15 rfl ?_
  by_cases hR1 : inP a.toInt64 0 ((nI fl - 1).toInt64)
  · obtain ⟨n_5, e_1, e_2, e_3, rfl⟩ := in_get (L := 0) (H := ((fl : Nat) : Int) - 1) (by decide) (predL (by omega)) hR1
    refine z_callS (As := [.long ((nI n_5).toInt64), .long 0, .long ((nI fl - 1).toInt64)]) (rest := [.ref x]) B (c_inR1 G l Φ1 sz ((nI n_5).toInt64) 0 ((nI fl - 1).toInt64) hR1 (fun v8 Φ8 sz8 => v8 = some (.int 1) ∧ sz8 = sz ∧ Im G x (rd, nw, fl, pe, le, nx, il, qu, kn, ec, nu, va, st, ep, ti, ad, ob) Φ8 ∧ Fr x (fun j9 => False) Φ1 Φ8) ⟨rfl, rfl, hI1, fun _ _ => rfl⟩) (va_cwS 3 B.1.2.2.2.2 gX12_cached_X12_inRange rfl rfl rfl (by decide +kernel) ⟨Nat.le_of_ble_eq_true rfl, Nat.le_of_ble_eq_true rfl⟩) rfl rfl (Nat.le_of_ble_eq_true rfl) dX12_cached_16 ⟨Nat.le_of_ble_eq_true rfl, Nat.le_of_ble_eq_true rfl⟩ (fun r_1 Φ2 sz1 st1 hp1 hs1 => ?_)
    obtain ⟨rfl, hq1, hI2, hF1⟩ := hp1
    subst sz1
    replace hs1 : st1 = [.int 1, .ref x] := hs1
    subst st1
    refine z_if_ne (tgt := 26) B dX12_cached_19 rfl (fun c_1 => ?_) (fun h9 => absurd h9 (by decide))
    refine z_iconst (v := 0) B dX12_cached_26 rfl ?_
    refine z_iconst (v := 1) B dX12_cached_27 rfl ?_
    have h_4 : Φ2 x = some (o_ 14 [.int 0, .ref (x + 1), .ref (x + 2), .int ti, .int v_2, .int (nI n_1), .int v_3, .int ad, .ref (x + 3), .ref (x + 4), .int v_4, .long v_5, .ref (x + 5), .int (nI fl), .int v_6, .long ob, .long v_7, .long v_8, .long v_9, .ref (x + 6), .ref (x + 7), .int (nI pe), .ref (x + 8), .int (nI le), .ref (x + 9), .ref (x + 10), .int (nI qu), .ref (x + 11), .ref (x + 12), .ref (x + 13), .ref (x + 14), .ref (x + 15), .ref (x + 16), .int (nI n_2), .long v_10, .ref (x + 17), .ref (x + 18), .ref (x + 19), .ref (x + 20), .ref (x + 21), .ref (x + 22), .int (nI n_3), .ref (x + 23), .ref (x + 24), .int (nI n_4), .ref (x + 25), .int (nI il), .int (nI nx), .int ec, .int ep, .int kn, .int (nI st), .int nu, .long va]) := ((hF1 x (fun j9 h8 h7 => (show False from h7).elim)).trans h_3)
    refine z_callV (As := [.int 0, .int 1]) (rest := []) B (r_throwsIf G l Φ2 sz x rd nw fl pe le nx il qu kn ec nu va st ep ti ad ob 0 1 hx hI2 (by decide) hnw) (cwV 2 B.1.2.2.2.2 gX12_cached_X12_throwsIf rfl rfl rfl (by decide +kernel) ⟨Nat.le_of_ble_eq_true rfl, Nat.le_of_ble_eq_true rfl⟩) h_4 rfl rfl rfl rfl (Nat.le_of_ble_eq_true rfl) dX12_cached_28 ⟨Nat.le_of_ble_eq_true rfl, Nat.le_of_ble_eq_true rfl⟩ (fun r_2 Φ3 sz2 st2 hp2 hs2 => ?_)
    obtain ⟨rfl, hq2, hI3, hF2⟩ := hp2
    subst sz2
    replace hs2 : st2 = [.int 0] := hs2
    subst st2
    replace hI3 : Im G x (rd, nw, fl, pe, le, nx, il, qu, kn, ec, nu, va, st, ep, ti, ad, ob) Φ3 := hI3
    refine z_if_ne (tgt := 59) B dX12_cached_31 rfl (fun h9 => absurd (by decide) h9) (fun c_2 => ?_)
    refine z_aload_n B dX12_cached_34 rfl 0 rfl ?_
    refine z_iload_n B dX12_cached_35 rfl 2 rfl ?_
    refine z_i2l (v := b.toInt64) B dX12_cached_36 rfl ?_
    refine z_lconst (v := 0) B dX12_cached_37 rfl ?_
    refine z_ldc2 (v := 7) B (by decide +kernel) dX12_cached_38 ?_
    by_cases hR2 : inP b.toInt64 0 7
    · obtain ⟨n_6, e_4, e_5, e_6, rfl⟩ := in_get (L := 0) (H := 7) (by decide) (by decide) hR2
      refine z_callS (As := [.long ((nI n_6).toInt64), .long 0, .long 7]) (rest := [.ref x]) B (c_inR1 G l Φ3 sz ((nI n_6).toInt64) 0 7 hR2 (fun v8 Φ8 sz8 => v8 = some (.int 1) ∧ sz8 = sz ∧ Im G x (rd, nw, fl, pe, le, nx, il, qu, kn, ec, nu, va, st, ep, ti, ad, ob) Φ8 ∧ Fr x (fun j9 => False) Φ3 Φ8) ⟨rfl, rfl, hI3, fun _ _ => rfl⟩) (va_cwS 3 B.1.2.2.2.2 gX12_cached_X12_inRange rfl rfl rfl (by decide +kernel) ⟨Nat.le_of_ble_eq_true rfl, Nat.le_of_ble_eq_true rfl⟩) rfl rfl (Nat.le_of_ble_eq_true rfl) dX12_cached_41 ⟨Nat.le_of_ble_eq_true rfl, Nat.le_of_ble_eq_true rfl⟩ (fun r_3 Φ4 sz3 st3 hp3 hs3 => ?_)
      obtain ⟨rfl, hq3, hI4, hF3⟩ := hp3
      subst sz3
      replace hs3 : st3 = [.int 1, .ref x] := hs3
      subst st3
      refine z_if_ne (tgt := 51) B dX12_cached_44 rfl (fun c_3 => ?_) (fun h9 => absurd h9 (by decide))
      refine z_iconst (v := 0) B dX12_cached_51 rfl ?_
      refine z_iconst (v := 2) B dX12_cached_52 rfl ?_
      obtain ⟨v_11, v_12, n_7, v_13, v_14, v_15, v_16, v_17, v_18, v_19, n_8, v_20, n_9, n_10, h_5, b_26, b_14, b_15, b_16, b_17, b_18, b_19, b_20, b_21, b_22, b_23, b_24, b_25⟩ := im0 hI4
      replace b_14 : 1 ≤ n_7 := b_14
      replace b_15 : n_7 ≤ 1024 := b_15
      replace b_16 : fl ≤ 12 := b_16
      replace b_17 : pe ≤ 24 := b_17
      replace b_18 : le ≤ 700 := b_18
      replace b_19 : qu ≤ 12 := b_19
      replace b_20 : n_8 ≤ 8 := b_20
      replace b_21 : n_9 ≤ 24 := b_21
      replace b_22 : n_10 ≤ 24 := b_22
      replace b_23 : il ≤ 700 := b_23
      replace b_24 : nx ≤ 701 := b_24
      replace b_25 : st ≤ 701 := b_25
      have h_6 : Φ4 x = some (o_ 14 [.int v_11, .ref (x + 1), .ref (x + 2), .int ti, .int v_12, .int (nI n_7), .int v_13, .int ad, .ref (x + 3), .ref (x + 4), .int v_14, .long v_15, .ref (x + 5), .int (nI fl), .int v_16, .long ob, .long v_17, .long v_18, .long v_19, .ref (x + 6), .ref (x + 7), .int (nI pe), .ref (x + 8), .int (nI le), .ref (x + 9), .ref (x + 10), .int (nI qu), .ref (x + 11), .ref (x + 12), .ref (x + 13), .ref (x + 14), .ref (x + 15), .ref (x + 16), .int (nI n_8), .long v_20, .ref (x + 17), .ref (x + 18), .ref (x + 19), .ref (x + 20), .ref (x + 21), .ref (x + 22), .int (nI n_9), .ref (x + 23), .ref (x + 24), .int (nI n_10), .ref (x + 25), .int (nI il), .int (nI nx), .int ec, .int ep, .int kn, .int (nI st), .int nu, .long va]) := h_5
      refine z_callV (As := [.int 0, .int 2]) (rest := []) B (r_throwsIf G l Φ4 sz x rd nw fl pe le nx il qu kn ec nu va st ep ti ad ob 0 2 hx hI4 (by decide) hnw) (cwV 2 B.1.2.2.2.2 gX12_cached_X12_throwsIf rfl rfl rfl (by decide +kernel) ⟨Nat.le_of_ble_eq_true rfl, Nat.le_of_ble_eq_true rfl⟩) h_6 rfl rfl rfl rfl (Nat.le_of_ble_eq_true rfl) dX12_cached_53 ⟨Nat.le_of_ble_eq_true rfl, Nat.le_of_ble_eq_true rfl⟩ (fun r_4 Φ5 sz4 st4 hp4 hs4 => ?_)
      obtain ⟨rfl, hq4, hI5, hF4⟩ := hp4
      subst sz4
      replace hs4 : st4 = [.int 0] := hs4
      subst st4
      replace hI5 : Im G x (rd, nw, fl, pe, le, nx, il, qu, kn, ec, nu, va, st, ep, ti, ad, ob) Φ5 := hI5
      refine z_if_eq (tgt := 63) B dX12_cached_56 rfl (fun c_4 => ?_) (fun h9 => absurd (by decide) h9)
      refine z_aload_n B dX12_cached_63 rfl 0 rfl ?_
      obtain ⟨v_21, v_22, n_11, v_23, v_24, v_25, v_26, v_27, v_28, v_29, n_12, v_30, n_13, n_14, h_7, b_39, b_27, b_28, b_29, b_30, b_31, b_32, b_33, b_34, b_35, b_36, b_37, b_38⟩ := im0 hI5
      replace b_27 : 1 ≤ n_11 := b_27
      replace b_28 : n_11 ≤ 1024 := b_28
      replace b_29 : fl ≤ 12 := b_29
      replace b_30 : pe ≤ 24 := b_30
      replace b_31 : le ≤ 700 := b_31
      replace b_32 : qu ≤ 12 := b_32
      replace b_33 : n_12 ≤ 8 := b_33
      replace b_34 : n_13 ≤ 24 := b_34
      replace b_35 : n_14 ≤ 24 := b_35
      replace b_36 : il ≤ 700 := b_36
      replace b_37 : nx ≤ 701 := b_37
      replace b_38 : st ≤ 701 := b_38
      have h_8 : Φ5 x = some (o_ 14 [.int v_21, .ref (x + 1), .ref (x + 2), .int ti, .int v_22, .int (nI n_11), .int v_23, .int ad, .ref (x + 3), .ref (x + 4), .int v_24, .long v_25, .ref (x + 5), .int (nI fl), .int v_26, .long ob, .long v_27, .long v_28, .long v_29, .ref (x + 6), .ref (x + 7), .int (nI pe), .ref (x + 8), .int (nI le), .ref (x + 9), .ref (x + 10), .int (nI qu), .ref (x + 11), .ref (x + 12), .ref (x + 13), .ref (x + 14), .ref (x + 15), .ref (x + 16), .int (nI n_12), .long v_30, .ref (x + 17), .ref (x + 18), .ref (x + 19), .ref (x + 20), .ref (x + 21), .ref (x + 22), .int (nI n_13), .ref (x + 23), .ref (x + 24), .int (nI n_14), .ref (x + 25), .int (nI il), .int (nI nx), .int ec, .int ep, .int kn, .int (nI st), .int nu, .long va]) := h_7
      refine z_get (ref := "FlowExporterModel") (C := RX12) (T := TX12) (N := 54) (ci := 14) (v := .ref (x + 5)) B hu_X12_cached_X12 rfl 12 (Nat.le_of_ble_eq_true rfl) hv_X12_cached_26 rfl h_8 rfl dX12_cached_64 ?_
      refine z_bipush (v := 8) B dX12_cached_67 rfl ?_
      refine z_iload_n B dX12_cached_69 rfl 1 rfl ?_
      refine z_imul B dX12_cached_70 ?_
      refine z_top (st1 := [.int (nI (8 * n_5)), .ref (x + 5)]) (congrArg (fun w9 : Int32 => ([.int w9, .ref (x + 5)] : List Value)) (nI_mul 8 n_5)) ?_
      refine z_iload_n B dX12_cached_71 rfl 2 rfl ?_
      refine z_iadd B dX12_cached_72 ?_
      refine z_top (st1 := [.int (nI (8 * n_5 + n_6)), .ref (x + 5)]) (congrArg (fun w9 : Int32 => ([.int w9, .ref (x + 5)] : List Value)) (nI_add (8 * n_5) n_6)) ?_
      obtain ⟨f_1, h_9, r_5⟩ := imk (k := 5) hI5
      replace r_5 : CC f_1 := r_5
      have h_10 : Φ5 (x + 5) = some (al_ G 96 f_1) := h_9
      refine z_lald B h_10 (vp_in_nI (by omega) (by omega)) dX12_cached_73 ?_
      refine z_fl (fun v_31 => ?_)
      exact z_ret_l B dX12_cached_74 ⟨⟨_, rfl⟩, rfl, hI5, (fun b9 h9 => ((hF4 b9 h9).trans ((hF3 b9 (fun j9 h8 h7 => (show False from h7).elim)).trans ((hF2 b9 h9).trans ((hF1 b9 (fun j9 h8 h7 => (show False from h7).elim)).trans ((fset_fr hΦ1 (fun h8 => h9 (0) h8 (show 0 = 0 by decide))).trans rfl))))))⟩
    · have q_1 : ¬ (0 ≤ b.toInt ∧ b.toInt ≤ 7) := fun h9 => hR2 ((inP_i (by decide) (by decide)).mpr h9)
      refine z_callS (As := [.long b.toInt64, .long 0, .long 7]) (rest := [.ref x]) B (c_inR0 G l Φ3 sz b.toInt64 0 7 hR2 (fun v8 Φ8 sz8 => v8 = some (.int 0) ∧ sz8 = sz ∧ Im G x (rd, nw, fl, pe, le, nx, il, qu, kn, ec, nu, va, st, ep, ti, ad, ob) Φ8 ∧ Fr x (fun j9 => False) Φ3 Φ8) ⟨rfl, rfl, hI3, fun _ _ => rfl⟩) (va_cwS 3 B.1.2.2.2.2 gX12_cached_X12_inRange rfl rfl rfl (by decide +kernel) ⟨Nat.le_of_ble_eq_true rfl, Nat.le_of_ble_eq_true rfl⟩) rfl rfl (Nat.le_of_ble_eq_true rfl) dX12_cached_41 ⟨Nat.le_of_ble_eq_true rfl, Nat.le_of_ble_eq_true rfl⟩ (fun r_6 Φ6 sz5 st5 hp5 hs5 => ?_)
      obtain ⟨rfl, hq5, hI6, hF5⟩ := hp5
      subst sz5
      replace hs5 : st5 = [.int 0, .ref x] := hs5
      subst st5
      refine z_if_ne (tgt := 51) B dX12_cached_44 rfl (fun h9 => absurd (by decide) h9) (fun c_5 => ?_)
      refine z_iconst (v := 1) B dX12_cached_47 rfl ?_
      refine z_goto (tgt := 52) B dX12_cached_48 rfl ?_
      refine z_iconst (v := 2) B dX12_cached_52 rfl ?_
      obtain ⟨v_32, v_33, n_15, v_34, v_35, v_36, v_37, v_38, v_39, v_40, n_16, v_41, n_17, n_18, h_11, b_52, b_40, b_41, b_42, b_43, b_44, b_45, b_46, b_47, b_48, b_49, b_50, b_51⟩ := im0 hI6
      replace b_40 : 1 ≤ n_15 := b_40
      replace b_41 : n_15 ≤ 1024 := b_41
      replace b_42 : fl ≤ 12 := b_42
      replace b_43 : pe ≤ 24 := b_43
      replace b_44 : le ≤ 700 := b_44
      replace b_45 : qu ≤ 12 := b_45
      replace b_46 : n_16 ≤ 8 := b_46
      replace b_47 : n_17 ≤ 24 := b_47
      replace b_48 : n_18 ≤ 24 := b_48
      replace b_49 : il ≤ 700 := b_49
      replace b_50 : nx ≤ 701 := b_50
      replace b_51 : st ≤ 701 := b_51
      have h_12 : Φ6 x = some (o_ 14 [.int v_32, .ref (x + 1), .ref (x + 2), .int ti, .int v_33, .int (nI n_15), .int v_34, .int ad, .ref (x + 3), .ref (x + 4), .int v_35, .long v_36, .ref (x + 5), .int (nI fl), .int v_37, .long ob, .long v_38, .long v_39, .long v_40, .ref (x + 6), .ref (x + 7), .int (nI pe), .ref (x + 8), .int (nI le), .ref (x + 9), .ref (x + 10), .int (nI qu), .ref (x + 11), .ref (x + 12), .ref (x + 13), .ref (x + 14), .ref (x + 15), .ref (x + 16), .int (nI n_16), .long v_41, .ref (x + 17), .ref (x + 18), .ref (x + 19), .ref (x + 20), .ref (x + 21), .ref (x + 22), .int (nI n_17), .ref (x + 23), .ref (x + 24), .int (nI n_18), .ref (x + 25), .int (nI il), .int (nI nx), .int ec, .int ep, .int kn, .int (nI st), .int nu, .long va]) := h_11
      refine z_callV (As := [.int 1, .int 2]) (rest := []) B (r_throwsIf G l Φ6 sz x rd nw fl pe le nx il qu kn ec nu va st ep ti ad ob 1 2 hx hI6 (by decide) hnw) (cwV 2 B.1.2.2.2.2 gX12_cached_X12_throwsIf rfl rfl rfl (by decide +kernel) ⟨Nat.le_of_ble_eq_true rfl, Nat.le_of_ble_eq_true rfl⟩) h_12 rfl rfl rfl rfl (Nat.le_of_ble_eq_true rfl) dX12_cached_53 ⟨Nat.le_of_ble_eq_true rfl, Nat.le_of_ble_eq_true rfl⟩ (fun r_7 Φ7 sz6 st6 hp6 hs6 => ?_)
      obtain ⟨rfl, hq6, hI7, hF6⟩ := hp6
      subst sz6
      replace hs6 : st6 = [.int 1] := hs6
      subst st6
      replace hI7 : Im G x (rd, nw, fl, pe, le, nx, il, qu, kn, ec, nu, va, st, ep, ti, ad, ob) Φ7 := hI7
      refine z_if_eq (tgt := 63) B dX12_cached_56 rfl (fun h9 => absurd h9 (by decide)) (fun c_6 => ?_)
      refine z_lconst (v := 0) B dX12_cached_59 rfl ?_
      refine z_goto (tgt := 74) B dX12_cached_60 rfl ?_
      exact z_ret_l B dX12_cached_74 ⟨⟨_, rfl⟩, rfl, hI7, (fun b9 h9 => ((hF6 b9 h9).trans ((hF5 b9 (fun j9 h8 h7 => (show False from h7).elim)).trans ((hF2 b9 h9).trans ((hF1 b9 (fun j9 h8 h7 => (show False from h7).elim)).trans ((fset_fr hΦ1 (fun h8 => h9 (0) h8 (show 0 = 0 by decide))).trans rfl))))))⟩
  · refine z_callS (As := [.long a.toInt64, .long 0, .long ((nI fl - 1).toInt64)]) (rest := [.ref x]) B (c_inR0 G l Φ1 sz a.toInt64 0 ((nI fl - 1).toInt64) hR1 (fun v8 Φ8 sz8 => v8 = some (.int 0) ∧ sz8 = sz ∧ Im G x (rd, nw, fl, pe, le, nx, il, qu, kn, ec, nu, va, st, ep, ti, ad, ob) Φ8 ∧ Fr x (fun j9 => False) Φ1 Φ8) ⟨rfl, rfl, hI1, fun _ _ => rfl⟩) (va_cwS 3 B.1.2.2.2.2 gX12_cached_X12_inRange rfl rfl rfl (by decide +kernel) ⟨Nat.le_of_ble_eq_true rfl, Nat.le_of_ble_eq_true rfl⟩) rfl rfl (Nat.le_of_ble_eq_true rfl) dX12_cached_16 ⟨Nat.le_of_ble_eq_true rfl, Nat.le_of_ble_eq_true rfl⟩ (fun r_8 Φ8 sz7 st7 hp7 hs7 => ?_)
    obtain ⟨rfl, hq7, hI8, hF7⟩ := hp7
    subst sz7
    replace hs7 : st7 = [.int 0, .ref x] := hs7
    subst st7
    refine z_if_ne (tgt := 26) B dX12_cached_19 rfl (fun h9 => absurd (by decide) h9) (fun c_7 => ?_)
    refine z_iconst (v := 1) B dX12_cached_22 rfl ?_
    refine z_goto (tgt := 27) B dX12_cached_23 rfl ?_
    refine z_iconst (v := 1) B dX12_cached_27 rfl ?_
    have h_13 : Φ8 x = some (o_ 14 [.int 0, .ref (x + 1), .ref (x + 2), .int ti, .int v_2, .int (nI n_1), .int v_3, .int ad, .ref (x + 3), .ref (x + 4), .int v_4, .long v_5, .ref (x + 5), .int (nI fl), .int v_6, .long ob, .long v_7, .long v_8, .long v_9, .ref (x + 6), .ref (x + 7), .int (nI pe), .ref (x + 8), .int (nI le), .ref (x + 9), .ref (x + 10), .int (nI qu), .ref (x + 11), .ref (x + 12), .ref (x + 13), .ref (x + 14), .ref (x + 15), .ref (x + 16), .int (nI n_2), .long v_10, .ref (x + 17), .ref (x + 18), .ref (x + 19), .ref (x + 20), .ref (x + 21), .ref (x + 22), .int (nI n_3), .ref (x + 23), .ref (x + 24), .int (nI n_4), .ref (x + 25), .int (nI il), .int (nI nx), .int ec, .int ep, .int kn, .int (nI st), .int nu, .long va]) := ((hF7 x (fun j9 h8 h7 => (show False from h7).elim)).trans h_3)
    refine z_callV (As := [.int 1, .int 1]) (rest := []) B (r_throwsIf G l Φ8 sz x rd nw fl pe le nx il qu kn ec nu va st ep ti ad ob 1 1 hx hI8 (by decide) hnw) (cwV 2 B.1.2.2.2.2 gX12_cached_X12_throwsIf rfl rfl rfl (by decide +kernel) ⟨Nat.le_of_ble_eq_true rfl, Nat.le_of_ble_eq_true rfl⟩) h_13 rfl rfl rfl rfl (Nat.le_of_ble_eq_true rfl) dX12_cached_28 ⟨Nat.le_of_ble_eq_true rfl, Nat.le_of_ble_eq_true rfl⟩ (fun r_9 Φ9 sz8 st8 hp8 hs8 => ?_)
    obtain ⟨rfl, hq8, hI9, hF8⟩ := hp8
    subst sz8
    replace hs8 : st8 = [.int 1] := hs8
    subst st8
    replace hI9 : Im G x (rd, nw, fl, pe, le, nx, il, qu, kn, ec, nu, va, st, ep, ti, ad, ob) Φ9 := hI9
    refine z_if_ne (tgt := 59) B dX12_cached_31 rfl (fun c_8 => ?_) (fun h9 => absurd h9 (by decide))
    refine z_lconst (v := 0) B dX12_cached_59 rfl ?_
    refine z_goto (tgt := 74) B dX12_cached_60 rfl ?_
    exact z_ret_l B dX12_cached_74 ⟨⟨_, rfl⟩, rfl, hI9, (fun b9 h9 => ((hF8 b9 h9).trans ((hF7 b9 (fun j9 h8 h7 => (show False from h7).elim)).trans ((fset_fr hΦ1 (fun h8 => h9 (0) h8 (show 0 = 0 by decide))).trans rfl))))⟩

theorem z_join {p : Program} {l : Launch} {e : Env} {R : Room} {s : State} {m : MethodId} {args : Array Value} {below : List Frame} {meth : Method} {c : Code} {Q : State → Prop} {G : EnvG} {nL pc : Nat} {lv : List (Nat × Value)} {st : List Value} {Φ : Hm} {sz cells slots : Nat} {α : Type} (Iv : α → Hm → Prop) (lvf : α → List (Nat × Value)) (pj : Nat) (body : ∀ (a : α) (Φi : Hm), Iv a Φi → Z p l e R s m args below meth c Q G nL pj (lvf a) [] Φi sz cells slots) (main : (∀ (a : α) (Φi : Hm), Iv a Φi → Z p l e R s m args below meth c Q G nL pj (lvf a) [] Φi sz cells slots) → Z p l e R s m args below meth c Q G nL pc lv st Φ sz cells slots) : Z p l e R s m args below meth c Q G nL pc lv st Φ sz cells slots := main body
theorem np2 {v : Int64} (h : np 2 v) : ∃ n : Nat, n ≤ 65535 ∧ v.toInt32 = nI n ∧ v = Int64.ofNat n := by
  obtain ⟨A, h1, h2⟩ := h (by decide)
  have h3 : A < 65536 := h1
  exact ⟨A, by omega, by rw [h2, ofL (by omega)], h2⟩

theorem hu_X12_messageLength_X12 : ∀ w ∈ u_ws RX12 TX12 54, w ∈ wsX12_messageLength := fun _ h => List.mem_cons_of_mem _ (List.mem_append_left _ (List.mem_append_right _ (h)))

theorem hv_X12_messageLength_1 : Cond.fieldLink RX12 1 "FlowExporterModel" (TX12 0).2.1 (TX12 0).2.2.1 ∈ wsX12_messageLength := List.mem_cons_of_mem _ (List.mem_append_left _ (List.mem_append_left _ (List.mem_of_getElem? (i := 0) rfl)))

theorem hv_X12_messageLength_42 : Cond.fieldLink RX12 42 "FlowExporterModel" (TX12 25).2.1 (TX12 25).2.2.1 ∈ wsX12_messageLength := List.mem_cons_of_mem _ (List.mem_append_left _ (List.mem_append_left _ (List.mem_of_getElem? (i := 1) rfl)))

set_option maxHeartbeats 4000000 in
set_option maxRecDepth 100000 in
theorem r_messageLength (G : EnvG) (l : Launch) (Φ : Hm) (sz x : Nat) (rd : (Nat → Int32) → Prop) (nw : (Nat → Int32) → Prop) (fl : Nat) (pe : Nat) (le : Nat) (nx : Nat) (il : Nat) (qu : Nat) (kn : Int32) (ec : Int32) (nu : Int32) (va : Int64) (st : Nat) (ep : Int32) (ti : Int32) (ad : Int32) (ob : Int64) (a : Int32) (hx : G.2.2.2 ≤ x) (hI : Im G x (rd, nw, fl, pe, le, nx, il, qu, kn, ec, nu, va, st, ep, ti, ad, ob) Φ) (hnw : ∀ f9 : Nat → Int32, nw f9 → NN f9) : Ct G l yX12_messageLength wsX12_messageLength ({ frames := 2, cells := 0, slots := 0, locals := 46 }) 0 0 [.ref x, .int a] Φ sz (fun v Φ1 sz1 => (∃ r9 : Int32, v = some (.int r9)) ∧ sz1 = sz ∧ (Im G x (rd, nw, fl, pe, le, nx, il, qu, kn, ec, nu, va, st, ep, ti, ad, ob) Φ1) ∧ Fr x (fun j9 => j9 = 0) Φ Φ1) := by
  refine Ct.of (cc := cX12_messageLength) (maxL := 2) (ret := (some .int)) (by decide) rfl (Nat.le_of_ble_eq_true rfl) ?_
  intro p9 e9 s9 m9 w9 t9 k9 B
  show Z p9 l e9 _ s9 m9 _ w9 t9 k9 _ G 2 0 [(0, .ref x), (1, .int a)] [] Φ sz 0 0
  refine z_aload_n B dX12_messageLength_0 rfl 0 rfl ?_
  refine z_iconst (v := 0) B dX12_messageLength_1 rfl ?_
  obtain ⟨v_1, v_2, n_1, v_3, v_4, v_5, v_6, v_7, v_8, v_9, n_2, v_10, n_3, n_4, h_1, b_13, b_1, b_2, b_3, b_4, b_5, b_6, b_7, b_8, b_9, b_10, b_11, b_12⟩ := im0 hI
  replace b_1 : 1 ≤ n_1 := b_1
  replace b_2 : n_1 ≤ 1024 := b_2
  replace b_3 : fl ≤ 12 := b_3
  replace b_4 : pe ≤ 24 := b_4
  replace b_5 : le ≤ 700 := b_5
  replace b_6 : qu ≤ 12 := b_6
  replace b_7 : n_2 ≤ 8 := b_7
  replace b_8 : n_3 ≤ 24 := b_8
  replace b_9 : n_4 ≤ 24 := b_9
  replace b_10 : il ≤ 700 := b_10
  replace b_11 : nx ≤ 701 := b_11
  replace b_12 : st ≤ 701 := b_12
  have h_2 : Φ x = some (o_ 14 [.int v_1, .ref (x + 1), .ref (x + 2), .int ti, .int v_2, .int (nI n_1), .int v_3, .int ad, .ref (x + 3), .ref (x + 4), .int v_4, .long v_5, .ref (x + 5), .int (nI fl), .int v_6, .long ob, .long v_7, .long v_8, .long v_9, .ref (x + 6), .ref (x + 7), .int (nI pe), .ref (x + 8), .int (nI le), .ref (x + 9), .ref (x + 10), .int (nI qu), .ref (x + 11), .ref (x + 12), .ref (x + 13), .ref (x + 14), .ref (x + 15), .ref (x + 16), .int (nI n_2), .long v_10, .ref (x + 17), .ref (x + 18), .ref (x + 19), .ref (x + 20), .ref (x + 21), .ref (x + 22), .int (nI n_3), .ref (x + 23), .ref (x + 24), .int (nI n_4), .ref (x + 25), .int (nI il), .int (nI nx), .int ec, .int ep, .int kn, .int (nI st), .int nu, .long va]) := h_1
  refine z_put (ref := "FlowExporterModel") (C := RX12) (T := TX12) (N := 54) (ci := 14) (v := .int 0) B hu_X12_messageLength_X12 tyX12 tyX12_ok nmX12 rfl 0 (Nat.le_of_ble_eq_true rfl) hv_X12_messageLength_1 rfl (Or.inl rfl) h_2 hx rfl rfl (Nat.le_of_ble_eq_true rfl) dX12_messageLength_2 (fun Φ1 hΦ1 => ?_)
  have h_3 : Φ1 x = some (o_ 14 [.int 0, .ref (x + 1), .ref (x + 2), .int ti, .int v_2, .int (nI n_1), .int v_3, .int ad, .ref (x + 3), .ref (x + 4), .int v_4, .long v_5, .ref (x + 5), .int (nI fl), .int v_6, .long ob, .long v_7, .long v_8, .long v_9, .ref (x + 6), .ref (x + 7), .int (nI pe), .ref (x + 8), .int (nI le), .ref (x + 9), .ref (x + 10), .int (nI qu), .ref (x + 11), .ref (x + 12), .ref (x + 13), .ref (x + 14), .ref (x + 15), .ref (x + 16), .int (nI n_2), .long v_10, .ref (x + 17), .ref (x + 18), .ref (x + 19), .ref (x + 20), .ref (x + 21), .ref (x + 22), .int (nI n_3), .ref (x + 23), .ref (x + 24), .int (nI n_4), .ref (x + 25), .int (nI il), .int (nI nx), .int ec, .int ep, .int kn, .int (nI st), .int nu, .long va]) := fset_at hΦ1
  have hI1 : Im G x (rd, nw, fl, pe, le, nx, il, qu, kn, ec, nu, va, st, ep, ti, ad, ob) Φ1 := Im.put0 hI hΦ1 ⟨0, v_2, n_1, v_3, v_4, v_5, v_6, v_7, v_8, v_9, n_2, v_10, n_3, n_4, rfl, b_13, b_1, b_2, b_3, b_4, b_5, b_6, b_7, b_8, b_9, b_10, b_11, b_12⟩
  refine z_aload_n B dX12_messageLength_5 rfl 0 rfl ?_
  refine z_aload_n B dX12_messageLength_6 rfl 0 rfl ?_
  refine z_iload_n B dX12_messageLength_7 rfl 1 rfl ?_
  refine z_callV (As := [.int a]) (rest := [.ref x]) B (r_isMessage G l Φ1 sz x rd nw fl pe le nx il qu kn ec nu va st ep ti ad ob a hx hI1 hnw) (cwV 1 B.1.2.2.2.2 gX12_messageLength_X12_isMessage rfl rfl rfl (by decide +kernel) ⟨Nat.le_of_ble_eq_true rfl, Nat.le_of_ble_eq_true rfl⟩) h_3 rfl rfl rfl rfl (Nat.le_of_ble_eq_true rfl) dX12_messageLength_8 ⟨Nat.le_of_ble_eq_true rfl, Nat.le_of_ble_eq_true rfl⟩ (fun r_1 Φ2 sz1 st1 hp1 hs1 => ?_)
  obtain ⟨ha1, hq1, hI2, hF1⟩ := hp1
  subst sz1
  replace hI2 : Im G x (rd, nw, fl, pe, le, nx, il, qu, kn, ec, nu, va, st, ep, ti, ad, ob) Φ2 := hI2
  rcases ha1 with rfl | ⟨rfl, n_5, b_14, rfl⟩
  · replace hs1 : st1 = [.int 0, .ref x] := hs1
    subst st1
    refine z_if_ne (tgt := 18) B dX12_messageLength_11 rfl (fun h9 => absurd (by decide) h9) (fun c_1 => ?_)
    refine z_iconst (v := 1) B dX12_messageLength_14 rfl ?_
    refine z_goto (tgt := 19) B dX12_messageLength_15 rfl ?_
    refine z_iconst (v := 1) B dX12_messageLength_19 rfl ?_
    have h_4 : Φ2 x = some (o_ 14 [.int 0, .ref (x + 1), .ref (x + 2), .int ti, .int v_2, .int (nI n_1), .int v_3, .int ad, .ref (x + 3), .ref (x + 4), .int v_4, .long v_5, .ref (x + 5), .int (nI fl), .int v_6, .long ob, .long v_7, .long v_8, .long v_9, .ref (x + 6), .ref (x + 7), .int (nI pe), .ref (x + 8), .int (nI le), .ref (x + 9), .ref (x + 10), .int (nI qu), .ref (x + 11), .ref (x + 12), .ref (x + 13), .ref (x + 14), .ref (x + 15), .ref (x + 16), .int (nI n_2), .long v_10, .ref (x + 17), .ref (x + 18), .ref (x + 19), .ref (x + 20), .ref (x + 21), .ref (x + 22), .int (nI n_3), .ref (x + 23), .ref (x + 24), .int (nI n_4), .ref (x + 25), .int (nI il), .int (nI nx), .int ec, .int ep, .int kn, .int (nI st), .int nu, .long va]) := ((hF1 x (fun j9 h8 h7 => (show False from h7).elim)).trans h_3)
    refine z_callV (As := [.int 1, .int 1]) (rest := []) B (r_throwsIf G l Φ2 sz x rd nw fl pe le nx il qu kn ec nu va st ep ti ad ob 1 1 hx hI2 (by decide) hnw) (cwV 2 B.1.2.2.2.2 gX12_messageLength_X12_throwsIf rfl rfl rfl (by decide +kernel) ⟨Nat.le_of_ble_eq_true rfl, Nat.le_of_ble_eq_true rfl⟩) h_4 rfl rfl rfl rfl (Nat.le_of_ble_eq_true rfl) dX12_messageLength_20 ⟨Nat.le_of_ble_eq_true rfl, Nat.le_of_ble_eq_true rfl⟩ (fun r_2 Φ3 sz2 st2 hp2 hs2 => ?_)
    obtain ⟨rfl, hq2, hI3, hF2⟩ := hp2
    subst sz2
    replace hs2 : st2 = [.int 1] := hs2
    subst st2
    replace hI3 : Im G x (rd, nw, fl, pe, le, nx, il, qu, kn, ec, nu, va, st, ep, ti, ad, ob) Φ3 := hI3
    refine z_if_eq (tgt := 30) B dX12_messageLength_23 rfl (fun h9 => absurd h9 (by decide)) (fun c_2 => ?_)
    refine z_iconst (v := 0) B dX12_messageLength_26 rfl ?_
    refine z_goto (tgt := 36) B dX12_messageLength_27 rfl ?_
    exact z_ret_i B dX12_messageLength_36 ⟨⟨_, rfl⟩, rfl, hI3, (fun b9 h9 => ((hF2 b9 h9).trans ((hF1 b9 (fun j9 h8 h7 => (show False from h7).elim)).trans ((fset_fr hΦ1 (fun h8 => h9 (0) h8 (show 0 = 0 by decide))).trans rfl))))⟩
  · replace hs1 : st1 = [.int 1, .ref x] := hs1
    subst st1
    replace b_14 : n_5 < qu := b_14
    refine z_if_ne (tgt := 18) B dX12_messageLength_11 rfl (fun c_3 => ?_) (fun h9 => absurd h9 (by decide))
    refine z_iconst (v := 0) B dX12_messageLength_18 rfl ?_
    refine z_iconst (v := 1) B dX12_messageLength_19 rfl ?_
    have h_5 : Φ2 x = some (o_ 14 [.int 0, .ref (x + 1), .ref (x + 2), .int ti, .int v_2, .int (nI n_1), .int v_3, .int ad, .ref (x + 3), .ref (x + 4), .int v_4, .long v_5, .ref (x + 5), .int (nI fl), .int v_6, .long ob, .long v_7, .long v_8, .long v_9, .ref (x + 6), .ref (x + 7), .int (nI pe), .ref (x + 8), .int (nI le), .ref (x + 9), .ref (x + 10), .int (nI qu), .ref (x + 11), .ref (x + 12), .ref (x + 13), .ref (x + 14), .ref (x + 15), .ref (x + 16), .int (nI n_2), .long v_10, .ref (x + 17), .ref (x + 18), .ref (x + 19), .ref (x + 20), .ref (x + 21), .ref (x + 22), .int (nI n_3), .ref (x + 23), .ref (x + 24), .int (nI n_4), .ref (x + 25), .int (nI il), .int (nI nx), .int ec, .int ep, .int kn, .int (nI st), .int nu, .long va]) := ((hF1 x (fun j9 h8 h7 => (show False from h7).elim)).trans h_3)
    refine z_callV (As := [.int 0, .int 1]) (rest := []) B (r_throwsIf G l Φ2 sz x rd nw fl pe le nx il qu kn ec nu va st ep ti ad ob 0 1 hx hI2 (by decide) hnw) (cwV 2 B.1.2.2.2.2 gX12_messageLength_X12_throwsIf rfl rfl rfl (by decide +kernel) ⟨Nat.le_of_ble_eq_true rfl, Nat.le_of_ble_eq_true rfl⟩) h_5 rfl rfl rfl rfl (Nat.le_of_ble_eq_true rfl) dX12_messageLength_20 ⟨Nat.le_of_ble_eq_true rfl, Nat.le_of_ble_eq_true rfl⟩ (fun r_3 Φ4 sz3 st3 hp3 hs3 => ?_)
    obtain ⟨rfl, hq3, hI4, hF3⟩ := hp3
    subst sz3
    replace hs3 : st3 = [.int 0] := hs3
    subst st3
    replace hI4 : Im G x (rd, nw, fl, pe, le, nx, il, qu, kn, ec, nu, va, st, ep, ti, ad, ob) Φ4 := hI4
    refine z_if_eq (tgt := 30) B dX12_messageLength_23 rfl (fun c_4 => ?_) (fun h9 => absurd (by decide) h9)
    refine z_aload_n B dX12_messageLength_30 rfl 0 rfl ?_
    obtain ⟨v_11, v_12, n_6, v_13, v_14, v_15, v_16, v_17, v_18, v_19, n_7, v_20, n_8, n_9, h_6, b_27, b_15, b_16, b_17, b_18, b_19, b_20, b_21, b_22, b_23, b_24, b_25, b_26⟩ := im0 hI4
    replace b_15 : 1 ≤ n_6 := b_15
    replace b_16 : n_6 ≤ 1024 := b_16
    replace b_17 : fl ≤ 12 := b_17
    replace b_18 : pe ≤ 24 := b_18
    replace b_19 : le ≤ 700 := b_19
    replace b_20 : qu ≤ 12 := b_20
    replace b_21 : n_7 ≤ 8 := b_21
    replace b_22 : n_8 ≤ 24 := b_22
    replace b_23 : n_9 ≤ 24 := b_23
    replace b_24 : il ≤ 700 := b_24
    replace b_25 : nx ≤ 701 := b_25
    replace b_26 : st ≤ 701 := b_26
    have h_7 : Φ4 x = some (o_ 14 [.int v_11, .ref (x + 1), .ref (x + 2), .int ti, .int v_12, .int (nI n_6), .int v_13, .int ad, .ref (x + 3), .ref (x + 4), .int v_14, .long v_15, .ref (x + 5), .int (nI fl), .int v_16, .long ob, .long v_17, .long v_18, .long v_19, .ref (x + 6), .ref (x + 7), .int (nI pe), .ref (x + 8), .int (nI le), .ref (x + 9), .ref (x + 10), .int (nI qu), .ref (x + 11), .ref (x + 12), .ref (x + 13), .ref (x + 14), .ref (x + 15), .ref (x + 16), .int (nI n_7), .long v_20, .ref (x + 17), .ref (x + 18), .ref (x + 19), .ref (x + 20), .ref (x + 21), .ref (x + 22), .int (nI n_8), .ref (x + 23), .ref (x + 24), .int (nI n_9), .ref (x + 25), .int (nI il), .int (nI nx), .int ec, .int ep, .int kn, .int (nI st), .int nu, .long va]) := h_6
    refine z_get (ref := "FlowExporterModel") (C := RX12) (T := TX12) (N := 54) (ci := 14) (v := .ref (x + 10)) B hu_X12_messageLength_X12 rfl 25 (Nat.le_of_ble_eq_true rfl) hv_X12_messageLength_42 rfl h_7 rfl dX12_messageLength_31 ?_
    refine z_iload_n B dX12_messageLength_34 rfl 1 rfl ?_
    obtain ⟨f_1, h_8, r_4⟩ := imk (k := 10) hI4
    replace r_4 : Rw 600 f_1 := r_4
    have h_9 : Φ4 (x + 10) = some (ai_ G 12 f_1) := h_8
    refine z_iald B h_9 (vp_in_nI (by omega) (by omega)) dX12_messageLength_35 ?_
    obtain ⟨n_10, b_28, e_1⟩ := r_4 ((nI n_5).toNatClampNeg)
    refine z_top (st1 := [.int (nI n_10)]) (congrArg (fun w9 : Int32 => ([.int w9] : List Value)) (e_1)) ?_
    exact z_ret_i B dX12_messageLength_36 ⟨⟨_, rfl⟩, rfl, hI4, (fun b9 h9 => ((hF3 b9 h9).trans ((hF1 b9 (fun j9 h8 h7 => (show False from h7).elim)).trans ((fset_fr hΦ1 (fun h8 => h9 (0) h8 (show 0 = 0 by decide))).trans rfl))))⟩

theorem hu_X12_messageByte_X12 : ∀ w ∈ u_ws RX12 TX12 54, w ∈ wsX12_messageByte := fun _ h => List.mem_cons_of_mem _ (List.mem_append_left _ (List.mem_append_right _ (h)))

theorem hv_X12_messageByte_1 : Cond.fieldLink RX12 1 "FlowExporterModel" (TX12 0).2.1 (TX12 0).2.2.1 ∈ wsX12_messageByte := List.mem_cons_of_mem _ (List.mem_append_left _ (List.mem_append_left _ (List.mem_of_getElem? (i := 0) rfl)))

theorem hv_X12_messageByte_42 : Cond.fieldLink RX12 42 "FlowExporterModel" (TX12 25).2.1 (TX12 25).2.2.1 ∈ wsX12_messageByte := List.mem_cons_of_mem _ (List.mem_append_left _ (List.mem_append_left _ (List.mem_of_getElem? (i := 1) rfl)))

theorem hv_X12_messageByte_39 : Cond.fieldLink RX12 39 "FlowExporterModel" (TX12 24).2.1 (TX12 24).2.2.1 ∈ wsX12_messageByte := List.mem_cons_of_mem _ (List.mem_append_left _ (List.mem_append_left _ (List.mem_of_getElem? (i := 2) rfl)))
