theorem dX12_startExporter_0 : decode cX12_startExporter 0 = .ok (.aload_n 0, 1) := by decide +kernel
theorem dX12_startExporter_1 : decode cX12_startExporter 1 = .ok (.iconst 0, 1) := by decide +kernel
theorem dX12_startExporter_2 : decode cX12_startExporter 2 = .ok (.putfield 133, 3) := by decide +kernel
theorem dX12_startExporter_5 : decode cX12_startExporter 5 = .ok (.aload_n 0, 1) := by decide +kernel
theorem dX12_startExporter_6 : decode cX12_startExporter 6 = .ok (.iconst 0, 1) := by decide +kernel
theorem dX12_startExporter_7 : decode cX12_startExporter 7 = .ok (.putfield 136, 3) := by decide +kernel
theorem dX12_startExporter_10 : decode cX12_startExporter 10 = .ok (.aload_n 0, 1) := by decide +kernel
theorem dX12_startExporter_11 : decode cX12_startExporter 11 = .ok (.lconst 0, 1) := by decide +kernel
theorem dX12_startExporter_12 : decode cX12_startExporter 12 = .ok (.putfield 201, 3) := by decide +kernel
theorem dX12_startExporter_15 : decode cX12_startExporter 15 = .ok (.iconst 0, 1) := by decide +kernel
theorem dX12_startExporter_16 : decode cX12_startExporter 16 = .ok (.istore_n 1, 1) := by decide +kernel
theorem dX12_startExporter_17 : decode cX12_startExporter 17 = .ok (.iload_n 1, 1) := by decide +kernel
theorem dX12_startExporter_18 : decode cX12_startExporter 18 = .ok (.iconst 4, 1) := by decide +kernel
theorem dX12_startExporter_19 : decode cX12_startExporter 19 = .ok (.if_icmp .ge 16, 3) := by decide +kernel
theorem dX12_startExporter_22 : decode cX12_startExporter 22 = .ok (.aload_n 0, 1) := by decide +kernel
theorem dX12_startExporter_23 : decode cX12_startExporter 23 = .ok (.getfield 20, 3) := by decide +kernel
theorem dX12_startExporter_26 : decode cX12_startExporter 26 = .ok (.iload_n 1, 1) := by decide +kernel
theorem dX12_startExporter_27 : decode cX12_startExporter 27 = .ok (.iconst (-1), 1) := by decide +kernel
theorem dX12_startExporter_28 : decode cX12_startExporter 28 = .ok (.iastore, 1) := by decide +kernel
theorem dX12_startExporter_29 : decode cX12_startExporter 29 = .ok (.iinc 1 1, 3) := by decide +kernel
theorem dX12_startExporter_32 : decode cX12_startExporter 32 = .ok (.goto (-15), 3) := by decide +kernel
theorem dX12_startExporter_35 : decode cX12_startExporter 35 = .ok (.return_, 1) := by decide +kernel
set_option maxRecDepth 20000 in
theorem ggX12_setSupport_X12_inRange : GoodIn wsX12_setSupport wsX12_inRange := (goodIn_r _ [8] rfl (by decide +kernel))
set_option maxRecDepth 20000 in
theorem gX12_setSupport_X12_inRange : GoodIn wsX12_setSupport (va_wsS RX12 169 yX12_inRange wsX12_inRange) := goodIn_app (goodIn_m (mem_cA (List.mem_cons_of_mem _ (List.mem_append_left _ (List.mem_append_left _ (List.mem_append_left _ (List.mem_of_getElem? (i := 4) rfl))))) (mem_cA (List.mem_cons_of_mem _ (List.mem_append_left _ (List.mem_append_left _ (List.mem_append_left _ (List.mem_of_getElem? (i := 5) rfl))))) (mem_cA (List.mem_cons_of_mem _ (List.mem_append_left _ (List.mem_append_left _ (List.mem_append_left _ (List.mem_of_getElem? (i := 6) rfl))))) mem_cZ))) (by decide +kernel)) ggX12_setSupport_X12_inRange
set_option maxRecDepth 20000 in
theorem ggX12_setSupport_X12_throwsIf : GoodIn wsX12_setSupport wsX12_throwsIf := (goodIn_ca (goodIn_r _ [12, 1] rfl (by decide +kernel)) (goodIn_sub (fun _ h => List.mem_cons_of_mem _ (List.mem_append_left _ (List.mem_append_right _ h))) gw_wsX120))
set_option maxRecDepth 20000 in
theorem gX12_setSupport_X12_throwsIf : GoodIn wsX12_setSupport (wsV RX12 185 RX12 yX12_throwsIf wsX12_throwsIf) := goodIn_app (goodIn_m (mem_cA (List.mem_cons_of_mem _ (List.mem_append_left _ (List.mem_append_left _ (List.mem_append_left _ (List.mem_of_getElem? (i := 8) rfl))))) (mem_cA (List.mem_cons_of_mem _ (List.mem_append_left _ (List.mem_append_left _ (List.mem_append_left _ (List.mem_of_getElem? (i := 9) rfl))))) (mem_cA (List.mem_cons_of_mem _ (List.mem_append_left _ (List.mem_append_left _ (List.mem_append_left _ (List.mem_of_getElem? (i := 10) rfl))))) (mem_cA (List.mem_cons_of_mem _ (List.mem_append_left _ (List.mem_append_left _ (List.mem_append_left _ (List.mem_of_getElem? (i := 6) rfl))))) mem_cZ)))) (by decide +kernel)) ggX12_setSupport_X12_throwsIf
set_option maxRecDepth 20000 in
theorem ggX12_setSupport_X12_isSupported : GoodIn wsX12_setSupport wsX12_isSupported := goodIn_ca ((goodIn_ca (goodIn_r _ [16, 3] rfl (by decide +kernel)) (goodIn_sub (fun _ h => List.mem_cons_of_mem _ (List.mem_append_left _ (List.mem_append_right _ h))) gw_wsX120))) (goodIn_sub (fun _ h => List.mem_cons_of_mem _ (List.mem_append_right _ h)) (all_fg _))
set_option maxRecDepth 20000 in
theorem gX12_setSupport_X12_isSupported : GoodIn wsX12_setSupport (wsV RX12 206 RX12 yX12_isSupported wsX12_isSupported) := goodIn_app (goodIn_m (mem_cA (List.mem_cons_of_mem _ (List.mem_append_left _ (List.mem_append_left _ (List.mem_append_left _ (List.mem_of_getElem? (i := 12) rfl))))) (mem_cA (List.mem_cons_of_mem _ (List.mem_append_left _ (List.mem_append_left _ (List.mem_append_left _ (List.mem_of_getElem? (i := 13) rfl))))) (mem_cA (List.mem_cons_of_mem _ (List.mem_append_left _ (List.mem_append_left _ (List.mem_append_left _ (List.mem_of_getElem? (i := 14) rfl))))) (mem_cA (List.mem_cons_of_mem _ (List.mem_append_left _ (List.mem_append_left _ (List.mem_append_left _ (List.mem_of_getElem? (i := 6) rfl))))) mem_cZ)))) (by decide +kernel)) ggX12_setSupport_X12_isSupported
set_option maxRecDepth 20000 in
theorem ggX12_setSupport_X12_fieldsOf : GoodIn wsX12_setSupport wsX12_fieldsOf := goodIn_ca ((goodIn_ca (goodIn_r _ [20, 21, 22, 23, 7, 24, 3, 25, 26, 27, 28] rfl (by decide +kernel)) (goodIn_sub (fun _ h => List.mem_cons_of_mem _ (List.mem_append_left _ (List.mem_append_right _ h))) gw_wsX120))) (goodIn_sub (fun _ h => List.mem_cons_of_mem _ (List.mem_append_right _ h)) (all_fg _))
set_option maxRecDepth 20000 in
theorem gX12_setSupport_X12_fieldsOf : GoodIn wsX12_setSupport (wsV RX12 189 RX12 yX12_fieldsOf wsX12_fieldsOf) := goodIn_app (goodIn_m (mem_cA (List.mem_cons_of_mem _ (List.mem_append_left _ (List.mem_append_left _ (List.mem_append_left _ (List.mem_of_getElem? (i := 16) rfl))))) (mem_cA (List.mem_cons_of_mem _ (List.mem_append_left _ (List.mem_append_left _ (List.mem_append_left _ (List.mem_of_getElem? (i := 17) rfl))))) (mem_cA (List.mem_cons_of_mem _ (List.mem_append_left _ (List.mem_append_left _ (List.mem_append_left _ (List.mem_of_getElem? (i := 18) rfl))))) (mem_cA (List.mem_cons_of_mem _ (List.mem_append_left _ (List.mem_append_left _ (List.mem_append_left _ (List.mem_of_getElem? (i := 6) rfl))))) mem_cZ)))) (by decide +kernel)) ggX12_setSupport_X12_fieldsOf
theorem dX12_setSupport_0 : decode cX12_setSupport 0 = .ok (.aload_n 0, 1) := by decide +kernel
theorem dX12_setSupport_1 : decode cX12_setSupport 1 = .ok (.iconst 0, 1) := by decide +kernel
theorem dX12_setSupport_2 : decode cX12_setSupport 2 = .ok (.putfield 1, 3) := by decide +kernel
theorem dX12_setSupport_5 : decode cX12_setSupport 5 = .ok (.aload_n 0, 1) := by decide +kernel
theorem dX12_setSupport_6 : decode cX12_setSupport 6 = .ok (.iload_n 1, 1) := by decide +kernel
theorem dX12_setSupport_7 : decode cX12_setSupport 7 = .ok (.i2l, 1) := by decide +kernel
theorem dX12_setSupport_8 : decode cX12_setSupport 8 = .ok (.lconst 0, 1) := by decide +kernel
theorem dX12_setSupport_9 : decode cX12_setSupport 9 = .ok (.ldc2_w 204, 3) := by decide +kernel
theorem dX12_setSupport_12 : decode cX12_setSupport 12 = .ok (.invokestatic 169, 3) := by decide +kernel
theorem dX12_setSupport_15 : decode cX12_setSupport 15 = .ok (.ifCond .ne 7, 3) := by decide +kernel
theorem dX12_setSupport_18 : decode cX12_setSupport 18 = .ok (.iconst 1, 1) := by decide +kernel
theorem dX12_setSupport_19 : decode cX12_setSupport 19 = .ok (.goto 4, 3) := by decide +kernel
theorem dX12_setSupport_22 : decode cX12_setSupport 22 = .ok (.iconst 0, 1) := by decide +kernel
theorem dX12_setSupport_23 : decode cX12_setSupport 23 = .ok (.iconst 1, 1) := by decide +kernel
theorem dX12_setSupport_24 : decode cX12_setSupport 24 = .ok (.invokevirtual 185, 3) := by decide +kernel
theorem dX12_setSupport_27 : decode cX12_setSupport 27 = .ok (.ifCond .eq 5, 3) := by decide +kernel
theorem dX12_setSupport_30 : decode cX12_setSupport 30 = .ok (.iconst 0, 1) := by decide +kernel
theorem dX12_setSupport_31 : decode cX12_setSupport 31 = .ok (.ireturn, 1) := by decide +kernel
theorem dX12_setSupport_32 : decode cX12_setSupport 32 = .ok (.aload_n 0, 1) := by decide +kernel
theorem dX12_setSupport_33 : decode cX12_setSupport 33 = .ok (.iload_n 1, 1) := by decide +kernel
theorem dX12_setSupport_34 : decode cX12_setSupport 34 = .ok (.invokevirtual 206, 3) := by decide +kernel
theorem dX12_setSupport_37 : decode cX12_setSupport 37 = .ok (.istore_n 3, 1) := by decide +kernel
theorem dX12_setSupport_38 : decode cX12_setSupport 38 = .ok (.iload_n 3, 1) := by decide +kernel
theorem dX12_setSupport_39 : decode cX12_setSupport 39 = .ok (.iload_n 2, 1) := by decide +kernel
theorem dX12_setSupport_40 : decode cX12_setSupport 40 = .ok (.if_icmp .ne 5, 3) := by decide +kernel
theorem dX12_setSupport_43 : decode cX12_setSupport 43 = .ok (.iload_n 3, 1) := by decide +kernel
theorem dX12_setSupport_44 : decode cX12_setSupport 44 = .ok (.ireturn, 1) := by decide +kernel
theorem dX12_setSupport_45 : decode cX12_setSupport 45 = .ok (.aload_n 0, 1) := by decide +kernel
theorem dX12_setSupport_46 : decode cX12_setSupport 46 = .ok (.getfield 17, 3) := by decide +kernel
theorem dX12_setSupport_49 : decode cX12_setSupport 49 = .ok (.bipush 9, 2) := by decide +kernel
theorem dX12_setSupport_51 : decode cX12_setSupport 51 = .ok (.dup2, 1) := by decide +kernel
theorem dX12_setSupport_52 : decode cX12_setSupport 52 = .ok (.iaload, 1) := by decide +kernel
theorem dX12_setSupport_53 : decode cX12_setSupport 53 = .ok (.iconst 1, 1) := by decide +kernel
theorem dX12_setSupport_54 : decode cX12_setSupport 54 = .ok (.iload_n 1, 1) := by decide +kernel
theorem dX12_setSupport_55 : decode cX12_setSupport 55 = .ok (.ishl, 1) := by decide +kernel
theorem dX12_setSupport_56 : decode cX12_setSupport 56 = .ok (.ixor, 1) := by decide +kernel
theorem dX12_setSupport_57 : decode cX12_setSupport 57 = .ok (.iastore, 1) := by decide +kernel
theorem dX12_setSupport_58 : decode cX12_setSupport 58 = .ok (.iconst 0, 1) := by decide +kernel
theorem dX12_setSupport_59 : decode cX12_setSupport 59 = .ok (.istore 4, 2) := by decide +kernel
theorem dX12_setSupport_61 : decode cX12_setSupport 61 = .ok (.iload 4, 2) := by decide +kernel
theorem dX12_setSupport_63 : decode cX12_setSupport 63 = .ok (.aload_n 0, 1) := by decide +kernel
theorem dX12_setSupport_64 : decode cX12_setSupport 64 = .ok (.getfield 17, 3) := by decide +kernel
theorem dX12_setSupport_67 : decode cX12_setSupport 67 = .ok (.bipush 10, 2) := by decide +kernel
theorem dX12_setSupport_69 : decode cX12_setSupport 69 = .ok (.iaload, 1) := by decide +kernel
theorem dX12_setSupport_70 : decode cX12_setSupport 70 = .ok (.if_icmp .ge 31, 3) := by decide +kernel
theorem dX12_setSupport_73 : decode cX12_setSupport 73 = .ok (.aload_n 0, 1) := by decide +kernel
theorem dX12_setSupport_74 : decode cX12_setSupport 74 = .ok (.iload 4, 2) := by decide +kernel
theorem dX12_setSupport_76 : decode cX12_setSupport 76 = .ok (.invokevirtual 189, 3) := by decide +kernel
theorem dX12_setSupport_79 : decode cX12_setSupport 79 = .ok (.iload_n 1, 1) := by decide +kernel
theorem dX12_setSupport_80 : decode cX12_setSupport 80 = .ok (.ishr, 1) := by decide +kernel
theorem dX12_setSupport_81 : decode cX12_setSupport 81 = .ok (.iconst 1, 1) := by decide +kernel
theorem dX12_setSupport_82 : decode cX12_setSupport 82 = .ok (.iand, 1) := by decide +kernel
theorem dX12_setSupport_83 : decode cX12_setSupport 83 = .ok (.iconst 1, 1) := by decide +kernel
theorem dX12_setSupport_84 : decode cX12_setSupport 84 = .ok (.if_icmp .ne 11, 3) := by decide +kernel
theorem dX12_setSupport_87 : decode cX12_setSupport 87 = .ok (.aload_n 0, 1) := by decide +kernel
theorem dX12_setSupport_88 : decode cX12_setSupport 88 = .ok (.getfield 20, 3) := by decide +kernel
theorem dX12_setSupport_91 : decode cX12_setSupport 91 = .ok (.iload 4, 2) := by decide +kernel
theorem dX12_setSupport_93 : decode cX12_setSupport 93 = .ok (.iconst (-1), 1) := by decide +kernel
theorem dX12_setSupport_94 : decode cX12_setSupport 94 = .ok (.iastore, 1) := by decide +kernel
theorem dX12_setSupport_95 : decode cX12_setSupport 95 = .ok (.iinc 4 1, 3) := by decide +kernel
theorem dX12_setSupport_98 : decode cX12_setSupport 98 = .ok (.goto (-37), 3) := by decide +kernel
theorem dX12_setSupport_101 : decode cX12_setSupport 101 = .ok (.iload_n 3, 1) := by decide +kernel
theorem dX12_setSupport_102 : decode cX12_setSupport 102 = .ok (.ireturn, 1) := by decide +kernel
theorem dX12_requestTemplates_0 : decode cX12_requestTemplates 0 = .ok (.aload_n 0, 1) := by decide +kernel
theorem dX12_requestTemplates_1 : decode cX12_requestTemplates 1 = .ok (.iconst 0, 1) := by decide +kernel
theorem dX12_requestTemplates_2 : decode cX12_requestTemplates 2 = .ok (.putfield 1, 3) := by decide +kernel
theorem dX12_requestTemplates_5 : decode cX12_requestTemplates 5 = .ok (.iconst 0, 1) := by decide +kernel
theorem dX12_requestTemplates_6 : decode cX12_requestTemplates 6 = .ok (.istore_n 1, 1) := by decide +kernel
theorem dX12_requestTemplates_7 : decode cX12_requestTemplates 7 = .ok (.iload_n 1, 1) := by decide +kernel
theorem dX12_requestTemplates_8 : decode cX12_requestTemplates 8 = .ok (.iconst 4, 1) := by decide +kernel
theorem dX12_requestTemplates_9 : decode cX12_requestTemplates 9 = .ok (.if_icmp .ge 16, 3) := by decide +kernel
theorem dX12_requestTemplates_12 : decode cX12_requestTemplates 12 = .ok (.aload_n 0, 1) := by decide +kernel
theorem dX12_requestTemplates_13 : decode cX12_requestTemplates 13 = .ok (.getfield 20, 3) := by decide +kernel
theorem dX12_requestTemplates_16 : decode cX12_requestTemplates 16 = .ok (.iload_n 1, 1) := by decide +kernel
theorem dX12_requestTemplates_17 : decode cX12_requestTemplates 17 = .ok (.iconst (-1), 1) := by decide +kernel
theorem dX12_requestTemplates_18 : decode cX12_requestTemplates 18 = .ok (.iastore, 1) := by decide +kernel
theorem dX12_requestTemplates_19 : decode cX12_requestTemplates 19 = .ok (.iinc 1 1, 3) := by decide +kernel
theorem dX12_requestTemplates_22 : decode cX12_requestTemplates 22 = .ok (.goto (-15), 3) := by decide +kernel
theorem dX12_requestTemplates_25 : decode cX12_requestTemplates 25 = .ok (.return_, 1) := by decide +kernel
set_option maxRecDepth 20000 in
theorem ggX12_restartExporter_X12_startExporter : GoodIn wsX12_restartExporter wsX12_startExporter := goodIn_ca ((goodIn_ca (goodIn_r _ [7, 2, 8, 9, 10] rfl (by decide +kernel)) (goodIn_sub (fun _ h => List.mem_cons_of_mem _ (List.mem_append_left _ (List.mem_append_right _ h))) gw_wsX120))) (goodIn_sub (fun _ h => List.mem_cons_of_mem _ (List.mem_append_right _ h)) (all_fg _))
set_option maxRecDepth 20000 in
theorem gX12_restartExporter_X12_startExporter : GoodIn wsX12_restartExporter (wsV RX12 151 RX12 yX12_startExporter wsX12_startExporter) := goodIn_app (goodIn_m (mem_cA (List.mem_cons_of_mem _ (List.mem_append_left _ (List.mem_append_left _ (List.mem_of_getElem? (i := 2) rfl)))) (mem_cA (List.mem_cons_of_mem _ (List.mem_append_left _ (List.mem_append_left _ (List.mem_of_getElem? (i := 3) rfl)))) (mem_cA (List.mem_cons_of_mem _ (List.mem_append_left _ (List.mem_append_left _ (List.mem_of_getElem? (i := 4) rfl)))) (mem_cA (List.mem_cons_of_mem _ (List.mem_append_left _ (List.mem_append_left _ (List.mem_of_getElem? (i := 5) rfl)))) mem_cZ)))) (by decide +kernel)) ggX12_restartExporter_X12_startExporter
theorem dX12_restartExporter_0 : decode cX12_restartExporter 0 = .ok (.aload_n 0, 1) := by decide +kernel
theorem dX12_restartExporter_1 : decode cX12_restartExporter 1 = .ok (.iconst 0, 1) := by decide +kernel
theorem dX12_restartExporter_2 : decode cX12_restartExporter 2 = .ok (.putfield 1, 3) := by decide +kernel
theorem dX12_restartExporter_5 : decode cX12_restartExporter 5 = .ok (.aload_n 0, 1) := by decide +kernel
theorem dX12_restartExporter_6 : decode cX12_restartExporter 6 = .ok (.getfield 133, 3) := by decide +kernel
theorem dX12_restartExporter_9 : decode cX12_restartExporter 9 = .ok (.istore_n 1, 1) := by decide +kernel
theorem dX12_restartExporter_10 : decode cX12_restartExporter 10 = .ok (.aload_n 0, 1) := by decide +kernel
theorem dX12_restartExporter_11 : decode cX12_restartExporter 11 = .ok (.invokevirtual 151, 3) := by decide +kernel
theorem dX12_restartExporter_14 : decode cX12_restartExporter 14 = .ok (.iload_n 1, 1) := by decide +kernel
theorem dX12_restartExporter_15 : decode cX12_restartExporter 15 = .ok (.ireturn, 1) := by decide +kernel
theorem dX12_startCollector_0 : decode cX12_startCollector 0 = .ok (.iconst 0, 1) := by decide +kernel
theorem dX12_startCollector_1 : decode cX12_startCollector 1 = .ok (.istore_n 1, 1) := by decide +kernel
theorem dX12_startCollector_2 : decode cX12_startCollector 2 = .ok (.iload_n 1, 1) := by decide +kernel
theorem dX12_startCollector_3 : decode cX12_startCollector 3 = .ok (.iconst 4, 1) := by decide +kernel
theorem dX12_startCollector_4 : decode cX12_startCollector 4 = .ok (.if_icmp .ge 16, 3) := by decide +kernel
theorem dX12_startCollector_7 : decode cX12_startCollector 7 = .ok (.aload_n 0, 1) := by decide +kernel
theorem dX12_startCollector_8 : decode cX12_startCollector 8 = .ok (.getfield 48, 3) := by decide +kernel
theorem dX12_startCollector_11 : decode cX12_startCollector 11 = .ok (.iload_n 1, 1) := by decide +kernel
theorem dX12_startCollector_12 : decode cX12_startCollector 12 = .ok (.iconst 0, 1) := by decide +kernel
theorem dX12_startCollector_13 : decode cX12_startCollector 13 = .ok (.iastore, 1) := by decide +kernel
theorem dX12_startCollector_14 : decode cX12_startCollector 14 = .ok (.iinc 1 1, 3) := by decide +kernel
theorem dX12_startCollector_17 : decode cX12_startCollector 17 = .ok (.goto (-15), 3) := by decide +kernel
theorem dX12_startCollector_20 : decode cX12_startCollector 20 = .ok (.aload_n 0, 1) := by decide +kernel
theorem dX12_startCollector_21 : decode cX12_startCollector 21 = .ok (.iconst 0, 1) := by decide +kernel
theorem dX12_startCollector_22 : decode cX12_startCollector 22 = .ok (.putfield 326, 3) := by decide +kernel
theorem dX12_startCollector_25 : decode cX12_startCollector 25 = .ok (.aload_n 0, 1) := by decide +kernel
theorem dX12_startCollector_26 : decode cX12_startCollector 26 = .ok (.ldc2_w 329, 3) := by decide +kernel
theorem dX12_startCollector_29 : decode cX12_startCollector 29 = .ok (.putfield 331, 3) := by decide +kernel
theorem dX12_startCollector_32 : decode cX12_startCollector 32 = .ok (.return_, 1) := by decide +kernel
set_option maxHeartbeats 4000000 in
set_option maxRecDepth 100000 in
theorem r_setSupport (G : EnvG) (l : Launch) (Φ : Hm) (sz x : Nat) (rd : (Nat → Int32) → Prop) (fl : Nat) (pe : Nat) (le : Nat) (nx : Nat) (il : Nat) (qu : Nat) (kn : Int32) (ec : Int32) (nu : Int32) (va : Int64) (st : Nat) (ep : Int32) (a : Int32) (b : Int32) (hx : G.2.2.2 ≤ x) (hI : Im G x (rd, NN, fl, pe, le, nx, il, qu, kn, ec, nu, va, st, ep) Φ) (hb : b = 0 ∨ b = 1) : Ct G l yX12_setSupport wsX12_setSupport ({ frames := 2, cells := 0, slots := 0, locals := 45 }) 0 0 [.ref x, .int a, .int b] Φ sz (fun v Φ1 sz1 => (∃ r9 : Int32, v = some (.int r9) ∧ (r9 = 0 ∨ r9 = 1)) ∧ sz1 = sz ∧ (Im G x (rd, NN, fl, pe, le, nx, il, qu, kn, ec, nu, va, st, ep) Φ1) ∧ Fr x (fun j9 => j9 = 0 ∨ j9 = 2 ∨ j9 = 3) Φ Φ1) := by
  refine Ct.of (cc := cX12_setSupport) (maxL := 5) (ret := (some .boolean)) (by decide) rfl (Nat.le_of_ble_eq_true rfl) ?_
  intro p9 e9 s9 m9 w9 t9 k9 B
  show Z p9 l e9 _ s9 m9 _ w9 t9 k9 _ G 5 0 [(0, .ref x), (1, .int a), (2, .int b)] [] Φ sz 0 0
  refine z_aload_n B dX12_setSupport_0 rfl 0 rfl ?_
  refine z_iconst (v := 0) B dX12_setSupport_1 rfl ?_
  obtain ⟨v_1, v_2, v_3, n_1, v_4, v_5, v_6, v_7, v_8, v_9, v_10, v_11, v_12, n_2, v_13, n_3, n_4, h_1, b_13, b_1, b_2, b_3, b_4, b_5, b_6, b_7, b_8, b_9, b_10, b_11, b_12⟩ := im0 hI
  replace b_1 : 1 ≤ n_1 := b_1
  replace b_2 : n_1 ≤ 1024 := b_2
  replace b_3 : fl ≤ 12 := b_3
  replace b_4 : pe ≤ 24 := b_4
  replace b_5 : le ≤ 700 := b_5
  replace b_6 : qu ≤ 12 := b_6
  replace b_7 : n_2 ≤ 8 := b_7
  replace b_8 : n_3 ≤ 24 := b_8
  replace b_9 : n_4 ≤ 24 := b_9
  replace b_10 : il ≤ 700 := b_10
  replace b_11 : nx ≤ 701 := b_11
  replace b_12 : st ≤ 701 := b_12
  have h_2 : Φ x = some (o_ 14 [.int v_1, .ref (x + 1), .ref (x + 2), .int v_2, .int v_3, .int (nI n_1), .int v_4, .int v_5, .ref (x + 3), .ref (x + 4), .int v_6, .long v_7, .ref (x + 5), .int (nI fl), .int v_8, .long v_9, .long v_10, .long v_11, .long v_12, .ref (x + 6), .ref (x + 7), .int (nI pe), .ref (x + 8), .int (nI le), .ref (x + 9), .ref (x + 10), .int (nI qu), .ref (x + 11), .ref (x + 12), .ref (x + 13), .ref (x + 14), .ref (x + 15), .ref (x + 16), .int (nI n_2), .long v_13, .ref (x + 17), .ref (x + 18), .ref (x + 19), .ref (x + 20), .ref (x + 21), .ref (x + 22), .int (nI n_3), .ref (x + 23), .ref (x + 24), .int (nI n_4), .ref (x + 25), .int (nI il), .int (nI nx), .int ec, .int ep, .int kn, .int (nI st), .int nu, .long va]) := h_1
  refine z_put (ref := "FlowExporterModel") (C := RX12) (T := TX12) (N := 54) (ci := 14) (v := .int 0) B hu_X12_setSupport_X12 tyX12 tyX12_ok nmX12 rfl 0 (Nat.le_of_ble_eq_true rfl) hv_X12_setSupport_1 rfl (Or.inl rfl) h_2 hx rfl rfl (Nat.le_of_ble_eq_true rfl) dX12_setSupport_2 (fun Φ1 hΦ1 => ?_)
  have h_3 : Φ1 x = some (o_ 14 [.int 0, .ref (x + 1), .ref (x + 2), .int v_2, .int v_3, .int (nI n_1), .int v_4, .int v_5, .ref (x + 3), .ref (x + 4), .int v_6, .long v_7, .ref (x + 5), .int (nI fl), .int v_8, .long v_9, .long v_10, .long v_11, .long v_12, .ref (x + 6), .ref (x + 7), .int (nI pe), .ref (x + 8), .int (nI le), .ref (x + 9), .ref (x + 10), .int (nI qu), .ref (x + 11), .ref (x + 12), .ref (x + 13), .ref (x + 14), .ref (x + 15), .ref (x + 16), .int (nI n_2), .long v_13, .ref (x + 17), .ref (x + 18), .ref (x + 19), .ref (x + 20), .ref (x + 21), .ref (x + 22), .int (nI n_3), .ref (x + 23), .ref (x + 24), .int (nI n_4), .ref (x + 25), .int (nI il), .int (nI nx), .int ec, .int ep, .int kn, .int (nI st), .int nu, .long va]) := fset_at hΦ1
  have hI1 : Im G x (rd, NN, fl, pe, le, nx, il, qu, kn, ec, nu, va, st, ep) Φ1 := Im.put0 hI hΦ1 ⟨0, v_2, v_3, n_1, v_4, v_5, v_6, v_7, v_8, v_9, v_10, v_11, v_12, n_2, v_13, n_3, n_4, rfl, b_13, b_1, b_2, b_3, b_4, b_5, b_6, b_7, b_8, b_9, b_10, b_11, b_12⟩
  refine z_aload_n B dX12_setSupport_5 rfl 0 rfl ?_
  refine z_iload_n B dX12_setSupport_6 rfl 1 rfl ?_
  refine z_i2l (v := a.toInt64) B dX12_setSupport_7 rfl ?_
  refine z_lconst (v := 0) B dX12_setSupport_8 rfl ?_
  refine z_ldc2 (v := 8) B (by decide +kernel) dX12_setSupport_9 ?_
  by_cases hR1 : inP a.toInt64 0 8
  · obtain ⟨n_5, e_1, e_2, e_3, rfl⟩ := in_get (L := 0) (H := 8) (by decide) (by decide) hR1
    refine z_callS (As := [.long ((nI n_5).toInt64), .long 0, .long 8]) (rest := [.ref x]) B (c_inR1 G l Φ1 sz ((nI n_5).toInt64) 0 8 hR1 (fun v8 Φ8 sz8 => v8 = some (.int 1) ∧ sz8 = sz ∧ Im G x (rd, NN, fl, pe, le, nx, il, qu, kn, ec, nu, va, st, ep) Φ8 ∧ Fr x (fun j9 => False) Φ1 Φ8) ⟨rfl, rfl, hI1, fun _ _ => rfl⟩) (va_cwS 3 B.1.2.2.2.2 gX12_setSupport_X12_inRange rfl rfl rfl (by decide +kernel) ⟨Nat.le_of_ble_eq_true rfl, Nat.le_of_ble_eq_true rfl⟩) rfl rfl (Nat.le_of_ble_eq_true rfl) dX12_setSupport_12 ⟨Nat.le_of_ble_eq_true rfl, Nat.le_of_ble_eq_true rfl⟩ (fun r_1 Φ2 sz1 st1 hp1 hs1 => ?_)
    obtain ⟨rfl, hq1, hI2, hF1⟩ := hp1
    subst sz1
    replace hs1 : st1 = [.int 1, .ref x] := hs1
    subst st1
    refine z_if_ne (tgt := 22) B dX12_setSupport_15 rfl (fun c_1 => ?_) (fun h9 => absurd h9 (by decide))
    refine z_iconst (v := 0) B dX12_setSupport_22 rfl ?_
    refine z_iconst (v := 1) B dX12_setSupport_23 rfl ?_
    have h_4 : Φ2 x = some (o_ 14 [.int 0, .ref (x + 1), .ref (x + 2), .int v_2, .int v_3, .int (nI n_1), .int v_4, .int v_5, .ref (x + 3), .ref (x + 4), .int v_6, .long v_7, .ref (x + 5), .int (nI fl), .int v_8, .long v_9, .long v_10, .long v_11, .long v_12, .ref (x + 6), .ref (x + 7), .int (nI pe), .ref (x + 8), .int (nI le), .ref (x + 9), .ref (x + 10), .int (nI qu), .ref (x + 11), .ref (x + 12), .ref (x + 13), .ref (x + 14), .ref (x + 15), .ref (x + 16), .int (nI n_2), .long v_13, .ref (x + 17), .ref (x + 18), .ref (x + 19), .ref (x + 20), .ref (x + 21), .ref (x + 22), .int (nI n_3), .ref (x + 23), .ref (x + 24), .int (nI n_4), .ref (x + 25), .int (nI il), .int (nI nx), .int ec, .int ep, .int kn, .int (nI st), .int nu, .long va]) := ((hF1 x (fun j9 h8 h7 => (show False from h7).elim)).trans h_3)
    refine z_callV (As := [.int 0, .int 1]) (rest := []) B (r_throwsIf G l Φ2 sz x rd fl pe le nx il qu kn ec nu va st ep 0 1 hx hI2 (by decide)) (cwV 2 B.1.2.2.2.2 gX12_setSupport_X12_throwsIf rfl rfl rfl (by decide +kernel) ⟨Nat.le_of_ble_eq_true rfl, Nat.le_of_ble_eq_true rfl⟩) h_4 rfl rfl rfl rfl (Nat.le_of_ble_eq_true rfl) dX12_setSupport_24 ⟨Nat.le_of_ble_eq_true rfl, Nat.le_of_ble_eq_true rfl⟩ (fun r_2 Φ3 sz2 st2 hp2 hs2 => ?_)
    obtain ⟨rfl, hq2, hI3, hF2⟩ := hp2
    subst sz2
    replace hs2 : st2 = [.int 0] := hs2
    subst st2
    replace hI3 : Im G x (rd, NN, fl, pe, le, nx, il, qu, kn, ec, nu, va, st, ep) Φ3 := hI3
    refine z_if_eq (tgt := 32) B dX12_setSupport_27 rfl (fun c_2 => ?_) (fun h9 => absurd (by decide) h9)
    refine z_aload_n B dX12_setSupport_32 rfl 0 rfl ?_
    refine z_iload_n B dX12_setSupport_33 rfl 1 rfl ?_
    obtain ⟨v_14, v_15, v_16, n_6, v_17, v_18, v_19, v_20, v_21, v_22, v_23, v_24, v_25, n_7, v_26, n_8, n_9, h_5, b_26, b_14, b_15, b_16, b_17, b_18, b_19, b_20, b_21, b_22, b_23, b_24, b_25⟩ := im0 hI3
    replace b_14 : 1 ≤ n_6 := b_14
    replace b_15 : n_6 ≤ 1024 := b_15
    replace b_16 : fl ≤ 12 := b_16
    replace b_17 : pe ≤ 24 := b_17
    replace b_18 : le ≤ 700 := b_18
    replace b_19 : qu ≤ 12 := b_19
    replace b_20 : n_7 ≤ 8 := b_20
    replace b_21 : n_8 ≤ 24 := b_21
    replace b_22 : n_9 ≤ 24 := b_22
    replace b_23 : il ≤ 700 := b_23
    replace b_24 : nx ≤ 701 := b_24
    replace b_25 : st ≤ 701 := b_25
    have h_6 : Φ3 x = some (o_ 14 [.int v_14, .ref (x + 1), .ref (x + 2), .int v_15, .int v_16, .int (nI n_6), .int v_17, .int v_18, .ref (x + 3), .ref (x + 4), .int v_19, .long v_20, .ref (x + 5), .int (nI fl), .int v_21, .long v_22, .long v_23, .long v_24, .long v_25, .ref (x + 6), .ref (x + 7), .int (nI pe), .ref (x + 8), .int (nI le), .ref (x + 9), .ref (x + 10), .int (nI qu), .ref (x + 11), .ref (x + 12), .ref (x + 13), .ref (x + 14), .ref (x + 15), .ref (x + 16), .int (nI n_7), .long v_26, .ref (x + 17), .ref (x + 18), .ref (x + 19), .ref (x + 20), .ref (x + 21), .ref (x + 22), .int (nI n_8), .ref (x + 23), .ref (x + 24), .int (nI n_9), .ref (x + 25), .int (nI il), .int (nI nx), .int ec, .int ep, .int kn, .int (nI st), .int nu, .long va]) := h_5
    refine z_callV (As := [.int (nI n_5)]) (rest := []) B (r_isSupported G l Φ3 sz x rd fl pe le nx il qu kn ec nu va st ep (nI n_5) hx hI3 ) (cwV 1 B.1.2.2.2.2 gX12_setSupport_X12_isSupported rfl rfl rfl (by decide +kernel) ⟨Nat.le_of_ble_eq_true rfl, Nat.le_of_ble_eq_true rfl⟩) h_6 rfl rfl rfl rfl (Nat.le_of_ble_eq_true rfl) dX12_setSupport_34 ⟨Nat.le_of_ble_eq_true rfl, Nat.le_of_ble_eq_true rfl⟩ (fun r_3 Φ4 sz3 st3 hp3 hs3 => ?_)
    obtain ⟨⟨v_27, rfl, b_27⟩, hq3, hI4, hF3⟩ := hp3
    subst sz3
    replace hs3 : st3 = [.int v_27] := hs3
    subst st3
    replace hI4 : Im G x (rd, NN, fl, pe, le, nx, il, qu, kn, ec, nu, va, st, ep) Φ4 := hI4
    refine z_istore_n (lv' := [(3, .int v_27), (0, .ref x), (1, .int (nI n_5)), (2, .int b)]) B dX12_setSupport_37 rfl (Nat.le_of_ble_eq_true rfl) rfl ?_
    refine z_iload_n B dX12_setSupport_38 rfl 0 rfl ?_
    refine z_iload_n B dX12_setSupport_39 rfl 3 rfl ?_
    refine z_icmp_ne (tgt := 45) B dX12_setSupport_40 rfl (fun c_3 => ?_) (fun c_3 => ?_)
    · refine z_aload_n B dX12_setSupport_45 rfl 1 rfl ?_
      have h_7 : Φ4 x = some (o_ 14 [.int v_14, .ref (x + 1), .ref (x + 2), .int v_15, .int v_16, .int (nI n_6), .int v_17, .int v_18, .ref (x + 3), .ref (x + 4), .int v_19, .long v_20, .ref (x + 5), .int (nI fl), .int v_21, .long v_22, .long v_23, .long v_24, .long v_25, .ref (x + 6), .ref (x + 7), .int (nI pe), .ref (x + 8), .int (nI le), .ref (x + 9), .ref (x + 10), .int (nI qu), .ref (x + 11), .ref (x + 12), .ref (x + 13), .ref (x + 14), .ref (x + 15), .ref (x + 16), .int (nI n_7), .long v_26, .ref (x + 17), .ref (x + 18), .ref (x + 19), .ref (x + 20), .ref (x + 21), .ref (x + 22), .int (nI n_8), .ref (x + 23), .ref (x + 24), .int (nI n_9), .ref (x + 25), .int (nI il), .int (nI nx), .int ec, .int ep, .int kn, .int (nI st), .int nu, .long va]) := ((hF3 x (fun j9 h8 h7 => (show False from h7).elim)).trans h_6)
      refine z_get (ref := "FlowExporterModel") (C := RX12) (T := TX12) (N := 54) (ci := 14) (v := .ref (x + 2)) B hu_X12_setSupport_X12 rfl 2 (Nat.le_of_ble_eq_true rfl) hv_X12_setSupport_17 rfl h_7 rfl dX12_setSupport_46 ?_
      refine z_bipush (v := 9) B dX12_setSupport_49 rfl ?_
      refine z_dup2_11 B dX12_setSupport_51 rfl rfl ?_
      obtain ⟨f_1, h_8, r_4⟩ := imk (k := 2) hI4
      replace r_4 : NN f_1 := r_4
      have h_9 : Φ4 (x + 2) = some (ai_ G 307 f_1) := h_8
      refine z_iald B h_9 (vin rfl) dX12_setSupport_52 ?_
      refine z_fi (fun v_28 => ?_)
      refine z_iconst (v := 1) B dX12_setSupport_53 rfl ?_
      refine z_iload_n B dX12_setSupport_54 rfl 2 rfl ?_
      refine z_ishl B dX12_setSupport_55 ?_
      refine z_fi (fun v_29 => ?_)
      refine z_ixor B dX12_setSupport_56 ?_
      refine z_fi (fun v_30 => ?_)
      refine z_iast B h_9 (Nat.le_trans hx (Nat.le_add_right x 2)) (vin rfl) dX12_setSupport_57 (fun Φ5 hΦ2 => ?_)
      have h_10 : Φ5 (x + 2) = some (ai_ G 307 (upd f_1 (9 : Int32).toNatClampNeg v_30)) := fset_at hΦ2
      have hI5 : Im G x (rd, NN, fl, pe, le, nx, il, qu, kn, ec, nu, va, st, ep) Φ5 := Im.put2 (nw1 := NN) hI4 hΦ2 (NN.free r_4 (by decide))
      refine z_iconst (v := 0) B dX12_setSupport_58 rfl ?_
      refine z_istore (lv' := [(4, .int 0), (3, .int v_27), (0, .ref x), (1, .int (nI n_5)), (2, .int b)]) B dX12_setSupport_59 (Nat.le_of_ble_eq_true rfl) rfl ?_
      refine z_lv [0, 1, 2, 3, 4] rfl ?_
      refine z_loop (α := Nat) (fun (a9 : Nat) Φi => Im G x (rd, NN, fl, pe, le, nx, il, qu, kn, ec, nu, va, st, ep) Φi ∧ Fr x (fun j9 => j9 = 0 ∨ j9 = 2 ∨ j9 = 3) Φ5 Φi ∧ (a9 ≤ 4) ∧ True) (fun a9 => [(4, .int (nI a9)), (3, .int v_27), (0, .ref x), (1, .int (nI n_5)), (2, .int b)]) (fun a9 => 4 - a9) ?_ (0) ⟨hI5, fun _ _ => rfl, (show 0 ≤ 4 by omega), trivial⟩
      rintro i_1 Φl1 ⟨hI6, hF4, b_28, -⟩ ih1
      replace hI6 : Im G x (rd, NN, fl, pe, le, nx, il, qu, kn, ec, nu, va, st, ep) Φl1 := hI6
      replace b_28 : i_1 ≤ 4 := b_28
      show Z p9 l e9 _ s9 m9 _ w9 t9 k9 _ G 5 61 [(4, .int (nI i_1)), (3, .int v_27), (0, .ref x), (1, .int (nI n_5)), (2, .int b)] [] Φl1 _ _ _
      refine z_iload B dX12_setSupport_61 0 rfl ?_
      refine z_aload_n B dX12_setSupport_63 rfl 2 rfl ?_
      obtain ⟨v_31, v_32, v_33, n_10, v_34, v_35, v_36, v_37, v_38, v_39, v_40, v_41, v_42, n_11, v_43, n_12, n_13, h_11, b_41, b_29, b_30, b_31, b_32, b_33, b_34, b_35, b_36, b_37, b_38, b_39, b_40⟩ := im0 hI6
      replace b_29 : 1 ≤ n_10 := b_29
      replace b_30 : n_10 ≤ 1024 := b_30
      replace b_31 : fl ≤ 12 := b_31
      replace b_32 : pe ≤ 24 := b_32
      replace b_33 : le ≤ 700 := b_33
      replace b_34 : qu ≤ 12 := b_34
      replace b_35 : n_11 ≤ 8 := b_35
      replace b_36 : n_12 ≤ 24 := b_36
      replace b_37 : n_13 ≤ 24 := b_37
      replace b_38 : il ≤ 700 := b_38
      replace b_39 : nx ≤ 701 := b_39
      replace b_40 : st ≤ 701 := b_40
      have h_12 : Φl1 x = some (o_ 14 [.int v_31, .ref (x + 1), .ref (x + 2), .int v_32, .int v_33, .int (nI n_10), .int v_34, .int v_35, .ref (x + 3), .ref (x + 4), .int v_36, .long v_37, .ref (x + 5), .int (nI fl), .int v_38, .long v_39, .long v_40, .long v_41, .long v_42, .ref (x + 6), .ref (x + 7), .int (nI pe), .ref (x + 8), .int (nI le), .ref (x + 9), .ref (x + 10), .int (nI qu), .ref (x + 11), .ref (x + 12), .ref (x + 13), .ref (x + 14), .ref (x + 15), .ref (x + 16), .int (nI n_11), .long v_43, .ref (x + 17), .ref (x + 18), .ref (x + 19), .ref (x + 20), .ref (x + 21), .ref (x + 22), .int (nI n_12), .ref (x + 23), .ref (x + 24), .int (nI n_13), .ref (x + 25), .int (nI il), .int (nI nx), .int ec, .int ep, .int kn, .int (nI st), .int nu, .long va]) := h_11
      refine z_get (ref := "FlowExporterModel") (C := RX12) (T := TX12) (N := 54) (ci := 14) (v := .ref (x + 2)) B hu_X12_setSupport_X12 rfl 2 (Nat.le_of_ble_eq_true rfl) hv_X12_setSupport_17 rfl h_12 rfl dX12_setSupport_64 ?_
      refine z_bipush (v := 10) B dX12_setSupport_67 rfl ?_
      obtain ⟨f_2, h_13, r_5⟩ := imk (k := 2) hI6
      replace r_5 : NN f_2 := r_5
      have h_14 : Φl1 (x + 2) = some (ai_ G 307 f_2) := h_13
      refine z_iald B h_14 (vin rfl) dX12_setSupport_69 ?_
      obtain ⟨n_14, b_42, e_4⟩ := r_5.2.2.2.2.1
      refine z_top (st1 := [.int (nI n_14), .int (nI i_1)]) (congrArg (fun w9 : Int32 => ([.int w9, .int (nI i_1)] : List Value)) (e_4)) ?_
      refine z_icmp_ge (tgt := 101) B dX12_setSupport_70 rfl (fun c_4 => ?_) (fun c_4 => ?_)
      · have e_5 : n_14 ≤ i_1 := (nI_leI (a := n_14) (b := i_1) (by omega) (by omega)).mp c_4
        refine z_iload_n B dX12_setSupport_101 rfl 1 rfl ?_
        exact z_ret_z B dX12_setSupport_102 b_27 ⟨⟨_, rfl, b_27⟩, rfl, hI6, (fun b9 h9 => ((hF4 b9 h9).trans ((fset_fr hΦ2 (fun h8 => h9 (2) h8 (show 2 = 0 ∨ 2 = 2 ∨ 2 = 3 by decide))).trans ((hF3 b9 (fun j9 h8 h7 => (show False from h7).elim)).trans ((hF2 b9 (fun j9 h8 h7 => h9 j9 h8 (fq_821 j9 h7))).trans ((hF1 b9 (fun j9 h8 h7 => (show False from h7).elim)).trans ((fset_fr hΦ1 (fun h8 => h9 (0) h8 (show 0 = 0 ∨ 0 = 2 ∨ 0 = 3 by decide))).trans rfl)))))))⟩
      · have e_6 : ¬ (n_14 ≤ i_1) := fun h9 => c_4 ((nI_leI (a := n_14) (b := i_1) (by omega) (by omega)).mpr h9)
        refine z_aload_n B dX12_setSupport_73 rfl 2 rfl ?_
        refine z_iload B dX12_setSupport_74 0 rfl ?_
        refine z_callV (As := [.int (nI i_1)]) (rest := []) B (r_fieldsOf G l Φl1 sz x rd fl pe le nx il qu kn ec nu va st ep i_1 hx hI6 (show i_1 < 4 by omega)) (cwV 1 B.1.2.2.2.2 gX12_setSupport_X12_fieldsOf rfl rfl rfl (by decide +kernel) ⟨Nat.le_of_ble_eq_true rfl, Nat.le_of_ble_eq_true rfl⟩) h_12 rfl rfl rfl rfl (Nat.le_of_ble_eq_true rfl) dX12_setSupport_76 ⟨Nat.le_of_ble_eq_true rfl, Nat.le_of_ble_eq_true rfl⟩ (fun r_6 Φ6 sz4 st4 hp4 hs4 => ?_)
        obtain ⟨⟨v_44, rfl⟩, hq4, hI7, hF5⟩ := hp4
        subst sz4
        replace hs4 : st4 = [.int v_44] := hs4
        subst st4
        replace hI7 : Im G x (rd, NN, fl, pe, le, nx, il, qu, kn, ec, nu, va, st, ep) Φ6 := hI7
        refine z_iload_n B dX12_setSupport_79 rfl 3 rfl ?_
        refine z_ishr B dX12_setSupport_80 ?_
        refine z_fi (fun v_45 => ?_)
        refine z_iconst (v := 1) B dX12_setSupport_81 rfl ?_
        refine z_iand B dX12_setSupport_82 ?_
        refine z_fi (fun v_46 => ?_)
        refine z_iconst (v := 1) B dX12_setSupport_83 rfl ?_
        refine z_icmp_ne (tgt := 95) B dX12_setSupport_84 rfl (fun c_5 => ?_) (fun c_5 => ?_)
        · refine z_iinc (k := 0) (v := nI (i_1 + 1)) (lv' := [(4, .int (nI (i_1 + 1))), (3, .int v_27), (0, .ref x), (1, .int (nI n_5)), (2, .int b)]) B dX12_setSupport_95 rfl (nI_add i_1 1) (Nat.le_of_ble_eq_true rfl) rfl ?_
          refine z_goto (tgt := 61) B dX12_setSupport_98 rfl ?_
          refine z_lv [0, 1, 2, 3, 4] rfl ?_
          exact ih1 (i_1 + 1) Φ6 (show 4 - (i_1 + 1) < 4 - i_1 by omega) ⟨hI7, (fun b9 h9 => ((hF5 b9 (fun j9 h8 h7 => (show False from h7).elim)).trans ((hF4 b9 h9).trans rfl))), (show (i_1 + 1) ≤ 4 by omega), trivial⟩
        · refine z_aload_n B dX12_setSupport_87 rfl 2 rfl ?_
          have h_15 : Φ6 x = some (o_ 14 [.int v_31, .ref (x + 1), .ref (x + 2), .int v_32, .int v_33, .int (nI n_10), .int v_34, .int v_35, .ref (x + 3), .ref (x + 4), .int v_36, .long v_37, .ref (x + 5), .int (nI fl), .int v_38, .long v_39, .long v_40, .long v_41, .long v_42, .ref (x + 6), .ref (x + 7), .int (nI pe), .ref (x + 8), .int (nI le), .ref (x + 9), .ref (x + 10), .int (nI qu), .ref (x + 11), .ref (x + 12), .ref (x + 13), .ref (x + 14), .ref (x + 15), .ref (x + 16), .int (nI n_11), .long v_43, .ref (x + 17), .ref (x + 18), .ref (x + 19), .ref (x + 20), .ref (x + 21), .ref (x + 22), .int (nI n_12), .ref (x + 23), .ref (x + 24), .int (nI n_13), .ref (x + 25), .int (nI il), .int (nI nx), .int ec, .int ep, .int kn, .int (nI st), .int nu, .long va]) := ((hF5 x (fun j9 h8 h7 => (show False from h7).elim)).trans h_12)
          refine z_get (ref := "FlowExporterModel") (C := RX12) (T := TX12) (N := 54) (ci := 14) (v := .ref (x + 3)) B hu_X12_setSupport_X12 rfl 8 (Nat.le_of_ble_eq_true rfl) hv_X12_setSupport_20 rfl h_15 rfl dX12_setSupport_88 ?_
          refine z_iload B dX12_setSupport_91 0 rfl ?_
          refine z_iconst (v := (-1)) B dX12_setSupport_93 rfl ?_
          obtain ⟨f_3, h_16⟩ := imk (k := 3) hI7
          have h_17 : Φ6 (x + 3) = some (ai_ G 4 f_3) := h_16
          refine z_iast B h_17 (Nat.le_trans hx (Nat.le_add_right x 3)) (vp_in_nI (by omega) (by omega)) dX12_setSupport_94 (fun Φ7 hΦ3 => ?_)
          have h_18 : Φ7 (x + 3) = some (ai_ G 4 (upd f_3 (nI i_1).toNatClampNeg (-1))) := fset_at hΦ3
          have hI8 : Im G x (rd, NN, fl, pe, le, nx, il, qu, kn, ec, nu, va, st, ep) Φ7 := Im.put (k := 3) hI7 hΦ3 ⟨_, rfl⟩
          refine z_iinc (k := 0) (v := nI (i_1 + 1)) (lv' := [(4, .int (nI (i_1 + 1))), (3, .int v_27), (0, .ref x), (1, .int (nI n_5)), (2, .int b)]) B dX12_setSupport_95 rfl (nI_add i_1 1) (Nat.le_of_ble_eq_true rfl) rfl ?_
          refine z_goto (tgt := 61) B dX12_setSupport_98 rfl ?_
          refine z_lv [0, 1, 2, 3, 4] rfl ?_
          exact ih1 (i_1 + 1) Φ7 (show 4 - (i_1 + 1) < 4 - i_1 by omega) ⟨hI8, (fun b9 h9 => ((fset_fr hΦ3 (fun h8 => h9 (3) h8 (show 3 = 0 ∨ 3 = 2 ∨ 3 = 3 by decide))).trans ((hF5 b9 (fun j9 h8 h7 => (show False from h7).elim)).trans ((hF4 b9 h9).trans rfl)))), (show (i_1 + 1) ≤ 4 by omega), trivial⟩
    · refine z_iload_n B dX12_setSupport_43 rfl 0 rfl ?_
      exact z_ret_z B dX12_setSupport_44 b_27 ⟨⟨_, rfl, b_27⟩, rfl, hI4, (fun b9 h9 => ((hF3 b9 (fun j9 h8 h7 => (show False from h7).elim)).trans ((hF2 b9 (fun j9 h8 h7 => h9 j9 h8 (fq_821 j9 h7))).trans ((hF1 b9 (fun j9 h8 h7 => (show False from h7).elim)).trans ((fset_fr hΦ1 (fun h8 => h9 (0) h8 (show 0 = 0 ∨ 0 = 2 ∨ 0 = 3 by decide))).trans rfl)))))⟩
  · refine z_callS (As := [.long a.toInt64, .long 0, .long 8]) (rest := [.ref x]) B (c_inR0 G l Φ1 sz a.toInt64 0 8 hR1 (fun v8 Φ8 sz8 => v8 = some (.int 0) ∧ sz8 = sz ∧ Im G x (rd, NN, fl, pe, le, nx, il, qu, kn, ec, nu, va, st, ep) Φ8 ∧ Fr x (fun j9 => False) Φ1 Φ8) ⟨rfl, rfl, hI1, fun _ _ => rfl⟩) (va_cwS 3 B.1.2.2.2.2 gX12_setSupport_X12_inRange rfl rfl rfl (by decide +kernel) ⟨Nat.le_of_ble_eq_true rfl, Nat.le_of_ble_eq_true rfl⟩) rfl rfl (Nat.le_of_ble_eq_true rfl) dX12_setSupport_12 ⟨Nat.le_of_ble_eq_true rfl, Nat.le_of_ble_eq_true rfl⟩ (fun r_8 Φ8 sz5 st5 hp5 hs5 => ?_)
    obtain ⟨rfl, hq5, hI9, hF6⟩ := hp5
    subst sz5
    replace hs5 : st5 = [.int 0, .ref x] := hs5
    subst st5
    refine z_if_ne (tgt := 22) B dX12_setSupport_15 rfl (fun h9 => absurd (by decide) h9) (fun c_6 => ?_)
    refine z_iconst (v := 1) B dX12_setSupport_18 rfl ?_
    refine z_goto (tgt := 23) B dX12_setSupport_19 rfl ?_
    refine z_iconst (v := 1) B dX12_setSupport_23 rfl ?_
    have h_19 : Φ8 x = some (o_ 14 [.int 0, .ref (x + 1), .ref (x + 2), .int v_2, .int v_3, .int (nI n_1), .int v_4, .int v_5, .ref (x + 3), .ref (x + 4), .int v_6, .long v_7, .ref (x + 5), .int (nI fl), .int v_8, .long v_9, .long v_10, .long v_11, .long v_12, .ref (x + 6), .ref (x + 7), .int (nI pe), .ref (x + 8), .int (nI le), .ref (x + 9), .ref (x + 10), .int (nI qu), .ref (x + 11), .ref (x + 12), .ref (x + 13), .ref (x + 14), .ref (x + 15), .ref (x + 16), .int (nI n_2), .long v_13, .ref (x + 17), .ref (x + 18), .ref (x + 19), .ref (x + 20), .ref (x + 21), .ref (x + 22), .int (nI n_3), .ref (x + 23), .ref (x + 24), .int (nI n_4), .ref (x + 25), .int (nI il), .int (nI nx), .int ec, .int ep, .int kn, .int (nI st), .int nu, .long va]) := ((hF6 x (fun j9 h8 h7 => (show False from h7).elim)).trans h_3)
    refine z_callV (As := [.int 1, .int 1]) (rest := []) B (r_throwsIf G l Φ8 sz x rd fl pe le nx il qu kn ec nu va st ep 1 1 hx hI9 (by decide)) (cwV 2 B.1.2.2.2.2 gX12_setSupport_X12_throwsIf rfl rfl rfl (by decide +kernel) ⟨Nat.le_of_ble_eq_true rfl, Nat.le_of_ble_eq_true rfl⟩) h_19 rfl rfl rfl rfl (Nat.le_of_ble_eq_true rfl) dX12_setSupport_24 ⟨Nat.le_of_ble_eq_true rfl, Nat.le_of_ble_eq_true rfl⟩ (fun r_9 Φ9 sz6 st6 hp6 hs6 => ?_)
    obtain ⟨rfl, hq6, hI10, hF7⟩ := hp6
    subst sz6
    replace hs6 : st6 = [.int 1] := hs6
    subst st6
    replace hI10 : Im G x (rd, NN, fl, pe, le, nx, il, qu, kn, ec, nu, va, st, ep) Φ9 := hI10
    refine z_if_eq (tgt := 32) B dX12_setSupport_27 rfl (fun h9 => absurd h9 (by decide)) (fun c_7 => ?_)
    refine z_iconst (v := 0) B dX12_setSupport_30 rfl ?_
    exact z_ret_z B dX12_setSupport_31 (by decide) ⟨⟨_, rfl, by decide⟩, rfl, hI10, (fun b9 h9 => ((hF7 b9 (fun j9 h8 h7 => h9 j9 h8 (fq_821 j9 h7))).trans ((hF6 b9 (fun j9 h8 h7 => (show False from h7).elim)).trans ((fset_fr hΦ1 (fun h8 => h9 (0) h8 (show 0 = 0 ∨ 0 = 2 ∨ 0 = 3 by decide))).trans rfl))))⟩

theorem hu_X12_requestTemplates_X12 : ∀ w ∈ u_ws RX12 TX12 54, w ∈ wsX12_requestTemplates := fun _ h => List.mem_cons_of_mem _ (List.mem_append_left _ (List.mem_append_right _ (h)))

theorem hv_X12_requestTemplates_1 : Cond.fieldLink RX12 1 "FlowExporterModel" (TX12 0).2.1 (TX12 0).2.2.1 ∈ wsX12_requestTemplates := List.mem_cons_of_mem _ (List.mem_append_left _ (List.mem_append_left _ (List.mem_of_getElem? (i := 0) rfl)))

theorem hv_X12_requestTemplates_20 : Cond.fieldLink RX12 20 "FlowExporterModel" (TX12 8).2.1 (TX12 8).2.2.1 ∈ wsX12_requestTemplates := List.mem_cons_of_mem _ (List.mem_append_left _ (List.mem_append_left _ (List.mem_of_getElem? (i := 1) rfl)))

set_option maxHeartbeats 4000000 in
set_option maxRecDepth 100000 in
theorem r_requestTemplates (G : EnvG) (l : Launch) (Φ : Hm) (sz x : Nat) (rd : (Nat → Int32) → Prop) (fl : Nat) (pe : Nat) (le : Nat) (nx : Nat) (il : Nat) (qu : Nat) (kn : Int32) (ec : Int32) (nu : Int32) (va : Int64) (st : Nat) (ep : Int32)  (hx : G.2.2.2 ≤ x) (hI : Im G x (rd, NN, fl, pe, le, nx, il, qu, kn, ec, nu, va, st, ep) Φ)  : Ct G l yX12_requestTemplates wsX12_requestTemplates ({ frames := 0, cells := 0, slots := 0, locals := 0 }) 0 0 [.ref x] Φ sz (fun v Φ1 sz1 => (v = none) ∧ sz1 = sz ∧ (Im G x (rd, NN, fl, pe, le, nx, il, qu, kn, ec, nu, va, st, ep) Φ1) ∧ Fr x (fun j9 => j9 = 0 ∨ j9 = 3) Φ Φ1) := by
  refine Ct.of (cc := cX12_requestTemplates) (maxL := 2) (ret := none) (by decide) rfl (Nat.le_of_ble_eq_true rfl) ?_
  intro p9 e9 s9 m9 w9 t9 k9 B
  show Z p9 l e9 _ s9 m9 _ w9 t9 k9 _ G 2 0 [(0, .ref x)] [] Φ sz 0 0
  refine z_aload_n B dX12_requestTemplates_0 rfl 0 rfl ?_
  refine z_iconst (v := 0) B dX12_requestTemplates_1 rfl ?_
  obtain ⟨v_1, v_2, v_3, n_1, v_4, v_5, v_6, v_7, v_8, v_9, v_10, v_11, v_12, n_2, v_13, n_3, n_4, h_1, b_13, b_1, b_2, b_3, b_4, b_5, b_6, b_7, b_8, b_9, b_10, b_11, b_12⟩ := im0 hI
  replace b_1 : 1 ≤ n_1 := b_1
  replace b_2 : n_1 ≤ 1024 := b_2
  replace b_3 : fl ≤ 12 := b_3
  replace b_4 : pe ≤ 24 := b_4
  replace b_5 : le ≤ 700 := b_5
  replace b_6 : qu ≤ 12 := b_6
  replace b_7 : n_2 ≤ 8 := b_7
  replace b_8 : n_3 ≤ 24 := b_8
  replace b_9 : n_4 ≤ 24 := b_9
  replace b_10 : il ≤ 700 := b_10
  replace b_11 : nx ≤ 701 := b_11
  replace b_12 : st ≤ 701 := b_12
  have h_2 : Φ x = some (o_ 14 [.int v_1, .ref (x + 1), .ref (x + 2), .int v_2, .int v_3, .int (nI n_1), .int v_4, .int v_5, .ref (x + 3), .ref (x + 4), .int v_6, .long v_7, .ref (x + 5), .int (nI fl), .int v_8, .long v_9, .long v_10, .long v_11, .long v_12, .ref (x + 6), .ref (x + 7), .int (nI pe), .ref (x + 8), .int (nI le), .ref (x + 9), .ref (x + 10), .int (nI qu), .ref (x + 11), .ref (x + 12), .ref (x + 13), .ref (x + 14), .ref (x + 15), .ref (x + 16), .int (nI n_2), .long v_13, .ref (x + 17), .ref (x + 18), .ref (x + 19), .ref (x + 20), .ref (x + 21), .ref (x + 22), .int (nI n_3), .ref (x + 23), .ref (x + 24), .int (nI n_4), .ref (x + 25), .int (nI il), .int (nI nx), .int ec, .int ep, .int kn, .int (nI st), .int nu, .long va]) := h_1
  refine z_put (ref := "FlowExporterModel") (C := RX12) (T := TX12) (N := 54) (ci := 14) (v := .int 0) B hu_X12_requestTemplates_X12 tyX12 tyX12_ok nmX12 rfl 0 (Nat.le_of_ble_eq_true rfl) hv_X12_requestTemplates_1 rfl (Or.inl rfl) h_2 hx rfl rfl (Nat.le_of_ble_eq_true rfl) dX12_requestTemplates_2 (fun Φ1 hΦ1 => ?_)
  have h_3 : Φ1 x = some (o_ 14 [.int 0, .ref (x + 1), .ref (x + 2), .int v_2, .int v_3, .int (nI n_1), .int v_4, .int v_5, .ref (x + 3), .ref (x + 4), .int v_6, .long v_7, .ref (x + 5), .int (nI fl), .int v_8, .long v_9, .long v_10, .long v_11, .long v_12, .ref (x + 6), .ref (x + 7), .int (nI pe), .ref (x + 8), .int (nI le), .ref (x + 9), .ref (x + 10), .int (nI qu), .ref (x + 11), .ref (x + 12), .ref (x + 13), .ref (x + 14), .ref (x + 15), .ref (x + 16), .int (nI n_2), .long v_13, .ref (x + 17), .ref (x + 18), .ref (x + 19), .ref (x + 20), .ref (x + 21), .ref (x + 22), .int (nI n_3), .ref (x + 23), .ref (x + 24), .int (nI n_4), .ref (x + 25), .int (nI il), .int (nI nx), .int ec, .int ep, .int kn, .int (nI st), .int nu, .long va]) := fset_at hΦ1
  have hI1 : Im G x (rd, NN, fl, pe, le, nx, il, qu, kn, ec, nu, va, st, ep) Φ1 := Im.put0 hI hΦ1 ⟨0, v_2, v_3, n_1, v_4, v_5, v_6, v_7, v_8, v_9, v_10, v_11, v_12, n_2, v_13, n_3, n_4, rfl, b_13, b_1, b_2, b_3, b_4, b_5, b_6, b_7, b_8, b_9, b_10, b_11, b_12⟩
  refine z_iconst (v := 0) B dX12_requestTemplates_5 rfl ?_
  refine z_istore_n (lv' := [(1, .int 0), (0, .ref x)]) B dX12_requestTemplates_6 rfl (Nat.le_of_ble_eq_true rfl) rfl ?_
  refine z_lv [0, 1] rfl ?_
  refine z_loop (α := Nat) (fun (a9 : Nat) Φi => Im G x (rd, NN, fl, pe, le, nx, il, qu, kn, ec, nu, va, st, ep) Φi ∧ Fr x (fun j9 => j9 = 0 ∨ j9 = 3) Φ1 Φi ∧ (a9 ≤ 4) ∧ True) (fun a9 => [(1, .int (nI a9)), (0, .ref x)]) (fun a9 => 4 - a9) ?_ (0) ⟨hI1, fun _ _ => rfl, (show 0 ≤ 4 by omega), trivial⟩
  rintro i_1 Φl1 ⟨hI2, hF1, b_14, -⟩ ih1
  replace hI2 : Im G x (rd, NN, fl, pe, le, nx, il, qu, kn, ec, nu, va, st, ep) Φl1 := hI2
  replace b_14 : i_1 ≤ 4 := b_14
  show Z p9 l e9 _ s9 m9 _ w9 t9 k9 _ G 2 7 [(1, .int (nI i_1)), (0, .ref x)] [] Φl1 _ _ _
  refine z_iload_n B dX12_requestTemplates_7 rfl 0 rfl ?_
  refine z_iconst (v := 4) B dX12_requestTemplates_8 rfl ?_
  refine z_icmp_ge (tgt := 25) B dX12_requestTemplates_9 rfl (fun c_1 => ?_) (fun c_1 => ?_)
  · have e_1 : 4 ≤ i_1 := (nI_leI (a := 4) (b := i_1) (by omega) (by omega)).mp c_1
    exact z_ret_v B dX12_requestTemplates_25 ⟨rfl, rfl, hI2, (fun b9 h9 => ((hF1 b9 h9).trans ((fset_fr hΦ1 (fun h8 => h9 (0) h8 (show 0 = 0 ∨ 0 = 3 by decide))).trans rfl)))⟩
  · have e_2 : ¬ (4 ≤ i_1) := fun h9 => c_1 ((nI_leI (a := 4) (b := i_1) (by omega) (by omega)).mpr h9)
    refine z_aload_n B dX12_requestTemplates_12 rfl 1 rfl ?_
    obtain ⟨v_14, v_15, v_16, n_5, v_17, v_18, v_19, v_20, v_21, v_22, v_23, v_24, v_25, n_6, v_26, n_7, n_8, h_4, b_27, b_15, b_16, b_17, b_18, b_19, b_20, b_21, b_22, b_23, b_24, b_25, b_26⟩ := im0 hI2
    replace b_15 : 1 ≤ n_5 := b_15
    replace b_16 : n_5 ≤ 1024 := b_16
    replace b_17 : fl ≤ 12 := b_17
    replace b_18 : pe ≤ 24 := b_18
    replace b_19 : le ≤ 700 := b_19
    replace b_20 : qu ≤ 12 := b_20
    replace b_21 : n_6 ≤ 8 := b_21
    replace b_22 : n_7 ≤ 24 := b_22
    replace b_23 : n_8 ≤ 24 := b_23
    replace b_24 : il ≤ 700 := b_24
    replace b_25 : nx ≤ 701 := b_25
    replace b_26 : st ≤ 701 := b_26
    have h_5 : Φl1 x = some (o_ 14 [.int v_14, .ref (x + 1), .ref (x + 2), .int v_15, .int v_16, .int (nI n_5), .int v_17, .int v_18, .ref (x + 3), .ref (x + 4), .int v_19, .long v_20, .ref (x + 5), .int (nI fl), .int v_21, .long v_22, .long v_23, .long v_24, .long v_25, .ref (x + 6), .ref (x + 7), .int (nI pe), .ref (x + 8), .int (nI le), .ref (x + 9), .ref (x + 10), .int (nI qu), .ref (x + 11), .ref (x + 12), .ref (x + 13), .ref (x + 14), .ref (x + 15), .ref (x + 16), .int (nI n_6), .long v_26, .ref (x + 17), .ref (x + 18), .ref (x + 19), .ref (x + 20), .ref (x + 21), .ref (x + 22), .int (nI n_7), .ref (x + 23), .ref (x + 24), .int (nI n_8), .ref (x + 25), .int (nI il), .int (nI nx), .int ec, .int ep, .int kn, .int (nI st), .int nu, .long va]) := h_4
    refine z_get (ref := "FlowExporterModel") (C := RX12) (T := TX12) (N := 54) (ci := 14) (v := .ref (x + 3)) B hu_X12_requestTemplates_X12 rfl 8 (Nat.le_of_ble_eq_true rfl) hv_X12_requestTemplates_20 rfl h_5 rfl dX12_requestTemplates_13 ?_
    refine z_iload_n B dX12_requestTemplates_16 rfl 0 rfl ?_
    refine z_iconst (v := (-1)) B dX12_requestTemplates_17 rfl ?_
    obtain ⟨f_1, h_6⟩ := imk (k := 3) hI2
    have h_7 : Φl1 (x + 3) = some (ai_ G 4 f_1) := h_6
    refine z_iast B h_7 (Nat.le_trans hx (Nat.le_add_right x 3)) (vp_in_nI (by omega) (by omega)) dX12_requestTemplates_18 (fun Φ2 hΦ2 => ?_)
    have h_8 : Φ2 (x + 3) = some (ai_ G 4 (upd f_1 (nI i_1).toNatClampNeg (-1))) := fset_at hΦ2
    have hI3 : Im G x (rd, NN, fl, pe, le, nx, il, qu, kn, ec, nu, va, st, ep) Φ2 := Im.put (k := 3) hI2 hΦ2 ⟨_, rfl⟩
    refine z_iinc (k := 0) (v := nI (i_1 + 1)) (lv' := [(1, .int (nI (i_1 + 1))), (0, .ref x)]) B dX12_requestTemplates_19 rfl (nI_add i_1 1) (Nat.le_of_ble_eq_true rfl) rfl ?_
    refine z_goto (tgt := 7) B dX12_requestTemplates_22 rfl ?_
    refine z_lv [0, 1] rfl ?_
    exact ih1 (i_1 + 1) Φ2 (show 4 - (i_1 + 1) < 4 - i_1 by omega) ⟨hI3, (fun b9 h9 => ((fset_fr hΦ2 (fun h8 => h9 (3) h8 (show 3 = 0 ∨ 3 = 3 by decide))).trans ((hF1 b9 h9).trans rfl))), (show (i_1 + 1) ≤ 4 by omega), trivial⟩

theorem hu_X12_startExporter_X12 : ∀ w ∈ u_ws RX12 TX12 54, w ∈ wsX12_startExporter := fun _ h => List.mem_cons_of_mem _ (List.mem_append_left _ (List.mem_append_right _ (h)))

theorem hv_X12_startExporter_133 : Cond.fieldLink RX12 133 "FlowExporterModel" (TX12 13).2.1 (TX12 13).2.2.1 ∈ wsX12_startExporter := List.mem_cons_of_mem _ (List.mem_append_left _ (List.mem_append_left _ (List.mem_of_getElem? (i := 0) rfl)))

theorem hv_X12_startExporter_136 : Cond.fieldLink RX12 136 "FlowExporterModel" (TX12 21).2.1 (TX12 21).2.2.1 ∈ wsX12_startExporter := List.mem_cons_of_mem _ (List.mem_append_left _ (List.mem_append_left _ (List.mem_of_getElem? (i := 1) rfl)))

theorem hv_X12_startExporter_201 : Cond.fieldLink RX12 201 "FlowExporterModel" (TX12 11).2.1 (TX12 11).2.2.1 ∈ wsX12_startExporter := List.mem_cons_of_mem _ (List.mem_append_left _ (List.mem_append_left _ (List.mem_of_getElem? (i := 2) rfl)))

theorem hv_X12_startExporter_20 : Cond.fieldLink RX12 20 "FlowExporterModel" (TX12 8).2.1 (TX12 8).2.2.1 ∈ wsX12_startExporter := List.mem_cons_of_mem _ (List.mem_append_left _ (List.mem_append_left _ (List.mem_of_getElem? (i := 3) rfl)))

set_option maxHeartbeats 4000000 in
set_option maxRecDepth 100000 in
theorem r_startExporter (G : EnvG) (l : Launch) (Φ : Hm) (sz x : Nat) (rd : (Nat → Int32) → Prop) (fl : Nat) (pe : Nat) (le : Nat) (nx : Nat) (il : Nat) (qu : Nat) (kn : Int32) (ec : Int32) (nu : Int32) (va : Int64) (st : Nat) (ep : Int32)  (hx : G.2.2.2 ≤ x) (hI : Im G x (rd, NN, fl, pe, le, nx, il, qu, kn, ec, nu, va, st, ep) Φ)  : Ct G l yX12_startExporter wsX12_startExporter ({ frames := 0, cells := 0, slots := 0, locals := 0 }) 0 0 [.ref x] Φ sz (fun v Φ1 sz1 => (v = none) ∧ sz1 = sz ∧ (Im G x (rd, NN, 0, 0, le, nx, il, qu, kn, ec, nu, va, st, ep) Φ1) ∧ Fr x (fun j9 => j9 = 0 ∨ j9 = 3) Φ Φ1) := by
  refine Ct.of (cc := cX12_startExporter) (maxL := 2) (ret := none) (by decide) rfl (Nat.le_of_ble_eq_true rfl) ?_
  intro p9 e9 s9 m9 w9 t9 k9 B
  show Z p9 l e9 _ s9 m9 _ w9 t9 k9 _ G 2 0 [(0, .ref x)] [] Φ sz 0 0
  refine z_aload_n B dX12_startExporter_0 rfl 0 rfl ?_
  refine z_iconst (v := 0) B dX12_startExporter_1 rfl ?_
  obtain ⟨v_1, v_2, v_3, n_1, v_4, v_5, v_6, v_7, v_8, v_9, v_10, v_11, v_12, n_2, v_13, n_3, n_4, h_1, b_13, b_1, b_2, b_3, b_4, b_5, b_6, b_7, b_8, b_9, b_10, b_11, b_12⟩ := im0 hI
  replace b_1 : 1 ≤ n_1 := b_1
  replace b_2 : n_1 ≤ 1024 := b_2
  replace b_3 : fl ≤ 12 := b_3
  replace b_4 : pe ≤ 24 := b_4
  replace b_5 : le ≤ 700 := b_5
  replace b_6 : qu ≤ 12 := b_6
  replace b_7 : n_2 ≤ 8 := b_7
  replace b_8 : n_3 ≤ 24 := b_8
  replace b_9 : n_4 ≤ 24 := b_9
  replace b_10 : il ≤ 700 := b_10
  replace b_11 : nx ≤ 701 := b_11
  replace b_12 : st ≤ 701 := b_12
  have h_2 : Φ x = some (o_ 14 [.int v_1, .ref (x + 1), .ref (x + 2), .int v_2, .int v_3, .int (nI n_1), .int v_4, .int v_5, .ref (x + 3), .ref (x + 4), .int v_6, .long v_7, .ref (x + 5), .int (nI fl), .int v_8, .long v_9, .long v_10, .long v_11, .long v_12, .ref (x + 6), .ref (x + 7), .int (nI pe), .ref (x + 8), .int (nI le), .ref (x + 9), .ref (x + 10), .int (nI qu), .ref (x + 11), .ref (x + 12), .ref (x + 13), .ref (x + 14), .ref (x + 15), .ref (x + 16), .int (nI n_2), .long v_13, .ref (x + 17), .ref (x + 18), .ref (x + 19), .ref (x + 20), .ref (x + 21), .ref (x + 22), .int (nI n_3), .ref (x + 23), .ref (x + 24), .int (nI n_4), .ref (x + 25), .int (nI il), .int (nI nx), .int ec, .int ep, .int kn, .int (nI st), .int nu, .long va]) := h_1
  refine z_put (ref := "FlowExporterModel") (C := RX12) (T := TX12) (N := 54) (ci := 14) (v := .int 0) B hu_X12_startExporter_X12 tyX12 tyX12_ok nmX12 rfl 13 (Nat.le_of_ble_eq_true rfl) hv_X12_startExporter_133 rfl (Or.inl rfl) h_2 hx rfl rfl (Nat.le_of_ble_eq_true rfl) dX12_startExporter_2 (fun Φ1 hΦ1 => ?_)
  have h_3 : Φ1 x = some (o_ 14 [.int v_1, .ref (x + 1), .ref (x + 2), .int v_2, .int v_3, .int (nI n_1), .int v_4, .int v_5, .ref (x + 3), .ref (x + 4), .int v_6, .long v_7, .ref (x + 5), .int 0, .int v_8, .long v_9, .long v_10, .long v_11, .long v_12, .ref (x + 6), .ref (x + 7), .int (nI pe), .ref (x + 8), .int (nI le), .ref (x + 9), .ref (x + 10), .int (nI qu), .ref (x + 11), .ref (x + 12), .ref (x + 13), .ref (x + 14), .ref (x + 15), .ref (x + 16), .int (nI n_2), .long v_13, .ref (x + 17), .ref (x + 18), .ref (x + 19), .ref (x + 20), .ref (x + 21), .ref (x + 22), .int (nI n_3), .ref (x + 23), .ref (x + 24), .int (nI n_4), .ref (x + 25), .int (nI il), .int (nI nx), .int ec, .int ep, .int kn, .int (nI st), .int nu, .long va]) := fset_at hΦ1
  have hI1 : Im G x (rd, NN, 0, pe, le, nx, il, qu, kn, ec, nu, va, st, ep) Φ1 := Im.put0 hI hΦ1 ⟨v_1, v_2, v_3, n_1, v_4, v_5, v_6, v_7, v_8, v_9, v_10, v_11, v_12, n_2, v_13, n_3, n_4, rfl, b_13, b_1, b_2, (show 0 ≤ 12 by omega), b_4, b_5, b_6, b_7, b_8, b_9, b_10, b_11, b_12⟩
  refine z_aload_n B dX12_startExporter_5 rfl 0 rfl ?_
  refine z_iconst (v := 0) B dX12_startExporter_6 rfl ?_
  refine z_put (ref := "FlowExporterModel") (C := RX12) (T := TX12) (N := 54) (ci := 14) (v := .int 0) B hu_X12_startExporter_X12 tyX12 tyX12_ok nmX12 rfl 21 (Nat.le_of_ble_eq_true rfl) hv_X12_startExporter_136 rfl (Or.inl rfl) h_3 hx rfl rfl (Nat.le_of_ble_eq_true rfl) dX12_startExporter_7 (fun Φ2 hΦ2 => ?_)
  have h_4 : Φ2 x = some (o_ 14 [.int v_1, .ref (x + 1), .ref (x + 2), .int v_2, .int v_3, .int (nI n_1), .int v_4, .int v_5, .ref (x + 3), .ref (x + 4), .int v_6, .long v_7, .ref (x + 5), .int 0, .int v_8, .long v_9, .long v_10, .long v_11, .long v_12, .ref (x + 6), .ref (x + 7), .int 0, .ref (x + 8), .int (nI le), .ref (x + 9), .ref (x + 10), .int (nI qu), .ref (x + 11), .ref (x + 12), .ref (x + 13), .ref (x + 14), .ref (x + 15), .ref (x + 16), .int (nI n_2), .long v_13, .ref (x + 17), .ref (x + 18), .ref (x + 19), .ref (x + 20), .ref (x + 21), .ref (x + 22), .int (nI n_3), .ref (x + 23), .ref (x + 24), .int (nI n_4), .ref (x + 25), .int (nI il), .int (nI nx), .int ec, .int ep, .int kn, .int (nI st), .int nu, .long va]) := fset_at hΦ2
  have hI2 : Im G x (rd, NN, 0, 0, le, nx, il, qu, kn, ec, nu, va, st, ep) Φ2 := Im.put0 hI1 hΦ2 ⟨v_1, v_2, v_3, n_1, v_4, v_5, v_6, v_7, v_8, v_9, v_10, v_11, v_12, n_2, v_13, n_3, n_4, rfl, b_13, b_1, b_2, (show 0 ≤ 12 by omega), (show 0 ≤ 24 by omega), b_5, b_6, b_7, b_8, b_9, b_10, b_11, b_12⟩
  refine z_aload_n B dX12_startExporter_10 rfl 0 rfl ?_
  refine z_lconst (v := 0) B dX12_startExporter_11 rfl ?_
  refine z_put (ref := "FlowExporterModel") (C := RX12) (T := TX12) (N := 54) (ci := 14) (v := .long 0) B hu_X12_startExporter_X12 tyX12 tyX12_ok nmX12 rfl 11 (Nat.le_of_ble_eq_true rfl) hv_X12_startExporter_201 rfl (Or.inl rfl) h_4 hx rfl rfl (Nat.le_of_ble_eq_true rfl) dX12_startExporter_12 (fun Φ3 hΦ3 => ?_)
  have h_5 : Φ3 x = some (o_ 14 [.int v_1, .ref (x + 1), .ref (x + 2), .int v_2, .int v_3, .int (nI n_1), .int v_4, .int v_5, .ref (x + 3), .ref (x + 4), .int v_6, .long 0, .ref (x + 5), .int 0, .int v_8, .long v_9, .long v_10, .long v_11, .long v_12, .ref (x + 6), .ref (x + 7), .int 0, .ref (x + 8), .int (nI le), .ref (x + 9), .ref (x + 10), .int (nI qu), .ref (x + 11), .ref (x + 12), .ref (x + 13), .ref (x + 14), .ref (x + 15), .ref (x + 16), .int (nI n_2), .long v_13, .ref (x + 17), .ref (x + 18), .ref (x + 19), .ref (x + 20), .ref (x + 21), .ref (x + 22), .int (nI n_3), .ref (x + 23), .ref (x + 24), .int (nI n_4), .ref (x + 25), .int (nI il), .int (nI nx), .int ec, .int ep, .int kn, .int (nI st), .int nu, .long va]) := fset_at hΦ3
  have hI3 : Im G x (rd, NN, 0, 0, le, nx, il, qu, kn, ec, nu, va, st, ep) Φ3 := Im.put0 hI2 hΦ3 ⟨v_1, v_2, v_3, n_1, v_4, v_5, v_6, 0, v_8, v_9, v_10, v_11, v_12, n_2, v_13, n_3, n_4, rfl, b_13, b_1, b_2, (show 0 ≤ 12 by omega), (show 0 ≤ 24 by omega), b_5, b_6, b_7, b_8, b_9, b_10, b_11, b_12⟩
  refine z_iconst (v := 0) B dX12_startExporter_15 rfl ?_
  refine z_istore_n (lv' := [(1, .int 0), (0, .ref x)]) B dX12_startExporter_16 rfl (Nat.le_of_ble_eq_true rfl) rfl ?_
  refine z_lv [0, 1] rfl ?_
  refine z_loop (α := Nat) (fun (a9 : Nat) Φi => Im G x (rd, NN, 0, 0, le, nx, il, qu, kn, ec, nu, va, st, ep) Φi ∧ Fr x (fun j9 => j9 = 0 ∨ j9 = 3) Φ3 Φi ∧ (a9 ≤ 4) ∧ True) (fun a9 => [(1, .int (nI a9)), (0, .ref x)]) (fun a9 => 4 - a9) ?_ (0) ⟨hI3, fun _ _ => rfl, (show 0 ≤ 4 by omega), trivial⟩
  rintro i_1 Φl1 ⟨hI4, hF1, b_14, -⟩ ih1
  replace hI4 : Im G x (rd, NN, 0, 0, le, nx, il, qu, kn, ec, nu, va, st, ep) Φl1 := hI4
  replace b_14 : i_1 ≤ 4 := b_14
  show Z p9 l e9 _ s9 m9 _ w9 t9 k9 _ G 2 17 [(1, .int (nI i_1)), (0, .ref x)] [] Φl1 _ _ _
  refine z_iload_n B dX12_startExporter_17 rfl 0 rfl ?_
  refine z_iconst (v := 4) B dX12_startExporter_18 rfl ?_
  refine z_icmp_ge (tgt := 35) B dX12_startExporter_19 rfl (fun c_1 => ?_) (fun c_1 => ?_)
  · have e_1 : 4 ≤ i_1 := (nI_leI (a := 4) (b := i_1) (by omega) (by omega)).mp c_1
    exact z_ret_v B dX12_startExporter_35 ⟨rfl, rfl, hI4, (fun b9 h9 => ((hF1 b9 h9).trans ((fset_fr hΦ3 (fun h8 => h9 (0) h8 (show 0 = 0 ∨ 0 = 3 by decide))).trans ((fset_fr hΦ2 (fun h8 => h9 (0) h8 (show 0 = 0 ∨ 0 = 3 by decide))).trans ((fset_fr hΦ1 (fun h8 => h9 (0) h8 (show 0 = 0 ∨ 0 = 3 by decide))).trans rfl)))))⟩
  · have e_2 : ¬ (4 ≤ i_1) := fun h9 => c_1 ((nI_leI (a := 4) (b := i_1) (by omega) (by omega)).mpr h9)
    refine z_aload_n B dX12_startExporter_22 rfl 1 rfl ?_
    obtain ⟨v_14, v_15, v_16, n_5, v_17, v_18, v_19, v_20, v_21, v_22, v_23, v_24, v_25, n_6, v_26, n_7, n_8, h_6, b_27, b_15, b_16, b_17, b_18, b_19, b_20, b_21, b_22, b_23, b_24, b_25, b_26⟩ := im0 hI4
    replace b_15 : 1 ≤ n_5 := b_15
    replace b_16 : n_5 ≤ 1024 := b_16
    replace b_17 : 0 ≤ 12 := b_17
    replace b_18 : 0 ≤ 24 := b_18
    replace b_19 : le ≤ 700 := b_19
    replace b_20 : qu ≤ 12 := b_20
    replace b_21 : n_6 ≤ 8 := b_21
    replace b_22 : n_7 ≤ 24 := b_22
    replace b_23 : n_8 ≤ 24 := b_23
    replace b_24 : il ≤ 700 := b_24
    replace b_25 : nx ≤ 701 := b_25
    replace b_26 : st ≤ 701 := b_26
    have h_7 : Φl1 x = some (o_ 14 [.int v_14, .ref (x + 1), .ref (x + 2), .int v_15, .int v_16, .int (nI n_5), .int v_17, .int v_18, .ref (x + 3), .ref (x + 4), .int v_19, .long v_20, .ref (x + 5), .int (nI 0), .int v_21, .long v_22, .long v_23, .long v_24, .long v_25, .ref (x + 6), .ref (x + 7), .int (nI 0), .ref (x + 8), .int (nI le), .ref (x + 9), .ref (x + 10), .int (nI qu), .ref (x + 11), .ref (x + 12), .ref (x + 13), .ref (x + 14), .ref (x + 15), .ref (x + 16), .int (nI n_6), .long v_26, .ref (x + 17), .ref (x + 18), .ref (x + 19), .ref (x + 20), .ref (x + 21), .ref (x + 22), .int (nI n_7), .ref (x + 23), .ref (x + 24), .int (nI n_8), .ref (x + 25), .int (nI il), .int (nI nx), .int ec, .int ep, .int kn, .int (nI st), .int nu, .long va]) := h_6
    refine z_get (ref := "FlowExporterModel") (C := RX12) (T := TX12) (N := 54) (ci := 14) (v := .ref (x + 3)) B hu_X12_startExporter_X12 rfl 8 (Nat.le_of_ble_eq_true rfl) hv_X12_startExporter_20 rfl h_7 rfl dX12_startExporter_23 ?_
    refine z_iload_n B dX12_startExporter_26 rfl 0 rfl ?_
    refine z_iconst (v := (-1)) B dX12_startExporter_27 rfl ?_
    obtain ⟨f_1, h_8⟩ := imk (k := 3) hI4
    have h_9 : Φl1 (x + 3) = some (ai_ G 4 f_1) := h_8
    refine z_iast B h_9 (Nat.le_trans hx (Nat.le_add_right x 3)) (vp_in_nI (by omega) (by omega)) dX12_startExporter_28 (fun Φ4 hΦ4 => ?_)
    have h_10 : Φ4 (x + 3) = some (ai_ G 4 (upd f_1 (nI i_1).toNatClampNeg (-1))) := fset_at hΦ4
    have hI5 : Im G x (rd, NN, 0, 0, le, nx, il, qu, kn, ec, nu, va, st, ep) Φ4 := Im.put (k := 3) hI4 hΦ4 ⟨_, rfl⟩
    refine z_iinc (k := 0) (v := nI (i_1 + 1)) (lv' := [(1, .int (nI (i_1 + 1))), (0, .ref x)]) B dX12_startExporter_29 rfl (nI_add i_1 1) (Nat.le_of_ble_eq_true rfl) rfl ?_
    refine z_goto (tgt := 17) B dX12_startExporter_32 rfl ?_
    refine z_lv [0, 1] rfl ?_
    exact ih1 (i_1 + 1) Φ4 (show 4 - (i_1 + 1) < 4 - i_1 by omega) ⟨hI5, (fun b9 h9 => ((fset_fr hΦ4 (fun h8 => h9 (3) h8 (show 3 = 0 ∨ 3 = 3 by decide))).trans ((hF1 b9 h9).trans rfl))), (show (i_1 + 1) ≤ 4 by omega), trivial⟩

theorem hu_X12_startCollector_X12 : ∀ w ∈ u_ws RX12 TX12 54, w ∈ wsX12_startCollector := fun _ h => List.mem_cons_of_mem _ (List.mem_append_left _ (List.mem_append_right _ (h)))

theorem hv_X12_startCollector_326 : Cond.fieldLink RX12 326 "FlowExporterModel" (TX12 33).2.1 (TX12 33).2.2.1 ∈ wsX12_startCollector := List.mem_cons_of_mem _ (List.mem_append_left _ (List.mem_append_left _ (List.mem_of_getElem? (i := 1) rfl)))

theorem hv_X12_startCollector_331 : Cond.fieldLink RX12 331 "FlowExporterModel" (TX12 34).2.1 (TX12 34).2.2.1 ∈ wsX12_startCollector := List.mem_cons_of_mem _ (List.mem_append_left _ (List.mem_append_left _ (List.mem_of_getElem? (i := 3) rfl)))

theorem hv_X12_startCollector_48 : Cond.fieldLink RX12 48 "FlowExporterModel" (TX12 28).2.1 (TX12 28).2.2.1 ∈ wsX12_startCollector := List.mem_cons_of_mem _ (List.mem_append_left _ (List.mem_append_left _ (List.mem_of_getElem? (i := 0) rfl)))

set_option maxHeartbeats 4000000 in
set_option maxRecDepth 100000 in
theorem r_startCollector (G : EnvG) (l : Launch) (Φ : Hm) (sz x : Nat) (rd : (Nat → Int32) → Prop) (fl : Nat) (pe : Nat) (le : Nat) (nx : Nat) (il : Nat) (qu : Nat) (kn : Int32) (ec : Int32) (nu : Int32) (va : Int64) (st : Nat) (ep : Int32)  (hx : G.2.2.2 ≤ x) (hI : Im G x (rd, NN, fl, pe, le, nx, il, qu, kn, ec, nu, va, st, ep) Φ)  : Ct G l yX12_startCollector wsX12_startCollector ({ frames := 0, cells := 0, slots := 0, locals := 0 }) 0 0 [.ref x] Φ sz (fun v Φ1 sz1 => (v = none) ∧ sz1 = sz ∧ (Im G x (rd, NN, fl, pe, le, nx, il, qu, kn, ec, nu, va, st, ep) Φ1) ∧ Fr x (fun j9 => j9 = 0 ∨ j9 = 12) Φ Φ1) := by
  refine Ct.of (cc := cX12_startCollector) (maxL := 2) (ret := none) (by decide) rfl (Nat.le_of_ble_eq_true rfl) ?_
  intro p9 e9 s9 m9 w9 t9 k9 B
  show Z p9 l e9 _ s9 m9 _ w9 t9 k9 _ G 2 0 [(0, .ref x)] [] Φ sz 0 0
  refine z_iconst (v := 0) B dX12_startCollector_0 rfl ?_
  refine z_istore_n (lv' := [(1, .int 0), (0, .ref x)]) B dX12_startCollector_1 rfl (Nat.le_of_ble_eq_true rfl) rfl ?_
  refine z_lv [0, 1] rfl ?_
  refine z_loop (α := Nat) (fun (a9 : Nat) Φi => Im G x (rd, NN, fl, pe, le, nx, il, qu, kn, ec, nu, va, st, ep) Φi ∧ Fr x (fun j9 => j9 = 0 ∨ j9 = 12) Φ Φi ∧ (a9 ≤ 4) ∧ True) (fun a9 => [(1, .int (nI a9)), (0, .ref x)]) (fun a9 => 4 - a9) ?_ (0) ⟨hI, fun _ _ => rfl, (show 0 ≤ 4 by omega), trivial⟩
  rintro i_1 Φl1 ⟨hI1, hF1, b_1, -⟩ ih1
  replace hI1 : Im G x (rd, NN, fl, pe, le, nx, il, qu, kn, ec, nu, va, st, ep) Φl1 := hI1
  replace b_1 : i_1 ≤ 4 := b_1
  show Z p9 l e9 _ s9 m9 _ w9 t9 k9 _ G 2 2 [(1, .int (nI i_1)), (0, .ref x)] [] Φl1 _ _ _
  refine z_iload_n B dX12_startCollector_2 rfl 0 rfl ?_
  refine z_iconst (v := 4) B dX12_startCollector_3 rfl ?_
  refine z_icmp_ge (tgt := 20) B dX12_startCollector_4 rfl (fun c_1 => ?_) (fun c_1 => ?_)
  · have e_1 : 4 ≤ i_1 := (nI_leI (a := 4) (b := i_1) (by omega) (by omega)).mp c_1
    refine z_aload_n B dX12_startCollector_20 rfl 1 rfl ?_
    refine z_iconst (v := 0) B dX12_startCollector_21 rfl ?_
    obtain ⟨v_1, v_2, v_3, n_1, v_4, v_5, v_6, v_7, v_8, v_9, v_10, v_11, v_12, n_2, v_13, n_3, n_4, h_1, b_14, b_2, b_3, b_4, b_5, b_6, b_7, b_8, b_9, b_10, b_11, b_12, b_13⟩ := im0 hI1
    replace b_2 : 1 ≤ n_1 := b_2
    replace b_3 : n_1 ≤ 1024 := b_3
    replace b_4 : fl ≤ 12 := b_4
    replace b_5 : pe ≤ 24 := b_5
    replace b_6 : le ≤ 700 := b_6
    replace b_7 : qu ≤ 12 := b_7
    replace b_8 : n_2 ≤ 8 := b_8
    replace b_9 : n_3 ≤ 24 := b_9
    replace b_10 : n_4 ≤ 24 := b_10
    replace b_11 : il ≤ 700 := b_11
    replace b_12 : nx ≤ 701 := b_12
    replace b_13 : st ≤ 701 := b_13
    have h_2 : Φl1 x = some (o_ 14 [.int v_1, .ref (x + 1), .ref (x + 2), .int v_2, .int v_3, .int (nI n_1), .int v_4, .int v_5, .ref (x + 3), .ref (x + 4), .int v_6, .long v_7, .ref (x + 5), .int (nI fl), .int v_8, .long v_9, .long v_10, .long v_11, .long v_12, .ref (x + 6), .ref (x + 7), .int (nI pe), .ref (x + 8), .int (nI le), .ref (x + 9), .ref (x + 10), .int (nI qu), .ref (x + 11), .ref (x + 12), .ref (x + 13), .ref (x + 14), .ref (x + 15), .ref (x + 16), .int (nI n_2), .long v_13, .ref (x + 17), .ref (x + 18), .ref (x + 19), .ref (x + 20), .ref (x + 21), .ref (x + 22), .int (nI n_3), .ref (x + 23), .ref (x + 24), .int (nI n_4), .ref (x + 25), .int (nI il), .int (nI nx), .int ec, .int ep, .int kn, .int (nI st), .int nu, .long va]) := h_1
    refine z_put (ref := "FlowExporterModel") (C := RX12) (T := TX12) (N := 54) (ci := 14) (v := .int 0) B hu_X12_startCollector_X12 tyX12 tyX12_ok nmX12 rfl 33 (Nat.le_of_ble_eq_true rfl) hv_X12_startCollector_326 rfl (Or.inl rfl) h_2 hx rfl rfl (Nat.le_of_ble_eq_true rfl) dX12_startCollector_22 (fun Φ1 hΦ1 => ?_)
    have h_3 : Φ1 x = some (o_ 14 [.int v_1, .ref (x + 1), .ref (x + 2), .int v_2, .int v_3, .int (nI n_1), .int v_4, .int v_5, .ref (x + 3), .ref (x + 4), .int v_6, .long v_7, .ref (x + 5), .int (nI fl), .int v_8, .long v_9, .long v_10, .long v_11, .long v_12, .ref (x + 6), .ref (x + 7), .int (nI pe), .ref (x + 8), .int (nI le), .ref (x + 9), .ref (x + 10), .int (nI qu), .ref (x + 11), .ref (x + 12), .ref (x + 13), .ref (x + 14), .ref (x + 15), .ref (x + 16), .int 0, .long v_13, .ref (x + 17), .ref (x + 18), .ref (x + 19), .ref (x + 20), .ref (x + 21), .ref (x + 22), .int (nI n_3), .ref (x + 23), .ref (x + 24), .int (nI n_4), .ref (x + 25), .int (nI il), .int (nI nx), .int ec, .int ep, .int kn, .int (nI st), .int nu, .long va]) := fset_at hΦ1
    have hI2 : Im G x (rd, NN, fl, pe, le, nx, il, qu, kn, ec, nu, va, st, ep) Φ1 := Im.put0 hI1 hΦ1 ⟨v_1, v_2, v_3, n_1, v_4, v_5, v_6, v_7, v_8, v_9, v_10, v_11, v_12, 0, v_13, n_3, n_4, rfl, b_14, b_2, b_3, b_4, b_5, b_6, b_7, (show 0 ≤ 8 by omega), b_9, b_10, b_11, b_12, b_13⟩
    refine z_aload_n B dX12_startCollector_25 rfl 1 rfl ?_
    refine z_ldc2 (v := (-1)) B (by decide +kernel) dX12_startCollector_26 ?_
    refine z_put (ref := "FlowExporterModel") (C := RX12) (T := TX12) (N := 54) (ci := 14) (v := .long (-1)) B hu_X12_startCollector_X12 tyX12 tyX12_ok nmX12 rfl 34 (Nat.le_of_ble_eq_true rfl) hv_X12_startCollector_331 rfl (Or.inl rfl) h_3 hx rfl rfl (Nat.le_of_ble_eq_true rfl) dX12_startCollector_29 (fun Φ2 hΦ2 => ?_)
    have h_4 : Φ2 x = some (o_ 14 [.int v_1, .ref (x + 1), .ref (x + 2), .int v_2, .int v_3, .int (nI n_1), .int v_4, .int v_5, .ref (x + 3), .ref (x + 4), .int v_6, .long v_7, .ref (x + 5), .int (nI fl), .int v_8, .long v_9, .long v_10, .long v_11, .long v_12, .ref (x + 6), .ref (x + 7), .int (nI pe), .ref (x + 8), .int (nI le), .ref (x + 9), .ref (x + 10), .int (nI qu), .ref (x + 11), .ref (x + 12), .ref (x + 13), .ref (x + 14), .ref (x + 15), .ref (x + 16), .int 0, .long (-1), .ref (x + 17), .ref (x + 18), .ref (x + 19), .ref (x + 20), .ref (x + 21), .ref (x + 22), .int (nI n_3), .ref (x + 23), .ref (x + 24), .int (nI n_4), .ref (x + 25), .int (nI il), .int (nI nx), .int ec, .int ep, .int kn, .int (nI st), .int nu, .long va]) := fset_at hΦ2
    have hI3 : Im G x (rd, NN, fl, pe, le, nx, il, qu, kn, ec, nu, va, st, ep) Φ2 := Im.put0 hI2 hΦ2 ⟨v_1, v_2, v_3, n_1, v_4, v_5, v_6, v_7, v_8, v_9, v_10, v_11, v_12, 0, (-1), n_3, n_4, rfl, b_14, b_2, b_3, b_4, b_5, b_6, b_7, (show 0 ≤ 8 by omega), b_9, b_10, b_11, b_12, b_13⟩
    exact z_ret_v B dX12_startCollector_32 ⟨rfl, rfl, hI3, (fun b9 h9 => ((fset_fr hΦ2 (fun h8 => h9 (0) h8 (show 0 = 0 ∨ 0 = 12 by decide))).trans ((fset_fr hΦ1 (fun h8 => h9 (0) h8 (show 0 = 0 ∨ 0 = 12 by decide))).trans ((hF1 b9 h9).trans rfl))))⟩
  · have e_2 : ¬ (4 ≤ i_1) := fun h9 => c_1 ((nI_leI (a := 4) (b := i_1) (by omega) (by omega)).mpr h9)
    refine z_aload_n B dX12_startCollector_7 rfl 1 rfl ?_
    obtain ⟨v_14, v_15, v_16, n_5, v_17, v_18, v_19, v_20, v_21, v_22, v_23, v_24, v_25, n_6, v_26, n_7, n_8, h_5, b_27, b_15, b_16, b_17, b_18, b_19, b_20, b_21, b_22, b_23, b_24, b_25, b_26⟩ := im0 hI1
    replace b_15 : 1 ≤ n_5 := b_15
    replace b_16 : n_5 ≤ 1024 := b_16
    replace b_17 : fl ≤ 12 := b_17
    replace b_18 : pe ≤ 24 := b_18
    replace b_19 : le ≤ 700 := b_19
    replace b_20 : qu ≤ 12 := b_20
    replace b_21 : n_6 ≤ 8 := b_21
    replace b_22 : n_7 ≤ 24 := b_22
    replace b_23 : n_8 ≤ 24 := b_23
    replace b_24 : il ≤ 700 := b_24
    replace b_25 : nx ≤ 701 := b_25
    replace b_26 : st ≤ 701 := b_26
    have h_6 : Φl1 x = some (o_ 14 [.int v_14, .ref (x + 1), .ref (x + 2), .int v_15, .int v_16, .int (nI n_5), .int v_17, .int v_18, .ref (x + 3), .ref (x + 4), .int v_19, .long v_20, .ref (x + 5), .int (nI fl), .int v_21, .long v_22, .long v_23, .long v_24, .long v_25, .ref (x + 6), .ref (x + 7), .int (nI pe), .ref (x + 8), .int (nI le), .ref (x + 9), .ref (x + 10), .int (nI qu), .ref (x + 11), .ref (x + 12), .ref (x + 13), .ref (x + 14), .ref (x + 15), .ref (x + 16), .int (nI n_6), .long v_26, .ref (x + 17), .ref (x + 18), .ref (x + 19), .ref (x + 20), .ref (x + 21), .ref (x + 22), .int (nI n_7), .ref (x + 23), .ref (x + 24), .int (nI n_8), .ref (x + 25), .int (nI il), .int (nI nx), .int ec, .int ep, .int kn, .int (nI st), .int nu, .long va]) := h_5
    refine z_get (ref := "FlowExporterModel") (C := RX12) (T := TX12) (N := 54) (ci := 14) (v := .ref (x + 12)) B hu_X12_startCollector_X12 rfl 28 (Nat.le_of_ble_eq_true rfl) hv_X12_startCollector_48 rfl h_6 rfl dX12_startCollector_8 ?_
    refine z_iload_n B dX12_startCollector_11 rfl 0 rfl ?_
    refine z_iconst (v := 0) B dX12_startCollector_12 rfl ?_
    obtain ⟨f_1, h_7, r_1⟩ := imk (k := 12) hI1
    replace r_1 : Rw 9 f_1 := r_1
    have h_8 : Φl1 (x + 12) = some (ai_ G 4 f_1) := h_7
    refine z_iast B h_8 (Nat.le_trans hx (Nat.le_add_right x 12)) (vp_in_nI (by omega) (by omega)) dX12_startCollector_13 (fun Φ3 hΦ3 => ?_)
    have h_9 : Φ3 (x + 12) = some (ai_ G 4 (upd f_1 (nI i_1).toNatClampNeg 0)) := fset_at hΦ3
    have hI4 : Im G x (rd, NN, fl, pe, le, nx, il, qu, kn, ec, nu, va, st, ep) Φ3 := Im.put (k := 12) hI1 hΦ3 ⟨_, rfl, Rw.up (n := 0) r_1 (show 0 ≤ 9 by omega)⟩
    refine z_iinc (k := 0) (v := nI (i_1 + 1)) (lv' := [(1, .int (nI (i_1 + 1))), (0, .ref x)]) B dX12_startCollector_14 rfl (nI_add i_1 1) (Nat.le_of_ble_eq_true rfl) rfl ?_
    refine z_goto (tgt := 2) B dX12_startCollector_17 rfl ?_
    refine z_lv [0, 1] rfl ?_
    exact ih1 (i_1 + 1) Φ3 (show 4 - (i_1 + 1) < 4 - i_1 by omega) ⟨hI4, (fun b9 h9 => ((fset_fr hΦ3 (fun h8 => h9 (12) h8 (show 12 = 0 ∨ 12 = 12 by decide))).trans ((hF1 b9 h9).trans rfl))), (show (i_1 + 1) ≤ 4 by omega), trivial⟩

theorem hu_X12_restartExporter_X12 : ∀ w ∈ u_ws RX12 TX12 54, w ∈ wsX12_restartExporter := fun _ h => List.mem_cons_of_mem _ (List.mem_append_left _ (List.mem_append_right _ (h)))

theorem hv_X12_restartExporter_1 : Cond.fieldLink RX12 1 "FlowExporterModel" (TX12 0).2.1 (TX12 0).2.2.1 ∈ wsX12_restartExporter := List.mem_cons_of_mem _ (List.mem_append_left _ (List.mem_append_left _ (List.mem_of_getElem? (i := 0) rfl)))

theorem hv_X12_restartExporter_133 : Cond.fieldLink RX12 133 "FlowExporterModel" (TX12 13).2.1 (TX12 13).2.2.1 ∈ wsX12_restartExporter := List.mem_cons_of_mem _ (List.mem_append_left _ (List.mem_append_left _ (List.mem_of_getElem? (i := 1) rfl)))

set_option maxHeartbeats 4000000 in
set_option maxRecDepth 100000 in
theorem r_restartExporter (G : EnvG) (l : Launch) (Φ : Hm) (sz x : Nat) (rd : (Nat → Int32) → Prop) (fl : Nat) (pe : Nat) (le : Nat) (nx : Nat) (il : Nat) (qu : Nat) (kn : Int32) (ec : Int32) (nu : Int32) (va : Int64) (st : Nat) (ep : Int32)  (hx : G.2.2.2 ≤ x) (hI : Im G x (rd, NN, fl, pe, le, nx, il, qu, kn, ec, nu, va, st, ep) Φ)  : Ct G l yX12_restartExporter wsX12_restartExporter ({ frames := 1, cells := 0, slots := 0, locals := 21 }) 0 0 [.ref x] Φ sz (fun v Φ1 sz1 => (∃ r9 : Int32, v = some (.int r9)) ∧ sz1 = sz ∧ (Im G x (rd, NN, 0, 0, le, nx, il, qu, kn, ec, nu, va, st, ep) Φ1) ∧ Fr x (fun j9 => j9 = 0 ∨ j9 = 3) Φ Φ1) := by
  refine Ct.of (cc := cX12_restartExporter) (maxL := 2) (ret := (some .int)) (by decide) rfl (Nat.le_of_ble_eq_true rfl) ?_
  intro p9 e9 s9 m9 w9 t9 k9 B
  show Z p9 l e9 _ s9 m9 _ w9 t9 k9 _ G 2 0 [(0, .ref x)] [] Φ sz 0 0
  refine z_aload_n B dX12_restartExporter_0 rfl 0 rfl ?_
  refine z_iconst (v := 0) B dX12_restartExporter_1 rfl ?_
  obtain ⟨v_1, v_2, v_3, n_1, v_4, v_5, v_6, v_7, v_8, v_9, v_10, v_11, v_12, n_2, v_13, n_3, n_4, h_1, b_13, b_1, b_2, b_3, b_4, b_5, b_6, b_7, b_8, b_9, b_10, b_11, b_12⟩ := im0 hI
  replace b_1 : 1 ≤ n_1 := b_1
  replace b_2 : n_1 ≤ 1024 := b_2
  replace b_3 : fl ≤ 12 := b_3
  replace b_4 : pe ≤ 24 := b_4
  replace b_5 : le ≤ 700 := b_5
  replace b_6 : qu ≤ 12 := b_6
  replace b_7 : n_2 ≤ 8 := b_7
  replace b_8 : n_3 ≤ 24 := b_8
  replace b_9 : n_4 ≤ 24 := b_9
  replace b_10 : il ≤ 700 := b_10
  replace b_11 : nx ≤ 701 := b_11
  replace b_12 : st ≤ 701 := b_12
  have h_2 : Φ x = some (o_ 14 [.int v_1, .ref (x + 1), .ref (x + 2), .int v_2, .int v_3, .int (nI n_1), .int v_4, .int v_5, .ref (x + 3), .ref (x + 4), .int v_6, .long v_7, .ref (x + 5), .int (nI fl), .int v_8, .long v_9, .long v_10, .long v_11, .long v_12, .ref (x + 6), .ref (x + 7), .int (nI pe), .ref (x + 8), .int (nI le), .ref (x + 9), .ref (x + 10), .int (nI qu), .ref (x + 11), .ref (x + 12), .ref (x + 13), .ref (x + 14), .ref (x + 15), .ref (x + 16), .int (nI n_2), .long v_13, .ref (x + 17), .ref (x + 18), .ref (x + 19), .ref (x + 20), .ref (x + 21), .ref (x + 22), .int (nI n_3), .ref (x + 23), .ref (x + 24), .int (nI n_4), .ref (x + 25), .int (nI il), .int (nI nx), .int ec, .int ep, .int kn, .int (nI st), .int nu, .long va]) := h_1
  refine z_put (ref := "FlowExporterModel") (C := RX12) (T := TX12) (N := 54) (ci := 14) (v := .int 0) B hu_X12_restartExporter_X12 tyX12 tyX12_ok nmX12 rfl 0 (Nat.le_of_ble_eq_true rfl) hv_X12_restartExporter_1 rfl (Or.inl rfl) h_2 hx rfl rfl (Nat.le_of_ble_eq_true rfl) dX12_restartExporter_2 (fun Φ1 hΦ1 => ?_)
  have h_3 : Φ1 x = some (o_ 14 [.int 0, .ref (x + 1), .ref (x + 2), .int v_2, .int v_3, .int (nI n_1), .int v_4, .int v_5, .ref (x + 3), .ref (x + 4), .int v_6, .long v_7, .ref (x + 5), .int (nI fl), .int v_8, .long v_9, .long v_10, .long v_11, .long v_12, .ref (x + 6), .ref (x + 7), .int (nI pe), .ref (x + 8), .int (nI le), .ref (x + 9), .ref (x + 10), .int (nI qu), .ref (x + 11), .ref (x + 12), .ref (x + 13), .ref (x + 14), .ref (x + 15), .ref (x + 16), .int (nI n_2), .long v_13, .ref (x + 17), .ref (x + 18), .ref (x + 19), .ref (x + 20), .ref (x + 21), .ref (x + 22), .int (nI n_3), .ref (x + 23), .ref (x + 24), .int (nI n_4), .ref (x + 25), .int (nI il), .int (nI nx), .int ec, .int ep, .int kn, .int (nI st), .int nu, .long va]) := fset_at hΦ1
  have hI1 : Im G x (rd, NN, fl, pe, le, nx, il, qu, kn, ec, nu, va, st, ep) Φ1 := Im.put0 hI hΦ1 ⟨0, v_2, v_3, n_1, v_4, v_5, v_6, v_7, v_8, v_9, v_10, v_11, v_12, n_2, v_13, n_3, n_4, rfl, b_13, b_1, b_2, b_3, b_4, b_5, b_6, b_7, b_8, b_9, b_10, b_11, b_12⟩
  refine z_aload_n B dX12_restartExporter_5 rfl 0 rfl ?_
  refine z_get (ref := "FlowExporterModel") (C := RX12) (T := TX12) (N := 54) (ci := 14) (v := .int (nI fl)) B hu_X12_restartExporter_X12 rfl 13 (Nat.le_of_ble_eq_true rfl) hv_X12_restartExporter_133 rfl h_3 rfl dX12_restartExporter_6 ?_
  refine z_istore_n (lv' := [(1, .int (nI fl)), (0, .ref x)]) B dX12_restartExporter_9 rfl (Nat.le_of_ble_eq_true rfl) rfl ?_
  refine z_aload_n B dX12_restartExporter_10 rfl 1 rfl ?_
  refine z_callV (As := []) (rest := []) B (r_startExporter G l Φ1 sz x rd fl pe le nx il qu kn ec nu va st ep  hx hI1 ) (cwV 0 B.1.2.2.2.2 gX12_restartExporter_X12_startExporter rfl rfl rfl (by decide +kernel) ⟨Nat.le_of_ble_eq_true rfl, Nat.le_of_ble_eq_true rfl⟩) h_3 rfl rfl rfl rfl (Nat.le_of_ble_eq_true rfl) dX12_restartExporter_11 ⟨Nat.le_of_ble_eq_true rfl, Nat.le_of_ble_eq_true rfl⟩ (fun r_1 Φ2 sz1 st1 hp1 hs1 => ?_)
  obtain ⟨rfl, hq1, hI2, hF1⟩ := hp1
  subst sz1
  replace hs1 : st1 = [] := hs1
  subst st1
  replace hI2 : Im G x (rd, NN, 0, 0, le, nx, il, qu, kn, ec, nu, va, st, ep) Φ2 := hI2
  refine z_iload_n B dX12_restartExporter_14 rfl 0 rfl ?_
  exact z_ret_i B dX12_restartExporter_15 ⟨⟨_, rfl⟩, rfl, hI2, (fun b9 h9 => ((hF1 b9 h9).trans ((fset_fr hΦ1 (fun h8 => h9 (0) h8 (show 0 = 0 ∨ 0 = 3 by decide))).trans rfl)))⟩
