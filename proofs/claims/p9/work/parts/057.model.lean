set_option maxRecDepth 20000 in
theorem ggX12_rateBits_Jxf58ca_floatToIntBits_5c35a : GoodIn wsX12_rateBits wsJxf58ca_floatToIntBits_5c35a := (goodIn_r _ [6, 7, 8, 9, 10, 11, 12, 13, 5, 14] rfl (by decide +kernel))
set_option maxRecDepth 20000 in
theorem gX12_rateBits_Jxf58ca_floatToIntBits_5c35a : GoodIn wsX12_rateBits (va_wsS RX12 163 yJxf58ca_floatToIntBits_5c35a wsJxf58ca_floatToIntBits_5c35a) := goodIn_app (goodIn_m (mem_cA (List.mem_cons_of_mem _ (List.mem_append_left _ (List.mem_of_getElem? (i := 2) rfl))) (mem_cA (List.mem_cons_of_mem _ (List.mem_append_left _ (List.mem_of_getElem? (i := 3) rfl))) (mem_cA (List.mem_cons_of_mem _ (List.mem_append_left _ (List.mem_of_getElem? (i := 4) rfl))) mem_cZ))) (by decide +kernel)) ggX12_rateBits_Jxf58ca_floatToIntBits_5c35a
theorem dX12_rateBits_0 : decode cX12_rateBits 0 = .ok (.aload_n 0, 1) := by decide +kernel
theorem dX12_rateBits_1 : decode cX12_rateBits 1 = .ok (.iconst 0, 1) := by decide +kernel
theorem dX12_rateBits_2 : decode cX12_rateBits 2 = .ok (.putfield 1, 3) := by decide +kernel
theorem dX12_rateBits_5 : decode cX12_rateBits 5 = .ok (.fconst 1, 1) := by decide +kernel
theorem dX12_rateBits_6 : decode cX12_rateBits 6 = .ok (.aload_n 0, 1) := by decide +kernel
theorem dX12_rateBits_7 : decode cX12_rateBits 7 = .ok (.getfield 107, 3) := by decide +kernel
theorem dX12_rateBits_10 : decode cX12_rateBits 10 = .ok (.i2f, 1) := by decide +kernel
theorem dX12_rateBits_11 : decode cX12_rateBits 11 = .ok (.fdiv, 1) := by decide +kernel
theorem dX12_rateBits_12 : decode cX12_rateBits 12 = .ok (.invokestatic 163, 3) := by decide +kernel
theorem dX12_rateBits_15 : decode cX12_rateBits 15 = .ok (.ireturn, 1) := by decide +kernel
set_option maxRecDepth 20000 in
theorem ggX12_setSupport_X12_inRange : GoodIn wsX12_setSupport wsX12_inRange := (goodIn_r _ [8] rfl (by decide +kernel))
set_option maxRecDepth 20000 in
theorem gX12_setSupport_X12_inRange : GoodIn wsX12_setSupport (va_wsS RX12 169 yX12_inRange wsX12_inRange) := goodIn_app (goodIn_m (mem_cA (List.mem_cons_of_mem _ (List.mem_append_left _ (List.mem_append_left _ (List.mem_append_left _ (List.mem_of_getElem? (i := 4) rfl))))) (mem_cA (List.mem_cons_of_mem _ (List.mem_append_left _ (List.mem_append_left _ (List.mem_append_left _ (List.mem_of_getElem? (i := 5) rfl))))) (mem_cA (List.mem_cons_of_mem _ (List.mem_append_left _ (List.mem_append_left _ (List.mem_append_left _ (List.mem_of_getElem? (i := 6) rfl))))) mem_cZ))) (by decide +kernel)) ggX12_setSupport_X12_inRange
set_option maxRecDepth 20000 in
theorem ggX12_setSupport_X12_throwsIf : GoodIn wsX12_setSupport wsX12_throwsIf := (goodIn_ca (goodIn_r _ [12, 1] rfl (by decide +kernel)) (goodIn_sub (fun _ h => List.mem_cons_of_mem _ (List.mem_append_left _ (List.mem_append_right _ h))) gw_wsX120))
set_option maxRecDepth 20000 in
theorem gX12_setSupport_X12_throwsIf : GoodIn wsX12_setSupport (wsV RX12 185 RX12 yX12_throwsIf wsX12_throwsIf) := goodIn_app (goodIn_m (mem_cA (List.mem_cons_of_mem _ (List.mem_append_left _ (List.mem_append_left _ (List.mem_append_left _ (List.mem_of_getElem? (i := 8) rfl))))) (mem_cA (List.mem_cons_of_mem _ (List.mem_append_left _ (List.mem_append_left _ (List.mem_append_left _ (List.mem_of_getElem? (i := 9) rfl))))) (mem_cA (List.mem_cons_of_mem _ (List.mem_append_left _ (List.mem_append_left _ (List.mem_append_left _ (List.mem_of_getElem? (i := 10) rfl))))) (mem_cA (List.mem_cons_of_mem _ (List.mem_append_left _ (List.mem_append_left _ (List.mem_append_left _ (List.mem_of_getElem? (i := 6) rfl))))) mem_cZ)))) (by decide +kernel)) ggX12_setSupport_X12_throwsIf
set_option maxRecDepth 20000 in
theorem ggX12_setSupport_X12_isSupported : GoodIn wsX12_setSupport wsX12_isSupported := goodIn_ca ((goodIn_ca (goodIn_r _ [16, 3] rfl (by decide +kernel)) (goodIn_sub (fun _ h => List.mem_cons_of_mem _ (List.mem_append_left _ (List.mem_append_right _ h))) gw_wsX120))) (goodIn_sub (fun _ h => List.mem_cons_of_mem _ (List.mem_append_right _ h)) (all_fg _))
set_option maxRecDepth 20000 in
theorem gX12_setSupport_X12_isSupported : GoodIn wsX12_setSupport (wsV RX12 206 RX12 yX12_isSupported wsX12_isSupported) := goodIn_app (goodIn_m (mem_cA (List.mem_cons_of_mem _ (List.mem_append_left _ (List.mem_append_left _ (List.mem_append_left _ (List.mem_of_getElem? (i := 12) rfl))))) (mem_cA (List.mem_cons_of_mem _ (List.mem_append_left _ (List.mem_append_left _ (List.mem_append_left _ (List.mem_of_getElem? (i := 13) rfl))))) (mem_cA (List.mem_cons_of_mem _ (List.mem_append_left _ (List.mem_append_left _ (List.mem_append_left _ (List.mem_of_getElem? (i := 14) rfl))))) (mem_cA (List.mem_cons_of_mem _ (List.mem_append_left _ (List.mem_append_left _ (List.mem_append_left _ (List.mem_of_getElem? (i := 6) rfl))))) mem_cZ)))) (by decide +kernel)) ggX12_setSupport_X12_isSupported
set_option maxRecDepth 20000 in
theorem ggX12_setSupport_X12_fieldsOf : GoodIn wsX12_setSupport wsX12_fieldsOf := goodIn_ca ((goodIn_ca (goodIn_r _ [20, 21, 22, 23, 7, 24, 3, 25, 26, 27, 28] rfl (by decide +kernel)) (goodIn_sub (fun _ h => List.mem_cons_of_mem _ (List.mem_append_left _ (List.mem_append_right _ h))) gw_wsX120))) (goodIn_sub (fun _ h => List.mem_cons_of_mem _ (List.mem_append_right _ h)) (all_fg _))
set_option maxRecDepth 20000 in
theorem gX12_setSupport_X12_fieldsOf : GoodIn wsX12_setSupport (wsV RX12 189 RX12 yX12_fieldsOf wsX12_fieldsOf) := goodIn_app (goodIn_m (mem_cA (List.mem_cons_of_mem _ (List.mem_append_left _ (List.mem_append_left _ (List.mem_append_left _ (List.mem_of_getElem? (i := 16) rfl))))) (mem_cA (List.mem_cons_of_mem _ (List.mem_append_left _ (List.mem_append_left _ (List.mem_append_left _ (List.mem_of_getElem? (i := 17) rfl))))) (mem_cA (List.mem_cons_of_mem _ (List.mem_append_left _ (List.mem_append_left _ (List.mem_append_left _ (List.mem_of_getElem? (i := 18) rfl))))) (mem_cA (List.mem_cons_of_mem _ (List.mem_append_left _ (List.mem_append_left _ (List.mem_append_left _ (List.mem_of_getElem? (i := 6) rfl))))) mem_cZ)))) (by decide +kernel)) ggX12_setSupport_X12_fieldsOf
theorem dX12_setSupport_0 : decode cX12_setSupport 0 = .ok (.aload_n 0, 1) := by decide +kernel
theorem dX12_setSupport_1 : decode cX12_setSupport 1 = .ok (.iconst 0, 1) := by decide +kernel
theorem dX12_setSupport_2 : decode cX12_setSupport 2 = .ok (.putfield 1, 3) := by decide +kernel
theorem dX12_setSupport_5 : decode cX12_setSupport 5 = .ok (.aload_n 0, 1) := by decide +kernel
theorem dX12_setSupport_6 : decode cX12_setSupport 6 = .ok (.iload_n 1, 1) := by decide +kernel
theorem dX12_setSupport_7 : decode cX12_setSupport 7 = .ok (.i2l, 1) := by decide +kernel
theorem dX12_setSupport_8 : decode cX12_setSupport 8 = .ok (.lconst 0, 1) := by decide +kernel
theorem dX12_setSupport_9 : decode cX12_setSupport 9 = .ok (.ldc2_w 204, 3) := by decide +kernel
theorem dX12_setSupport_12 : decode cX12_setSupport 12 = .ok (.invokestatic 169, 3) := by decide +kernel
theorem dX12_setSupport_15 : decode cX12_setSupport 15 = .ok (.ifCond .ne 7, 3) := by decide +kernel
theorem dX12_setSupport_18 : decode cX12_setSupport 18 = .ok (.iconst 1, 1) := by decide +kernel
theorem dX12_setSupport_19 : decode cX12_setSupport 19 = .ok (.goto 4, 3) := by decide +kernel
theorem dX12_setSupport_22 : decode cX12_setSupport 22 = .ok (.iconst 0, 1) := by decide +kernel
theorem dX12_setSupport_23 : decode cX12_setSupport 23 = .ok (.iconst 1, 1) := by decide +kernel
theorem dX12_setSupport_24 : decode cX12_setSupport 24 = .ok (.invokevirtual 185, 3) := by decide +kernel
theorem dX12_setSupport_27 : decode cX12_setSupport 27 = .ok (.ifCond .eq 5, 3) := by decide +kernel
theorem dX12_setSupport_30 : decode cX12_setSupport 30 = .ok (.iconst 0, 1) := by decide +kernel
theorem dX12_setSupport_31 : decode cX12_setSupport 31 = .ok (.ireturn, 1) := by decide +kernel
theorem dX12_setSupport_32 : decode cX12_setSupport 32 = .ok (.aload_n 0, 1) := by decide +kernel
theorem dX12_setSupport_33 : decode cX12_setSupport 33 = .ok (.iload_n 1, 1) := by decide +kernel
theorem dX12_setSupport_34 : decode cX12_setSupport 34 = .ok (.invokevirtual 206, 3) := by decide +kernel
theorem dX12_setSupport_37 : decode cX12_setSupport 37 = .ok (.istore_n 3, 1) := by decide +kernel
theorem dX12_setSupport_38 : decode cX12_setSupport 38 = .ok (.iload_n 3, 1) := by decide +kernel
theorem dX12_setSupport_39 : decode cX12_setSupport 39 = .ok (.iload_n 2, 1) := by decide +kernel
theorem dX12_setSupport_40 : decode cX12_setSupport 40 = .ok (.if_icmp .ne 5, 3) := by decide +kernel
theorem dX12_setSupport_43 : decode cX12_setSupport 43 = .ok (.iload_n 3, 1) := by decide +kernel
theorem dX12_setSupport_44 : decode cX12_setSupport 44 = .ok (.ireturn, 1) := by decide +kernel
theorem dX12_setSupport_45 : decode cX12_setSupport 45 = .ok (.aload_n 0, 1) := by decide +kernel
theorem dX12_setSupport_46 : decode cX12_setSupport 46 = .ok (.getfield 17, 3) := by decide +kernel
theorem dX12_setSupport_49 : decode cX12_setSupport 49 = .ok (.bipush 9, 2) := by decide +kernel
theorem dX12_setSupport_51 : decode cX12_setSupport 51 = .ok (.dup2, 1) := by decide +kernel
theorem dX12_setSupport_52 : decode cX12_setSupport 52 = .ok (.iaload, 1) := by decide +kernel
theorem dX12_setSupport_53 : decode cX12_setSupport 53 = .ok (.iconst 1, 1) := by decide +kernel
theorem dX12_setSupport_54 : decode cX12_setSupport 54 = .ok (.iload_n 1, 1) := by decide +kernel
theorem dX12_setSupport_55 : decode cX12_setSupport 55 = .ok (.ishl, 1) := by decide +kernel
theorem dX12_setSupport_56 : decode cX12_setSupport 56 = .ok (.ixor, 1) := by decide +kernel
theorem dX12_setSupport_57 : decode cX12_setSupport 57 = .ok (.iastore, 1) := by decide +kernel
theorem dX12_setSupport_58 : decode cX12_setSupport 58 = .ok (.iconst 0, 1) := by decide +kernel
theorem dX12_setSupport_59 : decode cX12_setSupport 59 = .ok (.istore 4, 2) := by decide +kernel
theorem dX12_setSupport_61 : decode cX12_setSupport 61 = .ok (.iload 4, 2) := by decide +kernel
theorem dX12_setSupport_63 : decode cX12_setSupport 63 = .ok (.aload_n 0, 1) := by decide +kernel
theorem dX12_setSupport_64 : decode cX12_setSupport 64 = .ok (.getfield 17, 3) := by decide +kernel
theorem dX12_setSupport_67 : decode cX12_setSupport 67 = .ok (.bipush 10, 2) := by decide +kernel
theorem dX12_setSupport_69 : decode cX12_setSupport 69 = .ok (.iaload, 1) := by decide +kernel
theorem dX12_setSupport_70 : decode cX12_setSupport 70 = .ok (.if_icmp .ge 31, 3) := by decide +kernel
theorem dX12_setSupport_73 : decode cX12_setSupport 73 = .ok (.aload_n 0, 1) := by decide +kernel
theorem dX12_setSupport_74 : decode cX12_setSupport 74 = .ok (.iload 4, 2) := by decide +kernel
theorem dX12_setSupport_76 : decode cX12_setSupport 76 = .ok (.invokevirtual 189, 3) := by decide +kernel
theorem dX12_setSupport_79 : decode cX12_setSupport 79 = .ok (.iload_n 1, 1) := by decide +kernel
theorem dX12_setSupport_80 : decode cX12_setSupport 80 = .ok (.ishr, 1) := by decide +kernel
theorem dX12_setSupport_81 : decode cX12_setSupport 81 = .ok (.iconst 1, 1) := by decide +kernel
theorem dX12_setSupport_82 : decode cX12_setSupport 82 = .ok (.iand, 1) := by decide +kernel
theorem dX12_setSupport_83 : decode cX12_setSupport 83 = .ok (.iconst 1, 1) := by decide +kernel
theorem dX12_setSupport_84 : decode cX12_setSupport 84 = .ok (.if_icmp .ne 11, 3) := by decide +kernel
theorem dX12_setSupport_87 : decode cX12_setSupport 87 = .ok (.aload_n 0, 1) := by decide +kernel
theorem dX12_setSupport_88 : decode cX12_setSupport 88 = .ok (.getfield 20, 3) := by decide +kernel
theorem dX12_setSupport_91 : decode cX12_setSupport 91 = .ok (.iload 4, 2) := by decide +kernel
theorem dX12_setSupport_93 : decode cX12_setSupport 93 = .ok (.iconst (-1), 1) := by decide +kernel
theorem dX12_setSupport_94 : decode cX12_setSupport 94 = .ok (.iastore, 1) := by decide +kernel
theorem dX12_setSupport_95 : decode cX12_setSupport 95 = .ok (.iinc 4 1, 3) := by decide +kernel
theorem dX12_setSupport_98 : decode cX12_setSupport 98 = .ok (.goto (-37), 3) := by decide +kernel
theorem dX12_setSupport_101 : decode cX12_setSupport 101 = .ok (.iload_n 3, 1) := by decide +kernel
theorem dX12_setSupport_102 : decode cX12_setSupport 102 = .ok (.ireturn, 1) := by decide +kernel
set_option maxRecDepth 20000 in
theorem ggX12_contentOf_Jxf58ca_floatToIntBits_5c35a : GoodIn wsX12_contentOf wsJxf58ca_floatToIntBits_5c35a := (goodIn_r _ [6, 7, 8, 9, 10, 11, 12, 13, 5, 14] rfl (by decide +kernel))
set_option maxRecDepth 20000 in
theorem gX12_contentOf_Jxf58ca_floatToIntBits_5c35a : GoodIn wsX12_contentOf (va_wsS RX12 163 yJxf58ca_floatToIntBits_5c35a wsJxf58ca_floatToIntBits_5c35a) := goodIn_app (goodIn_m (mem_cA (List.mem_cons_of_mem _ (List.mem_append_left _ (List.mem_append_left _ (List.mem_of_getElem? (i := 2) rfl)))) (mem_cA (List.mem_cons_of_mem _ (List.mem_append_left _ (List.mem_append_left _ (List.mem_of_getElem? (i := 3) rfl)))) (mem_cA (List.mem_cons_of_mem _ (List.mem_append_left _ (List.mem_append_left _ (List.mem_of_getElem? (i := 4) rfl)))) mem_cZ))) (by decide +kernel)) ggX12_contentOf_Jxf58ca_floatToIntBits_5c35a
theorem dX12_contentOf_0 : decode cX12_contentOf 0 = .ok (.iload_n 2, 1) := by decide +kernel
theorem dX12_contentOf_1 : decode cX12_contentOf 1 = .ok (.bipush 8, 2) := by decide +kernel
theorem dX12_contentOf_3 : decode cX12_contentOf 3 = .ok (.if_icmp .ne 17, 3) := by decide +kernel
theorem dX12_contentOf_6 : decode cX12_contentOf 6 = .ok (.fconst 1, 1) := by decide +kernel
theorem dX12_contentOf_7 : decode cX12_contentOf 7 = .ok (.aload_n 0, 1) := by decide +kernel
theorem dX12_contentOf_8 : decode cX12_contentOf 8 = .ok (.getfield 107, 3) := by decide +kernel
theorem dX12_contentOf_11 : decode cX12_contentOf 11 = .ok (.i2f, 1) := by decide +kernel
theorem dX12_contentOf_12 : decode cX12_contentOf 12 = .ok (.fdiv, 1) := by decide +kernel
theorem dX12_contentOf_13 : decode cX12_contentOf 13 = .ok (.invokestatic 163, 3) := by decide +kernel
theorem dX12_contentOf_16 : decode cX12_contentOf 16 = .ok (.i2l, 1) := by decide +kernel
theorem dX12_contentOf_17 : decode cX12_contentOf 17 = .ok (.goto 14, 3) := by decide +kernel
theorem dX12_contentOf_20 : decode cX12_contentOf 20 = .ok (.aload_n 0, 1) := by decide +kernel
theorem dX12_contentOf_21 : decode cX12_contentOf 21 = .ok (.getfield 26, 3) := by decide +kernel
theorem dX12_contentOf_24 : decode cX12_contentOf 24 = .ok (.bipush 8, 2) := by decide +kernel
theorem dX12_contentOf_26 : decode cX12_contentOf 26 = .ok (.iload_n 1, 1) := by decide +kernel
theorem dX12_contentOf_27 : decode cX12_contentOf 27 = .ok (.imul, 1) := by decide +kernel
theorem dX12_contentOf_28 : decode cX12_contentOf 28 = .ok (.iload_n 2, 1) := by decide +kernel
theorem dX12_contentOf_29 : decode cX12_contentOf 29 = .ok (.iadd, 1) := by decide +kernel
theorem dX12_contentOf_30 : decode cX12_contentOf 30 = .ok (.laload, 1) := by decide +kernel
theorem dX12_contentOf_31 : decode cX12_contentOf 31 = .ok (.lreturn, 1) := by decide +kernel
theorem dJxf58ca_isNaN_12338_0 : decode cJxf58ca_isNaN_12338 0 = .ok (.fload_n 0, 1) := by decide +kernel
theorem dJxf58ca_isNaN_12338_1 : decode cJxf58ca_isNaN_12338 1 = .ok (.fload_n 0, 1) := by decide +kernel
theorem dJxf58ca_isNaN_12338_2 : decode cJxf58ca_isNaN_12338 2 = .ok (.fcmp .l, 1) := by decide +kernel
theorem dJxf58ca_isNaN_12338_3 : decode cJxf58ca_isNaN_12338 3 = .ok (.ifCond .eq 7, 3) := by decide +kernel
theorem dJxf58ca_isNaN_12338_6 : decode cJxf58ca_isNaN_12338 6 = .ok (.iconst 1, 1) := by decide +kernel
theorem dJxf58ca_isNaN_12338_7 : decode cJxf58ca_isNaN_12338 7 = .ok (.goto 4, 3) := by decide +kernel
theorem dJxf58ca_isNaN_12338_10 : decode cJxf58ca_isNaN_12338 10 = .ok (.iconst 0, 1) := by decide +kernel
theorem dJxf58ca_isNaN_12338_11 : decode cJxf58ca_isNaN_12338 11 = .ok (.ireturn, 1) := by decide +kernel
set_option maxRecDepth 20000 in
theorem ggJxf58ca_floatToIntBits_5c35a_Jxf58ca_isNaN_12338 : GoodIn wsJxf58ca_floatToIntBits_5c35a wsJxf58ca_isNaN_12338 := (goodIn_r _ [9] rfl (by decide +kernel))
set_option maxRecDepth 20000 in
theorem gJxf58ca_floatToIntBits_5c35a_Jxf58ca_isNaN_12338 : GoodIn wsJxf58ca_floatToIntBits_5c35a (va_wsS RJxf58ca 59 yJxf58ca_isNaN_12338 wsJxf58ca_isNaN_12338) := goodIn_app (goodIn_m (mem_cA (List.mem_cons_of_mem _ (List.mem_of_getElem? (i := 5) rfl)) (mem_cA (List.mem_cons_of_mem _ (List.mem_of_getElem? (i := 6) rfl)) (mem_cA (List.mem_cons_of_mem _ (List.mem_of_getElem? (i := 7) rfl)) mem_cZ))) (by decide +kernel)) ggJxf58ca_floatToIntBits_5c35a_Jxf58ca_isNaN_12338
theorem dJxf58ca_floatToIntBits_5c35a_0 : decode cJxf58ca_floatToIntBits_5c35a 0 = .ok (.fload_n 0, 1) := by decide +kernel
theorem dJxf58ca_floatToIntBits_5c35a_1 : decode cJxf58ca_floatToIntBits_5c35a 1 = .ok (.invokestatic 59, 3) := by decide +kernel
theorem dJxf58ca_floatToIntBits_5c35a_4 : decode cJxf58ca_floatToIntBits_5c35a 4 = .ok (.ifCond .ne 8, 3) := by decide +kernel
theorem dJxf58ca_floatToIntBits_5c35a_7 : decode cJxf58ca_floatToIntBits_5c35a 7 = .ok (.fload_n 0, 1) := by decide +kernel
theorem dJxf58ca_floatToIntBits_5c35a_8 : decode cJxf58ca_floatToIntBits_5c35a 8 = .ok (.invokestatic 74, 3) := by decide +kernel
theorem dJxf58ca_floatToIntBits_5c35a_11 : decode cJxf58ca_floatToIntBits_5c35a 11 = .ok (.ireturn, 1) := by decide +kernel
theorem dJxf58ca_floatToIntBits_5c35a_12 : decode cJxf58ca_floatToIntBits_5c35a 12 = .ok (.ldc 77, 2) := by decide +kernel
theorem dJxf58ca_floatToIntBits_5c35a_14 : decode cJxf58ca_floatToIntBits_5c35a 14 = .ok (.ireturn, 1) := by decide +kernel
set_option maxHeartbeats 4000000 in
set_option maxRecDepth 100000 in
theorem r_setSupportC (G : EnvG) (l : Launch) (Φ : Hm) (sz x : Nat) (rd : (Nat → Int32) → Prop) (cr : (Nat → Int64) → Prop) (tp : (Nat → Int32) → Prop) (tt : (Nat → Int64) → Prop) (fl : Nat) (pe : Nat) (le : Nat) (nx : Nat) (il : Nat) (qu : Nat) (kn : Int32) (ec : Int32) (nu : Int32) (va : Int64) (st : Nat) (ep : Int32) (ti : Int32) (ad : Int32) (ob : Int64) (ra : Int32) (rt : Nat) (ex : Int32) (sa : Int64) (us : Int64) (tk : Nat) (th : Int32) (c : Cf) (a : Int32) (b : Int32) (hx : G.2.2.2 ≤ x) (hI : Im G x (rd, (NNq c), cr, tp, tt, fl, pe, le, nx, il, qu, kn, ec, nu, va, st, ep, ti, ad, ob, ra, rt, ex, sa, us, tk, th) Φ) (hb : b = 0 ∨ b = 1) : Ct G l yX12_setSupport wsX12_setSupport ({ frames := 2, cells := 0, slots := 0, locals := 45 }) 0 0 [.ref x, .int a, .int b] Φ sz (fun v Φ1 sz1 => (∃ r9 : Int32, v = some (.int r9)) ∧ sz1 = sz ∧ (∃ (cf1 : Cf) (th1 : Int32), ((¬ InF a ∧ v = some (.int 0) ∧ cf1 = c ∧ ∃ l9 : List Value, Φ1 x = some (o_ 14 (.int 1 :: l9))) ∨ (InF a ∧ v = some (.int (suV c a)) ∧ cf1 = suC c a b ∧ ∃ l9 : List Value, Φ1 x = some (o_ 14 (.int 0 :: l9)))) ∧ Im G x (rd, (NNq cf1), cr, tp, tt, fl, pe, le, nx, il, qu, kn, ec, nu, va, st, ep, ti, ad, ob, ra, rt, ex, sa, us, tk, th1) Φ1) ∧ Fr x (fun j9 => j9 = 0 ∨ j9 = 2 ∨ j9 = 3) Φ Φ1) := by
  refine Ct.of (cc := cX12_setSupport) (maxL := 5) (ret := (some .boolean)) (by decide) rfl (Nat.le_of_ble_eq_true rfl) ?_
  intro p9 e9 s9 m9 w9 t9 k9 B
  show Z p9 l e9 _ s9 m9 _ w9 t9 k9 _ G 5 0 [(0, .ref x), (1, .int a), (2, .int b)] [] Φ sz 0 0
  refine z_aload_n B dX12_setSupport_0 rfl 0 rfl ?_
  refine z_iconst (v := 0) B dX12_setSupport_1 rfl ?_
  obtain ⟨v_1, v_2, v_3, v_4, n_1, v_5, n_2, h_1, b_13, b_1, b_2, b_3, b_4, b_5, b_6, b_7, b_8, b_9, b_10, b_11, b_12⟩ := im0 hI
  replace b_1 : 1 ≤ rt := b_1
  replace b_2 : rt ≤ 1024 := b_2
  replace b_3 : fl ≤ 12 := b_3
  replace b_4 : pe ≤ 24 := b_4
  replace b_5 : le ≤ 700 := b_5
  replace b_6 : qu ≤ 12 := b_6
  replace b_7 : n_1 ≤ 8 := b_7
  replace b_8 : n_2 ≤ 24 := b_8
  replace b_9 : tk ≤ 24 := b_9
  replace b_10 : il ≤ 700 := b_10
  replace b_11 : nx ≤ 701 := b_11
  replace b_12 : st ≤ 701 := b_12
  have h_2 : Φ x = some (o_ 14 [.int th, .ref (x + 1), .ref (x + 2), .int ti, .int ra, .int (nI rt), .int ex, .int ad, .ref (x + 3), .ref (x + 4), .int v_1, .long v_2, .ref (x + 5), .int (nI fl), .int v_3, .long ob, .long sa, .long v_4, .long us, .ref (x + 6), .ref (x + 7), .int (nI pe), .ref (x + 8), .int (nI le), .ref (x + 9), .ref (x + 10), .int (nI qu), .ref (x + 11), .ref (x + 12), .ref (x + 13), .ref (x + 14), .ref (x + 15), .ref (x + 16), .int (nI n_1), .long v_5, .ref (x + 17), .ref (x + 18), .ref (x + 19), .ref (x + 20), .ref (x + 21), .ref (x + 22), .int (nI n_2), .ref (x + 23), .ref (x + 24), .int (nI tk), .ref (x + 25), .int (nI il), .int (nI nx), .int ec, .int ep, .int kn, .int (nI st), .int nu, .long va]) := h_1
  refine z_put (ref := "FlowExporterModel") (C := RX12) (T := TX12) (N := 54) (ci := 14) (v := .int 0) B hu_X12_setSupport_X12 tyX12 tyX12_ok nmX12 rfl 0 (Nat.le_of_ble_eq_true rfl) hv_X12_setSupport_1 rfl (Or.inl rfl) h_2 hx rfl rfl (Nat.le_of_ble_eq_true rfl) dX12_setSupport_2 (fun Φ1 hΦ1 => ?_)
  have h_3 : Φ1 x = some (o_ 14 [.int 0, .ref (x + 1), .ref (x + 2), .int ti, .int ra, .int (nI rt), .int ex, .int ad, .ref (x + 3), .ref (x + 4), .int v_1, .long v_2, .ref (x + 5), .int (nI fl), .int v_3, .long ob, .long sa, .long v_4, .long us, .ref (x + 6), .ref (x + 7), .int (nI pe), .ref (x + 8), .int (nI le), .ref (x + 9), .ref (x + 10), .int (nI qu), .ref (x + 11), .ref (x + 12), .ref (x + 13), .ref (x + 14), .ref (x + 15), .ref (x + 16), .int (nI n_1), .long v_5, .ref (x + 17), .ref (x + 18), .ref (x + 19), .ref (x + 20), .ref (x + 21), .ref (x + 22), .int (nI n_2), .ref (x + 23), .ref (x + 24), .int (nI tk), .ref (x + 25), .int (nI il), .int (nI nx), .int ec, .int ep, .int kn, .int (nI st), .int nu, .long va]) := fset_at hΦ1
  have hI1 : Im G x (rd, (NNq c), cr, tp, tt, fl, pe, le, nx, il, qu, kn, ec, nu, va, st, ep, ti, ad, ob, ra, rt, ex, sa, us, tk, 0) Φ1 := Im.put0 hI hΦ1 ⟨v_1, v_2, v_3, v_4, n_1, v_5, n_2, rfl, b_13, b_1, b_2, b_3, b_4, b_5, b_6, b_7, b_8, b_9, b_10, b_11, b_12⟩
  refine z_aload_n B dX12_setSupport_5 rfl 0 rfl ?_
  refine z_iload_n B dX12_setSupport_6 rfl 1 rfl ?_
  refine z_i2l (v := a.toInt64) B dX12_setSupport_7 rfl ?_
  refine z_lconst (v := 0) B dX12_setSupport_8 rfl ?_
  refine z_ldc2 (v := 8) B (by decide +kernel) dX12_setSupport_9 ?_
  by_cases hR1 : inP a.toInt64 0 8
  · obtain ⟨n_3, e_1, e_2, e_3, rfl⟩ := in_get (L := 0) (H := 8) (by decide) (by decide) hR1
    refine z_callS (As := [.long ((nI n_3).toInt64), .long 0, .long 8]) (rest := [.ref x]) B (c_inR1 G l Φ1 sz ((nI n_3).toInt64) 0 8 hR1 (fun v8 Φ8 sz8 => v8 = some (.int 1) ∧ sz8 = sz ∧ Im G x (rd, (NNq c), cr, tp, tt, fl, pe, le, nx, il, qu, kn, ec, nu, va, st, ep, ti, ad, ob, ra, rt, ex, sa, us, tk, 0) Φ8 ∧ Fr x (fun j9 => False) Φ1 Φ8) ⟨rfl, rfl, hI1, fun _ _ => rfl⟩) (va_cwS 3 B.1.2.2.2.2 gX12_setSupport_X12_inRange rfl rfl rfl (by decide +kernel) ⟨Nat.le_of_ble_eq_true rfl, Nat.le_of_ble_eq_true rfl⟩) rfl rfl (Nat.le_of_ble_eq_true rfl) dX12_setSupport_12 ⟨Nat.le_of_ble_eq_true rfl, Nat.le_of_ble_eq_true rfl⟩ (fun r_1 Φ2 sz1 st1 hp1 hs1 => ?_)
    obtain ⟨rfl, hq1, hI2, hF1⟩ := hp1
    subst sz1
    replace hs1 : st1 = [.int 1, .ref x] := hs1
    subst st1
    refine z_if_ne (tgt := 22) B dX12_setSupport_15 rfl (fun c_1 => ?_) (fun h9 => absurd h9 (by decide))
    refine z_iconst (v := 0) B dX12_setSupport_22 rfl ?_
    refine z_iconst (v := 1) B dX12_setSupport_23 rfl ?_
    have h_4 : Φ2 x = some (o_ 14 [.int 0, .ref (x + 1), .ref (x + 2), .int ti, .int ra, .int (nI rt), .int ex, .int ad, .ref (x + 3), .ref (x + 4), .int v_1, .long v_2, .ref (x + 5), .int (nI fl), .int v_3, .long ob, .long sa, .long v_4, .long us, .ref (x + 6), .ref (x + 7), .int (nI pe), .ref (x + 8), .int (nI le), .ref (x + 9), .ref (x + 10), .int (nI qu), .ref (x + 11), .ref (x + 12), .ref (x + 13), .ref (x + 14), .ref (x + 15), .ref (x + 16), .int (nI n_1), .long v_5, .ref (x + 17), .ref (x + 18), .ref (x + 19), .ref (x + 20), .ref (x + 21), .ref (x + 22), .int (nI n_2), .ref (x + 23), .ref (x + 24), .int (nI tk), .ref (x + 25), .int (nI il), .int (nI nx), .int ec, .int ep, .int kn, .int (nI st), .int nu, .long va]) := ((hF1 x (fun j9 h8 h7 => (show False from h7).elim)).trans h_3)
    refine z_callV (As := [.int 0, .int 1]) (rest := []) B (r_throwsIf0 G l Φ2 sz x rd (NNq c) cr tp tt fl pe le nx il qu kn ec nu va st ep ti ad ob ra rt ex sa us tk 0  hx hI2 (fun f9 h9 => h9.1)) (cwV 2 B.1.2.2.2.2 gX12_setSupport_X12_throwsIf rfl rfl rfl (by decide +kernel) ⟨Nat.le_of_ble_eq_true rfl, Nat.le_of_ble_eq_true rfl⟩) h_4 rfl rfl rfl rfl (Nat.le_of_ble_eq_true rfl) dX12_setSupport_24 ⟨Nat.le_of_ble_eq_true rfl, Nat.le_of_ble_eq_true rfl⟩ (fun r_2 Φ3 sz2 st2 hp2 hs2 => ?_)
    obtain ⟨rfl, hq2, hI3, hF2⟩ := hp2
    subst sz2
    replace hs2 : st2 = [.int 0] := hs2
    subst st2
    replace hI3 : Im G x (rd, (NNq c), cr, tp, tt, fl, pe, le, nx, il, qu, kn, ec, nu, va, st, ep, ti, ad, ob, ra, rt, ex, sa, us, tk, 0) Φ3 := hI3
    refine z_if_eq (tgt := 32) B dX12_setSupport_27 rfl (fun c_2 => ?_) (fun h9 => absurd (by decide) h9)
    refine z_aload_n B dX12_setSupport_32 rfl 0 rfl ?_
    refine z_iload_n B dX12_setSupport_33 rfl 1 rfl ?_
    have h_5 : Φ3 x = some (o_ 14 [.int 0, .ref (x + 1), .ref (x + 2), .int ti, .int ra, .int (nI rt), .int ex, .int ad, .ref (x + 3), .ref (x + 4), .int v_1, .long v_2, .ref (x + 5), .int (nI fl), .int v_3, .long ob, .long sa, .long v_4, .long us, .ref (x + 6), .ref (x + 7), .int (nI pe), .ref (x + 8), .int (nI le), .ref (x + 9), .ref (x + 10), .int (nI qu), .ref (x + 11), .ref (x + 12), .ref (x + 13), .ref (x + 14), .ref (x + 15), .ref (x + 16), .int (nI n_1), .long v_5, .ref (x + 17), .ref (x + 18), .ref (x + 19), .ref (x + 20), .ref (x + 21), .ref (x + 22), .int (nI n_2), .ref (x + 23), .ref (x + 24), .int (nI tk), .ref (x + 25), .int (nI il), .int (nI nx), .int ec, .int ep, .int kn, .int (nI st), .int nu, .long va]) := ((hF2 x (fun j9 h8 h7 => (show False from h7).elim)).trans h_4)
    refine z_callV (As := [.int (nI n_3)]) (rest := []) B (r_isSupportedC G l Φ3 sz x rd cr tp tt fl pe le nx il qu kn ec nu va st ep ti ad ob ra rt ex sa us tk 0 c (nI n_3) hx hI3 ) (cwV 1 B.1.2.2.2.2 gX12_setSupport_X12_isSupported rfl rfl rfl (by decide +kernel) ⟨Nat.le_of_ble_eq_true rfl, Nat.le_of_ble_eq_true rfl⟩) h_5 rfl rfl rfl rfl (Nat.le_of_ble_eq_true rfl) dX12_setSupport_34 ⟨Nat.le_of_ble_eq_true rfl, Nat.le_of_ble_eq_true rfl⟩ (fun r_3 Φ4 sz3 st3 hp3 hs3 => ?_)
    obtain ⟨rfl, hq3, hI4, hF3⟩ := hp3
    subst sz3
    replace hs3 : st3 = [.int (suV c (nI n_3))] := hs3
    subst st3
    have hb1 := suV_01 c (nI n_3)
    replace hI4 : Im G x (rd, (NNq c), cr, tp, tt, fl, pe, le, nx, il, qu, kn, ec, nu, va, st, ep, ti, ad, ob, ra, rt, ex, sa, us, tk, 0) Φ4 := hI4
    refine z_istore_n (lv' := [(3, .int (suV c (nI n_3))), (0, .ref x), (1, .int (nI n_3)), (2, .int b)]) B dX12_setSupport_37 rfl (Nat.le_of_ble_eq_true rfl) rfl ?_
    refine z_iload_n B dX12_setSupport_38 rfl 0 rfl ?_
    refine z_iload_n B dX12_setSupport_39 rfl 3 rfl ?_
    refine z_icmp_ne (tgt := 45) B dX12_setSupport_40 rfl (fun c_3 => ?_) (fun c_3 => ?_)
    · refine z_aload_n B dX12_setSupport_45 rfl 1 rfl ?_
      have h_6 : Φ4 x = some (o_ 14 [.int 0, .ref (x + 1), .ref (x + 2), .int ti, .int ra, .int (nI rt), .int ex, .int ad, .ref (x + 3), .ref (x + 4), .int v_1, .long v_2, .ref (x + 5), .int (nI fl), .int v_3, .long ob, .long sa, .long v_4, .long us, .ref (x + 6), .ref (x + 7), .int (nI pe), .ref (x + 8), .int (nI le), .ref (x + 9), .ref (x + 10), .int (nI qu), .ref (x + 11), .ref (x + 12), .ref (x + 13), .ref (x + 14), .ref (x + 15), .ref (x + 16), .int (nI n_1), .long v_5, .ref (x + 17), .ref (x + 18), .ref (x + 19), .ref (x + 20), .ref (x + 21), .ref (x + 22), .int (nI n_2), .ref (x + 23), .ref (x + 24), .int (nI tk), .ref (x + 25), .int (nI il), .int (nI nx), .int ec, .int ep, .int kn, .int (nI st), .int nu, .long va]) := ((hF3 x (fun j9 h8 h7 => (show False from h7).elim)).trans h_5)
      refine z_get (ref := "FlowExporterModel") (C := RX12) (T := TX12) (N := 54) (ci := 14) (v := .ref (x + 2)) B hu_X12_setSupport_X12 rfl 2 (Nat.le_of_ble_eq_true rfl) hv_X12_setSupport_17 rfl h_6 rfl dX12_setSupport_46 ?_
      refine z_bipush (v := 9) B dX12_setSupport_49 rfl ?_
      refine z_dup2_11 B dX12_setSupport_51 rfl rfl ?_
      obtain ⟨f_1, h_7, r_4⟩ := imk (k := 2) hI4
      replace r_4 : (NNq c) f_1 := r_4
      have r_5 : NN f_1 := r_4.1
      have h_8 : Φ4 (x + 2) = some (ai_ G 307 f_1) := h_7
      refine z_iald B h_8 (vin rfl) dX12_setSupport_52 ?_
      refine z_iconst (v := 1) B dX12_setSupport_53 rfl ?_
      refine z_iload_n B dX12_setSupport_54 rfl 2 rfl ?_
      refine z_ishl B dX12_setSupport_55 ?_
      refine z_ixor B dX12_setSupport_56 ?_
      refine z_iast B h_8 (Nat.le_trans hx (Nat.le_add_right x 2)) (vin rfl) dX12_setSupport_57 (fun Φ5 hΦ2 => ?_)
      have h_9 : Φ5 (x + 2) = some (ai_ G 307 (upd f_1 (9 : Int32).toNatClampNeg ((f_1 (9 : Int32).toNatClampNeg) ^^^ (1 <<< ((nI n_3) &&& 31))))) := fset_at hΦ2
      have hI5 : Im G x (rd, (NNq (suC c (nI n_3) b)), cr, tp, tt, fl, pe, le, nx, il, qu, kn, ec, nu, va, st, ep, ti, ad, ob, ra, rt, ex, sa, us, tk, 0) Φ5 := Im.put2 (nw1 := (NNq (suC c (nI n_3) b))) hI4 hΦ2 (su_row r_4 c_3 rfl)
      refine z_iconst (v := 0) B dX12_setSupport_58 rfl ?_
      refine z_istore (lv' := [(4, .int 0), (3, .int (suV c (nI n_3))), (0, .ref x), (1, .int (nI n_3)), (2, .int b)]) B dX12_setSupport_59 (Nat.le_of_ble_eq_true rfl) rfl ?_
      refine z_lv [0, 1, 2, 3, 4] rfl ?_
      refine z_loop (α := Nat) (fun (a9 : Nat) Φi => Im G x (rd, (NNq (suC c (nI n_3) b)), cr, tp, tt, fl, pe, le, nx, il, qu, kn, ec, nu, va, st, ep, ti, ad, ob, ra, rt, ex, sa, us, tk, 0) Φi ∧ Fr x (fun j9 => j9 = 3) Φ5 Φi ∧ (a9 ≤ 4) ∧ True) (fun a9 => [(4, .int (nI a9)), (3, .int (suV c (nI n_3))), (0, .ref x), (1, .int (nI n_3)), (2, .int b)]) (fun a9 => 4 - a9) ?_ (0) ⟨hI5, fun _ _ => rfl, (show 0 ≤ 4 by omega), trivial⟩
      rintro i_1 Φl1 ⟨hI6, hF4, b_14, -⟩ ih1
      replace hI6 : Im G x (rd, (NNq (suC c (nI n_3) b)), cr, tp, tt, fl, pe, le, nx, il, qu, kn, ec, nu, va, st, ep, ti, ad, ob, ra, rt, ex, sa, us, tk, 0) Φl1 := hI6
      replace b_14 : i_1 ≤ 4 := b_14
      show Z p9 l e9 _ s9 m9 _ w9 t9 k9 _ G 5 61 [(4, .int (nI i_1)), (3, .int (suV c (nI n_3))), (0, .ref x), (1, .int (nI n_3)), (2, .int b)] [] Φl1 _ _ _
      refine z_iload B dX12_setSupport_61 0 rfl ?_
      refine z_aload_n B dX12_setSupport_63 rfl 2 rfl ?_
      have h_10 : Φl1 x = some (o_ 14 [.int 0, .ref (x + 1), .ref (x + 2), .int ti, .int ra, .int (nI rt), .int ex, .int ad, .ref (x + 3), .ref (x + 4), .int v_1, .long v_2, .ref (x + 5), .int (nI fl), .int v_3, .long ob, .long sa, .long v_4, .long us, .ref (x + 6), .ref (x + 7), .int (nI pe), .ref (x + 8), .int (nI le), .ref (x + 9), .ref (x + 10), .int (nI qu), .ref (x + 11), .ref (x + 12), .ref (x + 13), .ref (x + 14), .ref (x + 15), .ref (x + 16), .int (nI n_1), .long v_5, .ref (x + 17), .ref (x + 18), .ref (x + 19), .ref (x + 20), .ref (x + 21), .ref (x + 22), .int (nI n_2), .ref (x + 23), .ref (x + 24), .int (nI tk), .ref (x + 25), .int (nI il), .int (nI nx), .int ec, .int ep, .int kn, .int (nI st), .int nu, .long va]) := ((hF4 x fq_897).trans ((fset_fr hΦ2 (ne_off (x := x) (i := 0) (j := 2) rfl)).trans h_6))
      refine z_get (ref := "FlowExporterModel") (C := RX12) (T := TX12) (N := 54) (ci := 14) (v := .ref (x + 2)) B hu_X12_setSupport_X12 rfl 2 (Nat.le_of_ble_eq_true rfl) hv_X12_setSupport_17 rfl h_10 rfl dX12_setSupport_64 ?_
      refine z_bipush (v := 10) B dX12_setSupport_67 rfl ?_
      obtain ⟨f_2, h_11, r_6⟩ := imk (k := 2) hI6
      replace r_6 : (NNq (suC c (nI n_3) b)) f_2 := r_6
      have r_7 : NN f_2 := r_6.1
      have h_12 : Φl1 (x + 2) = some (ai_ G 307 f_2) := h_11
      refine z_iald B h_12 (vin rfl) dX12_setSupport_69 ?_
      obtain ⟨n_4, b_15, e_4⟩ := r_7.2.2.2.2.1
      refine z_top (st1 := [.int (nI n_4), .int (nI i_1)]) (congrArg (fun w9 : Int32 => ([.int w9, .int (nI i_1)] : List Value)) (e_4)) ?_
      refine z_icmp_ge (tgt := 101) B dX12_setSupport_70 rfl (fun c_4 => ?_) (fun c_4 => ?_)
      · have e_5 : n_4 ≤ i_1 := (nI_leI (a := n_4) (b := i_1) (by omega) (by omega)).mp c_4
        refine z_iload_n B dX12_setSupport_101 rfl 1 rfl ?_
        exact z_ret_z B dX12_setSupport_102 hb1 ⟨⟨_, rfl⟩, rfl, ⟨suC c (nI n_3) b, 0, (Or.inr ⟨⟨by rw [nI_toInt (by omega)]; omega, by rw [nI_toInt (by omega)]; omega⟩, rfl, rfl, _, h_10⟩), hI6⟩, (fun b9 h9 => ((hF4 b9 (fun j9 h8 h7 => h9 j9 h8 (fq_898 j9 h7))).trans ((fset_fr hΦ2 (fun h8 => h9 (2) h8 (show 2 = 0 ∨ 2 = 2 ∨ 2 = 3 by decide))).trans ((hF3 b9 (fun j9 h8 h7 => (show False from h7).elim)).trans ((hF2 b9 (fun j9 h8 h7 => (show False from h7).elim)).trans ((hF1 b9 (fun j9 h8 h7 => (show False from h7).elim)).trans ((fset_fr hΦ1 (fun h8 => h9 (0) h8 (show 0 = 0 ∨ 0 = 2 ∨ 0 = 3 by decide))).trans rfl)))))))⟩
      · have e_6 : ¬ (n_4 ≤ i_1) := fun h9 => c_4 ((nI_leI (a := n_4) (b := i_1) (by omega) (by omega)).mpr h9)
        refine z_aload_n B dX12_setSupport_73 rfl 2 rfl ?_
        refine z_iload B dX12_setSupport_74 0 rfl ?_
        refine z_callV (As := [.int (nI i_1)]) (rest := []) B (r_fieldsOf G l Φl1 sz x rd (NNq (suC c (nI n_3) b)) cr tp tt fl pe le nx il qu kn ec nu va st ep ti ad ob ra rt ex sa us tk 0 i_1 hx hI6 (show i_1 < 4 by omega) (fun f9 h9 => h9.1)) (cwV 1 B.1.2.2.2.2 gX12_setSupport_X12_fieldsOf rfl rfl rfl (by decide +kernel) ⟨Nat.le_of_ble_eq_true rfl, Nat.le_of_ble_eq_true rfl⟩) h_10 rfl rfl rfl rfl (Nat.le_of_ble_eq_true rfl) dX12_setSupport_76 ⟨Nat.le_of_ble_eq_true rfl, Nat.le_of_ble_eq_true rfl⟩ (fun r_8 Φ6 sz4 st4 hp4 hs4 => ?_)
        obtain ⟨⟨v_6, rfl⟩, hq4, hI7, hF5⟩ := hp4
        subst sz4
        replace hs4 : st4 = [.int v_6] := hs4
        subst st4
        replace hI7 : Im G x (rd, (NNq (suC c (nI n_3) b)), cr, tp, tt, fl, pe, le, nx, il, qu, kn, ec, nu, va, st, ep, ti, ad, ob, ra, rt, ex, sa, us, tk, 0) Φ6 := hI7
        refine z_iload_n B dX12_setSupport_79 rfl 3 rfl ?_
        refine z_ishr B dX12_setSupport_80 ?_
        refine z_fi (fun v_7 => ?_)
        refine z_iconst (v := 1) B dX12_setSupport_81 rfl ?_
        refine z_iand B dX12_setSupport_82 ?_
        refine z_fi (fun v_8 => ?_)
        refine z_iconst (v := 1) B dX12_setSupport_83 rfl ?_
        refine z_icmp_ne (tgt := 95) B dX12_setSupport_84 rfl (fun c_5 => ?_) (fun c_5 => ?_)
        · refine z_iinc (k := 0) (v := nI (i_1 + 1)) (lv' := [(4, .int (nI (i_1 + 1))), (3, .int (suV c (nI n_3))), (0, .ref x), (1, .int (nI n_3)), (2, .int b)]) B dX12_setSupport_95 rfl (nI_add i_1 1) (Nat.le_of_ble_eq_true rfl) rfl ?_
          refine z_goto (tgt := 61) B dX12_setSupport_98 rfl ?_
          refine z_lv [0, 1, 2, 3, 4] rfl ?_
          exact ih1 (i_1 + 1) Φ6 (show 4 - (i_1 + 1) < 4 - i_1 by omega) ⟨hI7, (fun b9 h9 => ((hF5 b9 (fun j9 h8 h7 => (show False from h7).elim)).trans ((hF4 b9 h9).trans rfl))), (show (i_1 + 1) ≤ 4 by omega), trivial⟩
        · refine z_aload_n B dX12_setSupport_87 rfl 2 rfl ?_
          have h_13 : Φ6 x = some (o_ 14 [.int 0, .ref (x + 1), .ref (x + 2), .int ti, .int ra, .int (nI rt), .int ex, .int ad, .ref (x + 3), .ref (x + 4), .int v_1, .long v_2, .ref (x + 5), .int (nI fl), .int v_3, .long ob, .long sa, .long v_4, .long us, .ref (x + 6), .ref (x + 7), .int (nI pe), .ref (x + 8), .int (nI le), .ref (x + 9), .ref (x + 10), .int (nI qu), .ref (x + 11), .ref (x + 12), .ref (x + 13), .ref (x + 14), .ref (x + 15), .ref (x + 16), .int (nI n_1), .long v_5, .ref (x + 17), .ref (x + 18), .ref (x + 19), .ref (x + 20), .ref (x + 21), .ref (x + 22), .int (nI n_2), .ref (x + 23), .ref (x + 24), .int (nI tk), .ref (x + 25), .int (nI il), .int (nI nx), .int ec, .int ep, .int kn, .int (nI st), .int nu, .long va]) := ((hF5 x (fun j9 h8 h7 => (show False from h7).elim)).trans h_10)
          refine z_get (ref := "FlowExporterModel") (C := RX12) (T := TX12) (N := 54) (ci := 14) (v := .ref (x + 3)) B hu_X12_setSupport_X12 rfl 8 (Nat.le_of_ble_eq_true rfl) hv_X12_setSupport_20 rfl h_13 rfl dX12_setSupport_88 ?_
          refine z_iload B dX12_setSupport_91 0 rfl ?_
          refine z_iconst (v := (-1)) B dX12_setSupport_93 rfl ?_
          obtain ⟨f_3, h_14⟩ := imk (k := 3) hI7
          have h_15 : Φ6 (x + 3) = some (ai_ G 4 f_3) := h_14
          refine z_iast B h_15 (Nat.le_trans hx (Nat.le_add_right x 3)) (vp_in_nI (by omega) (by omega)) dX12_setSupport_94 (fun Φ7 hΦ3 => ?_)
          have h_16 : Φ7 (x + 3) = some (ai_ G 4 (upd f_3 (nI i_1).toNatClampNeg (-1))) := fset_at hΦ3
          have hI8 : Im G x (rd, (NNq (suC c (nI n_3) b)), cr, tp, tt, fl, pe, le, nx, il, qu, kn, ec, nu, va, st, ep, ti, ad, ob, ra, rt, ex, sa, us, tk, 0) Φ7 := Im.put (k := 3) hI7 hΦ3 ⟨_, rfl⟩
          refine z_iinc (k := 0) (v := nI (i_1 + 1)) (lv' := [(4, .int (nI (i_1 + 1))), (3, .int (suV c (nI n_3))), (0, .ref x), (1, .int (nI n_3)), (2, .int b)]) B dX12_setSupport_95 rfl (nI_add i_1 1) (Nat.le_of_ble_eq_true rfl) rfl ?_
          refine z_goto (tgt := 61) B dX12_setSupport_98 rfl ?_
          refine z_lv [0, 1, 2, 3, 4] rfl ?_
          exact ih1 (i_1 + 1) Φ7 (show 4 - (i_1 + 1) < 4 - i_1 by omega) ⟨hI8, (fun b9 h9 => ((fset_fr hΦ3 (fun h8 => h9 (3) h8 (show 3 = 3 by decide))).trans ((hF5 b9 (fun j9 h8 h7 => (show False from h7).elim)).trans ((hF4 b9 h9).trans rfl)))), (show (i_1 + 1) ≤ 4 by omega), trivial⟩
    · refine z_iload_n B dX12_setSupport_43 rfl 0 rfl ?_
      have h_17 : Φ4 x = some (o_ 14 [.int 0, .ref (x + 1), .ref (x + 2), .int ti, .int ra, .int (nI rt), .int ex, .int ad, .ref (x + 3), .ref (x + 4), .int v_1, .long v_2, .ref (x + 5), .int (nI fl), .int v_3, .long ob, .long sa, .long v_4, .long us, .ref (x + 6), .ref (x + 7), .int (nI pe), .ref (x + 8), .int (nI le), .ref (x + 9), .ref (x + 10), .int (nI qu), .ref (x + 11), .ref (x + 12), .ref (x + 13), .ref (x + 14), .ref (x + 15), .ref (x + 16), .int (nI n_1), .long v_5, .ref (x + 17), .ref (x + 18), .ref (x + 19), .ref (x + 20), .ref (x + 21), .ref (x + 22), .int (nI n_2), .ref (x + 23), .ref (x + 24), .int (nI tk), .ref (x + 25), .int (nI il), .int (nI nx), .int ec, .int ep, .int kn, .int (nI st), .int nu, .long va]) := ((hF3 x (fun j9 h8 h7 => (show False from h7).elim)).trans h_5)
      exact z_ret_z B dX12_setSupport_44 hb1 ⟨⟨_, rfl⟩, rfl, ⟨c, 0, (Or.inr ⟨⟨by rw [nI_toInt (by omega)]; omega, by rw [nI_toInt (by omega)]; omega⟩, rfl, su_id c_3, _, h_17⟩), hI4⟩, (fun b9 h9 => ((hF3 b9 (fun j9 h8 h7 => (show False from h7).elim)).trans ((hF2 b9 (fun j9 h8 h7 => (show False from h7).elim)).trans ((hF1 b9 (fun j9 h8 h7 => (show False from h7).elim)).trans ((fset_fr hΦ1 (fun h8 => h9 (0) h8 (show 0 = 0 ∨ 0 = 2 ∨ 0 = 3 by decide))).trans rfl)))))⟩
  · have q_1 : ¬ (0 ≤ a.toInt ∧ a.toInt ≤ 8) := fun h9 => hR1 ((inP_i (by decide) (by decide)).mpr h9)
    refine z_callS (As := [.long a.toInt64, .long 0, .long 8]) (rest := [.ref x]) B (c_inR0 G l Φ1 sz a.toInt64 0 8 hR1 (fun v8 Φ8 sz8 => v8 = some (.int 0) ∧ sz8 = sz ∧ Im G x (rd, (NNq c), cr, tp, tt, fl, pe, le, nx, il, qu, kn, ec, nu, va, st, ep, ti, ad, ob, ra, rt, ex, sa, us, tk, 0) Φ8 ∧ Fr x (fun j9 => False) Φ1 Φ8) ⟨rfl, rfl, hI1, fun _ _ => rfl⟩) (va_cwS 3 B.1.2.2.2.2 gX12_setSupport_X12_inRange rfl rfl rfl (by decide +kernel) ⟨Nat.le_of_ble_eq_true rfl, Nat.le_of_ble_eq_true rfl⟩) rfl rfl (Nat.le_of_ble_eq_true rfl) dX12_setSupport_12 ⟨Nat.le_of_ble_eq_true rfl, Nat.le_of_ble_eq_true rfl⟩ (fun r_10 Φ8 sz5 st5 hp5 hs5 => ?_)
    obtain ⟨rfl, hq5, hI9, hF6⟩ := hp5
    subst sz5
    replace hs5 : st5 = [.int 0, .ref x] := hs5
    subst st5
    refine z_if_ne (tgt := 22) B dX12_setSupport_15 rfl (fun h9 => absurd (by decide) h9) (fun c_6 => ?_)
    refine z_iconst (v := 1) B dX12_setSupport_18 rfl ?_
    refine z_goto (tgt := 23) B dX12_setSupport_19 rfl ?_
    refine z_iconst (v := 1) B dX12_setSupport_23 rfl ?_
    have h_18 : Φ8 x = some (o_ 14 [.int 0, .ref (x + 1), .ref (x + 2), .int ti, .int ra, .int (nI rt), .int ex, .int ad, .ref (x + 3), .ref (x + 4), .int v_1, .long v_2, .ref (x + 5), .int (nI fl), .int v_3, .long ob, .long sa, .long v_4, .long us, .ref (x + 6), .ref (x + 7), .int (nI pe), .ref (x + 8), .int (nI le), .ref (x + 9), .ref (x + 10), .int (nI qu), .ref (x + 11), .ref (x + 12), .ref (x + 13), .ref (x + 14), .ref (x + 15), .ref (x + 16), .int (nI n_1), .long v_5, .ref (x + 17), .ref (x + 18), .ref (x + 19), .ref (x + 20), .ref (x + 21), .ref (x + 22), .int (nI n_2), .ref (x + 23), .ref (x + 24), .int (nI tk), .ref (x + 25), .int (nI il), .int (nI nx), .int ec, .int ep, .int kn, .int (nI st), .int nu, .long va]) := ((hF6 x (fun j9 h8 h7 => (show False from h7).elim)).trans h_3)
    refine z_callV (As := [.int 1, .int 1]) (rest := []) B (r_throwsIf1 G l Φ8 sz x rd (NNq c) cr tp tt fl pe le nx il qu kn ec nu va st ep ti ad ob ra rt ex sa us tk 0  hx hI9 (fun f9 h9 => h9.1)) (cwV 2 B.1.2.2.2.2 gX12_setSupport_X12_throwsIf rfl rfl rfl (by decide +kernel) ⟨Nat.le_of_ble_eq_true rfl, Nat.le_of_ble_eq_true rfl⟩) h_18 rfl rfl rfl rfl (Nat.le_of_ble_eq_true rfl) dX12_setSupport_24 ⟨Nat.le_of_ble_eq_true rfl, Nat.le_of_ble_eq_true rfl⟩ (fun r_11 Φ9 sz6 st6 hp6 hs6 => ?_)
    obtain ⟨⟨rfl, l_1, h_19⟩, hq6, hI10, hF7⟩ := hp6
    subst sz6
    replace hs6 : st6 = [.int 1] := hs6
    subst st6
    replace hI10 : Im G x (rd, (NNq c), cr, tp, tt, fl, pe, le, nx, il, qu, kn, ec, nu, va, st, ep, ti, ad, ob, ra, rt, ex, sa, us, tk, 1) Φ9 := hI10
    refine z_if_eq (tgt := 32) B dX12_setSupport_27 rfl (fun h9 => absurd h9 (by decide)) (fun c_7 => ?_)
    refine z_iconst (v := 0) B dX12_setSupport_30 rfl ?_
    exact z_ret_z B dX12_setSupport_31 (by decide) ⟨⟨_, rfl⟩, rfl, ⟨c, 1, (Or.inl ⟨fun h9 => by obtain ⟨h8, h7⟩ := h9; omega, rfl, rfl, l_1, h_19⟩), hI10⟩, (fun b9 h9 => ((hF7 b9 (fun j9 h8 h7 => h9 j9 h8 (fq_900 j9 h7))).trans ((hF6 b9 (fun j9 h8 h7 => (show False from h7).elim)).trans ((fset_fr hΦ1 (fun h8 => h9 (0) h8 (show 0 = 0 ∨ 0 = 2 ∨ 0 = 3 by decide))).trans rfl))))⟩

section ZP
variable {p : Program} {l : Launch} {e : Env} {R : Room} {s : State} {m : MethodId} {args : Array Value} {below : List Frame} {meth : Method} {c : Code} {Q : State → Prop} {G : EnvG} {nL pc : Nat} {lv : List (Nat × Value)} {rest : List Value} {Φ : Hm} {sz cells slots : Nat}
variable {cc : ByteArray} {own : String} {ws : List Cond} {ret : Option FieldType} {nm : String}
theorem z_fbits (B : Bd p s m args meth c G cc nL own ws ret nm) {index : Nat} {q : UInt32} (h1 : Cond.methodLink own index ⟨"java/lang/Float", "floatToRawIntBits", "(F)I"⟩ ∈ ws) (h2 : Cond.native ⟨"java/lang/Float", "floatToRawIntBits", "(F)I"⟩ ∈ ws) (h3 : Cond.static ⟨"java/lang/Float", "floatToRawIntBits", "(F)I"⟩ ∈ ws) (h4 : Cond.initialized "java/lang/Float" ∈ ws) (hR : 1 ≤ R.frames ∧ (rest.map fun v => v.category).sum + 15 ≤ R.locals) (hdg : decode cc pc = .ok (.invokestatic index, 3)) (kk : Z p l e R s m args below meth c Q G nL (pc + 3) lv (.int q.toInt32 :: rest) Φ sz cells slots) : Z p l e R s m args below meth c Q G nL pc lv (.float q :: rest) Φ sz cells slots := by
  intro H locs ls hl hP hS
  exact vn_f2i B.1.1 B.1.2.1 (by rw [B.1.2.2.1]; exact hl.1.symm) B.1.2.2.2.1 (B.1.2.2.2.2 _ h1) (B.1.2.2.2.2 _ h2) (B.1.2.2.2.2 _ h3) (B.1.2.2.2.2 _ h4) hR.1 hR.2 hdg (kk H locs ls hl hP hS)
theorem z_dbits (B : Bd p s m args meth c G cc nL own ws ret nm) {index : Nat} {q : UInt64} (h1 : Cond.methodLink own index ⟨"java/lang/Double", "doubleToRawLongBits", "(D)J"⟩ ∈ ws) (h2 : Cond.native ⟨"java/lang/Double", "doubleToRawLongBits", "(D)J"⟩ ∈ ws) (h3 : Cond.static ⟨"java/lang/Double", "doubleToRawLongBits", "(D)J"⟩ ∈ ws) (h4 : Cond.initialized "java/lang/Double" ∈ ws) (hR : 1 ≤ R.frames ∧ (rest.map fun v => v.category).sum + 15 ≤ R.locals) (hdg : decode cc pc = .ok (.invokestatic index, 3)) (kk : Z p l e R s m args below meth c Q G nL (pc + 3) lv (.long q.toInt64 :: rest) Φ sz cells slots) : Z p l e R s m args below meth c Q G nL pc lv (.double q :: rest) Φ sz cells slots := by
  intro H locs ls hl hP hS
  exact vn_d2l B.1.1 B.1.2.1 (by rw [B.1.2.2.1]; exact hl.1.symm) B.1.2.2.2.1 (B.1.2.2.2.2 _ h1) (B.1.2.2.2.2 _ h2) (B.1.2.2.2.2 _ h3) (B.1.2.2.2.2 _ h4) hR.1 hR.2 hdg (kk H locs ls hl hP hS)
theorem z_bitsd (B : Bd p s m args meth c G cc nL own ws ret nm) {index : Nat} {q : Int64} (hv : vn_snl2d q = false) (h1 : Cond.methodLink own index ⟨"java/lang/Double", "longBitsToDouble", "(J)D"⟩ ∈ ws) (h2 : Cond.native ⟨"java/lang/Double", "longBitsToDouble", "(J)D"⟩ ∈ ws) (h3 : Cond.static ⟨"java/lang/Double", "longBitsToDouble", "(J)D"⟩ ∈ ws) (h4 : Cond.initialized "java/lang/Double" ∈ ws) (hR : 1 ≤ R.frames ∧ (rest.map fun v => v.category).sum + 15 ≤ R.locals) (hdg : decode cc pc = .ok (.invokestatic index, 3)) (kk : Z p l e R s m args below meth c Q G nL (pc + 3) lv (.double q.toUInt64 :: rest) Φ sz cells slots) : Z p l e R s m args below meth c Q G nL pc lv (.long q :: rest) Φ sz cells slots := by
  intro H locs ls hl hP hS
  exact vn_l2d B.1.1 B.1.2.1 (by rw [B.1.2.2.1]; exact hl.1.symm) B.1.2.2.2.1 (B.1.2.2.2.2 _ h1) (B.1.2.2.2.2 _ h2) (B.1.2.2.2.2 _ h3) (B.1.2.2.2.2 _ h4) hv hR.1 hR.2 hdg (kk H locs ls hl hP hS)
end ZP
theorem Ct.ofF {G : EnvG} {l : Launch} {y : MethodName} {ws ws' : List Cond} {rm : Room} {mc ms : Nat} {av : List Value} {Φ : Hm} {sz : Nat} {P : Option Value → Hm → Nat → Prop} {cc : ByteArray} {maxL : Nat} {ret : Option FieldType} (hy : plainFor y = true) (hw : ws = Cond.code y cc maxL ret :: ws') (hlen : (lg_sl av).length ≤ maxL)
    (body : ∀ (p : Program) (e : Env) (s : State) (m : MethodId) (below : List Frame) (meth : Method) (c : Code), Bd p s m av.toArray meth c G cc maxL y.cls ws ret y.name → Z p l e rm s m av.toArray below meth c (MQ below (QU G P) av.toArray s mc ms (fun q => G.2.2.2 ≤ q)) G maxL 0 (lv_args 0 av) [] Φ sz 0 0) : Ct G l y ws rm mc ms av Φ sz P := by
  refine va_MetF (cc := cc) (maxL := maxL) (ret := ret) hy hw ?_
  intro p e s m args below meth c s₁ B hml hv
  obtain ⟨rfl, hP, hK, hS, hn⟩ := hv
  have hl := lv_entry av hlen
  rw [lg_entry_eq]
  refine body p e s m below meth c ⟨⟨B.exec, B.bytes, hml, findClass_of_methodNamed B.named, atoms_spec (ws := ws) B.pre⟩, B.returns, B.notSynchronized, (name_of_methodNamed B.named B.method).1, hK, hS, by rw [hP.1]; exact hn⟩ s.heap [] _ hl hP va_S.rf
theorem c_J_isNaN (G : EnvG) (l : Launch) (Φ : Hm) (sz : Nat) (q : UInt32) (P : Option Value → Hm → Nat → Prop) (hP : ∀ r : Int32, P (some (.int r)) Φ sz) : Ct G l yJxf58ca_isNaN_12338 wsJxf58ca_isNaN_12338 ({ frames := 0, cells := 0, slots := 0, locals := 0 }) 0 0 [.float q] Φ sz P := by
  refine Ct.ofF (cc := cJxf58ca_isNaN_12338) (maxL := 1) (ret := (some .boolean)) (by decide +kernel) rfl (Nat.le_of_ble_eq_true rfl) ?_
  intro p9 e9 s9 m9 w9 t9 k9 B
  show Z p9 l e9 _ s9 m9 _ w9 t9 k9 _ G 1 0 [(0, .float q)] [] Φ (sz) 0 0
  refine z_fload_n B dJxf58ca_isNaN_12338_0 rfl 0 rfl ?_
  refine z_fload_n B dJxf58ca_isNaN_12338_1 rfl 0 rfl ?_
  refine z_fcmp B dJxf58ca_isNaN_12338_2 ?_
  refine z_if_eq (tgt := 10) B dJxf58ca_isNaN_12338_3 rfl (fun c_1 => ?_) (fun c_1 => ?_)
  · refine z_iconst (v := 0) B dJxf58ca_isNaN_12338_10 rfl ?_
    exact z_ret_z B dJxf58ca_isNaN_12338_11 (by decide) (hP _)
  · refine z_iconst (v := 1) B dJxf58ca_isNaN_12338_6 rfl ?_
    refine z_goto (tgt := 11) B dJxf58ca_isNaN_12338_7 rfl ?_
    exact z_ret_z B dJxf58ca_isNaN_12338_11 (by decide) (hP _)
theorem c_J_f2i (G : EnvG) (l : Launch) (Φ : Hm) (sz : Nat) (q : UInt32) (P : Option Value → Hm → Nat → Prop) (hP : ∀ r : Int32, P (some (.int r)) Φ sz) : Ct G l yJxf58ca_floatToIntBits_5c35a wsJxf58ca_floatToIntBits_5c35a ({ frames := 1, cells := 0, slots := 0, locals := 20 }) 0 0 [.float q] Φ sz P := by
  refine Ct.ofF (cc := cJxf58ca_floatToIntBits_5c35a) (maxL := 1) (ret := (some .int)) (by decide +kernel) rfl (Nat.le_of_ble_eq_true rfl) ?_
  intro p9 e9 s9 m9 w9 t9 k9 B
  show Z p9 l e9 _ s9 m9 _ w9 t9 k9 _ G 1 0 [(0, .float q)] [] Φ (sz) 0 0
  refine z_fload_n B dJxf58ca_floatToIntBits_5c35a_0 rfl 0 rfl ?_
  refine z_callS (As := [.float q]) (rest := []) B (c_J_isNaN G l Φ sz q (fun v Φ1 sz1 => (∃ r : Int32, v = some (.int r)) ∧ Φ1 = Φ ∧ sz1 = sz) (fun r => ⟨⟨r, rfl⟩, rfl, rfl⟩)) (va_cwS 1 B.1.2.2.2.2 gJxf58ca_floatToIntBits_5c35a_Jxf58ca_isNaN_12338 rfl rfl rfl (by decide +kernel) ⟨Nat.le_of_ble_eq_true rfl, Nat.le_of_ble_eq_true rfl⟩) rfl rfl (Nat.le_of_ble_eq_true rfl) dJxf58ca_floatToIntBits_5c35a_1 ⟨Nat.le_of_ble_eq_true rfl, Nat.le_of_ble_eq_true rfl⟩ (fun v1 Φ1 sz1 st1 hp1 hs1 => ?_)
  obtain ⟨⟨r, rfl⟩, h2, h3⟩ := hp1
  subst h2
  subst h3
  subst hs1
  refine z_if_ne (tgt := 12) B dJxf58ca_floatToIntBits_5c35a_4 rfl (fun c_1 => ?_) (fun c_1 => ?_)
  · refine z_ldc (v := 2143289344) B (by decide +kernel) dJxf58ca_floatToIntBits_5c35a_12 ?_
    exact z_ret_i B dJxf58ca_floatToIntBits_5c35a_14 (hP _)
  · refine z_fload_n B dJxf58ca_floatToIntBits_5c35a_7 rfl 0 rfl ?_
    refine z_fbits B (by decide +kernel) (by decide +kernel) (by decide +kernel) (by decide +kernel) ⟨Nat.le_of_ble_eq_true rfl, Nat.le_of_ble_eq_true rfl⟩ dJxf58ca_floatToIntBits_5c35a_8 ?_
    exact z_ret_i B dJxf58ca_floatToIntBits_5c35a_11 (hP _)
theorem i2f_nn {a : Int32} (h : ¬ a = 0) : nn32 (Jvm.FP.Core.i2f a) := by
  have hw := i2f_w h
  intro e
  rw [e] at hw
  exact hw

theorem m8_lt {j : Nat} (hj : j < 1000) : (nI (8 * j) - 8 < 0 → j = 0) ∧ (¬ nI (8 * j) - 8 < 0 → 1 ≤ j) := by
  by_cases h : j = 0
  · subst h
    exact ⟨fun _ => rfl, fun q => absurd (show nI (8 * 0) - 8 < 0 by decide) q⟩
  · have e : nI (8 * j) - 8 = nI (8 * j - 8) := by
      show nI (8 * j) - nI 8 = nI (8 * j - 8)
      exact nI_sub (by omega)
    refine ⟨fun q => ?_, fun _ => by omega⟩
    rw [e] at q
    exact absurd q (nI_pos (by omega))
theorem m8_dec {j : Nat} (h : 1 ≤ j) : nI (8 * j) - 8 + (-8) = nI (8 * (j - 1)) - 8 := by
  have e : nI (8 * j) - 8 = nI (8 * (j - 1)) := by
    show nI (8 * j) - nI 8 = nI (8 * (j - 1))
    rw [nI_sub (by omega)]
    exact congrArg nI (by omega)
  rw [e]
  exact (Int32.sub_eq_add_neg _ _).symm
theorem lsm_s {f : Nat → Int32} {b q n : Nat} (h : f (b + q) = nI n) (hn : n < 2 ^ 31) : lsm f b (q + 1) = lsm f b q + lnN n := by
  show lsm f b q + lnN (f (b + q)).toNatClampNeg = _
  rw [h, nI_clamp hn]
theorem toL {n : Nat} (h : n < 2 ^ 31) : (nI n).toInt64 = Int64.ofNat n := by
  apply Int64.toInt_inj.mp
  rw [natL h, Int64.toInt_ofNat_of_lt (by omega)]
theorem ofL {n : Nat} (h : n < 2 ^ 31) : (Int64.ofNat n).toInt32 = nI n := by
  rw [← toL h]
  exact Int32.toInt32_toInt64 _
theorem CC.up {f : Nat → Int64} {i : Nat} {v : Int64} (h : CC f) (hi : i % 8 ≠ 3) : CC (vp_updL f i v) := by
  intro j hj
  obtain ⟨n, h1, h2⟩ := h j hj
  refine ⟨n, h1, ?_⟩
  show (if 8 * j + 3 = i then v else f (8 * j + 3)) = _
  rw [if_neg (by omega)]
  exact h2
theorem CC.up3 {f : Nat → Int64} {i n : Nat} {v : Int64} (h : CC f) (hn : n ≤ 255) (hv : v = Int64.ofNat n) : CC (vp_updL f i v) := by
  intro j hj
  show ∃ n : Nat, n ≤ 255 ∧ (if 8 * j + 3 = i then v else f (8 * j + 3)) = _
  by_cases e : 8 * j + 3 = i
  · rw [if_pos e]
    exact ⟨n, hn, hv⟩
  · rw [if_neg e]
    exact h j hj
theorem CC.sh {f : Nat → Int64} {i k : Nat} (h : CC f) (hk : k = i + 8) (hi : i + 8 < 96) : CC (vp_updL f i (f k)) := by
  subst hk
  intro j hj
  show ∃ n : Nat, n ≤ 255 ∧ (if 8 * j + 3 = i then f (i + 8) else f (8 * j + 3)) = _
  by_cases e : 8 * j + 3 = i
  · rw [if_pos e]
    have q := h (j + 1) (by omega)
    rw [show 8 * (j + 1) + 3 = i + 8 by omega] at q
    exact q
  · rw [if_neg e]
    exact h j hj
/-- a key lies in the cache -/
noncomputable def rK (f : Nat → Int64) (n : Nat) (a b d g : Int32) : Prop := f (8 * n) = a.toInt64 ∧ f (8 * n + 1) = b.toInt64 ∧ f (8 * n + 2) = d.toInt64 ∧ f (8 * n + 3) = g.toInt64
noncomputable def InC (f : Nat → Int64) (fl : Nat) (a b d g : Int32) : Prop := ∃ n, n < fl ∧ rK f n a b d g
theorem rK.up {f : Nat → Int64} {n i : Nat} {v : Int64} {a b d g : Int32} (h : rK f n a b d g) (hi : 4 ≤ i % 8 ∨ i / 8 ≠ n) : rK (vp_updL f i v) n a b d g := by
  obtain ⟨h1, h2, h3, h4⟩ := h
  refine ⟨?_, ?_, ?_, ?_⟩
  · show (if 8 * n = i then v else f (8 * n)) = _
    rw [if_neg (by omega)]; exact h1
  · show (if 8 * n + 1 = i then v else f (8 * n + 1)) = _
    rw [if_neg (by omega)]; exact h2
  · show (if 8 * n + 2 = i then v else f (8 * n + 2)) = _
    rw [if_neg (by omega)]; exact h3
  · show (if 8 * n + 3 = i then v else f (8 * n + 3)) = _
    rw [if_neg (by omega)]; exact h4
theorem rK.new {f : Nat → Int64} {n i0 i1 i2 i3 : Nat} {a b d g : Int32} (h0 : i0 = 8 * n) (h1 : i1 = 8 * n + 1) (h2 : i2 = 8 * n + 2) (h3 : i3 = 8 * n + 3) : rK (vp_updL (vp_updL (vp_updL (vp_updL f i0 a.toInt64) i1 b.toInt64) i2 d.toInt64) i3 g.toInt64) n a b d g := by
  subst h0 h1 h2 h3
  refine ⟨?_, ?_, ?_, ?_⟩
  · show (if 8 * n = 8 * n + 3 then _ else if 8 * n = 8 * n + 2 then _ else if 8 * n = 8 * n + 1 then _ else if 8 * n = 8 * n then _ else _) = _
    rw [if_neg (by omega), if_neg (by omega), if_neg (by omega), if_pos rfl]
  · show (if 8 * n + 1 = 8 * n + 3 then _ else if 8 * n + 1 = 8 * n + 2 then _ else if 8 * n + 1 = 8 * n + 1 then _ else _) = _
    rw [if_neg (by omega), if_neg (by omega), if_pos rfl]
  · show (if 8 * n + 2 = 8 * n + 3 then _ else if 8 * n + 2 = 8 * n + 2 then _ else _) = _
    rw [if_neg (by omega), if_pos rfl]
  · show (if 8 * n + 3 = 8 * n + 3 then _ else _) = _
    rw [if_pos rfl]
theorem lcmp_eq {x y : Int64} (h : lg_cmp x y = 0) : x = y := (lg_cmp_eq x y).mp h

theorem hu_X12_rateBits_X12 : ∀ w ∈ u_ws RX12 TX12 54, w ∈ wsX12_rateBits := fun _ h => List.mem_cons_of_mem _ (List.mem_append_right _ (h))

theorem hv_X12_rateBits_1 : Cond.fieldLink RX12 1 "FlowExporterModel" (TX12 0).2.1 (TX12 0).2.2.1 ∈ wsX12_rateBits := List.mem_cons_of_mem _ (List.mem_append_left _ (List.mem_of_getElem? (i := 0) rfl))

theorem hv_X12_rateBits_107 : Cond.fieldLink RX12 107 "FlowExporterModel" (TX12 5).2.1 (TX12 5).2.2.1 ∈ wsX12_rateBits := List.mem_cons_of_mem _ (List.mem_append_left _ (List.mem_of_getElem? (i := 1) rfl))

set_option maxHeartbeats 4000000 in
set_option maxRecDepth 100000 in
theorem r_rateBits (G : EnvG) (l : Launch) (Φ : Hm) (sz x : Nat) (rd : (Nat → Int32) → Prop) (nw : (Nat → Int32) → Prop) (cr : (Nat → Int64) → Prop) (tp : (Nat → Int32) → Prop) (tt : (Nat → Int64) → Prop) (fl : Nat) (pe : Nat) (le : Nat) (nx : Nat) (il : Nat) (qu : Nat) (kn : Int32) (ec : Int32) (nu : Int32) (va : Int64) (st : Nat) (ep : Int32) (ti : Int32) (ad : Int32) (ob : Int64) (ra : Int32) (rt : Nat) (ex : Int32) (sa : Int64) (us : Int64) (tk : Nat) (th : Int32)  (hx : G.2.2.2 ≤ x) (hI : Im G x (rd, nw, cr, tp, tt, fl, pe, le, nx, il, qu, kn, ec, nu, va, st, ep, ti, ad, ob, ra, rt, ex, sa, us, tk, th) Φ) (hnw : ∀ f9 : Nat → Int32, nw f9 → NN f9) : Ct G l yX12_rateBits wsX12_rateBits ({ frames := 2, cells := 0, slots := 0, locals := 40 }) 0 0 [.ref x] Φ sz (fun v Φ1 sz1 => (∃ r9 : Int32, v = some (.int r9)) ∧ sz1 = sz ∧ (∃ (th1 : Int32), Im G x (rd, nw, cr, tp, tt, fl, pe, le, nx, il, qu, kn, ec, nu, va, st, ep, ti, ad, ob, ra, rt, ex, sa, us, tk, th1) Φ1) ∧ Fr x (fun j9 => j9 = 0) Φ Φ1) := by
  refine Ct.of (cc := cX12_rateBits) (maxL := 1) (ret := (some .int)) (by decide) rfl (Nat.le_of_ble_eq_true rfl) ?_
  intro p9 e9 s9 m9 w9 t9 k9 B
  show Z p9 l e9 _ s9 m9 _ w9 t9 k9 _ G 1 0 [(0, .ref x)] [] Φ sz 0 0
  refine z_aload_n B dX12_rateBits_0 rfl 0 rfl ?_
  refine z_iconst (v := 0) B dX12_rateBits_1 rfl ?_
  obtain ⟨v_1, v_2, v_3, v_4, n_1, v_5, n_2, h_1, b_13, b_1, b_2, b_3, b_4, b_5, b_6, b_7, b_8, b_9, b_10, b_11, b_12⟩ := im0 hI
  replace b_1 : 1 ≤ rt := b_1
  replace b_2 : rt ≤ 1024 := b_2
  replace b_3 : fl ≤ 12 := b_3
  replace b_4 : pe ≤ 24 := b_4
  replace b_5 : le ≤ 700 := b_5
  replace b_6 : qu ≤ 12 := b_6
  replace b_7 : n_1 ≤ 8 := b_7
  replace b_8 : n_2 ≤ 24 := b_8
  replace b_9 : tk ≤ 24 := b_9
  replace b_10 : il ≤ 700 := b_10
  replace b_11 : nx ≤ 701 := b_11
  replace b_12 : st ≤ 701 := b_12
  have h_2 : Φ x = some (o_ 14 [.int th, .ref (x + 1), .ref (x + 2), .int ti, .int ra, .int (nI rt), .int ex, .int ad, .ref (x + 3), .ref (x + 4), .int v_1, .long v_2, .ref (x + 5), .int (nI fl), .int v_3, .long ob, .long sa, .long v_4, .long us, .ref (x + 6), .ref (x + 7), .int (nI pe), .ref (x + 8), .int (nI le), .ref (x + 9), .ref (x + 10), .int (nI qu), .ref (x + 11), .ref (x + 12), .ref (x + 13), .ref (x + 14), .ref (x + 15), .ref (x + 16), .int (nI n_1), .long v_5, .ref (x + 17), .ref (x + 18), .ref (x + 19), .ref (x + 20), .ref (x + 21), .ref (x + 22), .int (nI n_2), .ref (x + 23), .ref (x + 24), .int (nI tk), .ref (x + 25), .int (nI il), .int (nI nx), .int ec, .int ep, .int kn, .int (nI st), .int nu, .long va]) := h_1
  refine z_put (ref := "FlowExporterModel") (C := RX12) (T := TX12) (N := 54) (ci := 14) (v := .int 0) B hu_X12_rateBits_X12 tyX12 tyX12_ok nmX12 rfl 0 (Nat.le_of_ble_eq_true rfl) hv_X12_rateBits_1 rfl (Or.inl rfl) h_2 hx rfl rfl (Nat.le_of_ble_eq_true rfl) dX12_rateBits_2 (fun Φ1 hΦ1 => ?_)
  have h_3 : Φ1 x = some (o_ 14 [.int 0, .ref (x + 1), .ref (x + 2), .int ti, .int ra, .int (nI rt), .int ex, .int ad, .ref (x + 3), .ref (x + 4), .int v_1, .long v_2, .ref (x + 5), .int (nI fl), .int v_3, .long ob, .long sa, .long v_4, .long us, .ref (x + 6), .ref (x + 7), .int (nI pe), .ref (x + 8), .int (nI le), .ref (x + 9), .ref (x + 10), .int (nI qu), .ref (x + 11), .ref (x + 12), .ref (x + 13), .ref (x + 14), .ref (x + 15), .ref (x + 16), .int (nI n_1), .long v_5, .ref (x + 17), .ref (x + 18), .ref (x + 19), .ref (x + 20), .ref (x + 21), .ref (x + 22), .int (nI n_2), .ref (x + 23), .ref (x + 24), .int (nI tk), .ref (x + 25), .int (nI il), .int (nI nx), .int ec, .int ep, .int kn, .int (nI st), .int nu, .long va]) := fset_at hΦ1
  have hI1 : Im G x (rd, nw, cr, tp, tt, fl, pe, le, nx, il, qu, kn, ec, nu, va, st, ep, ti, ad, ob, ra, rt, ex, sa, us, tk, 0) Φ1 := Im.put0 hI hΦ1 ⟨v_1, v_2, v_3, v_4, n_1, v_5, n_2, rfl, b_13, b_1, b_2, b_3, b_4, b_5, b_6, b_7, b_8, b_9, b_10, b_11, b_12⟩
  refine z_fconst1 B dX12_rateBits_5 ?_
  refine z_aload_n B dX12_rateBits_6 rfl 0 rfl ?_
  refine z_get (ref := "FlowExporterModel") (C := RX12) (T := TX12) (N := 54) (ci := 14) (v := .int (nI rt)) B hu_X12_rateBits_X12 rfl 5 (Nat.le_of_ble_eq_true rfl) hv_X12_rateBits_107 rfl h_3 rfl dX12_rateBits_7 ?_
  refine z_i2f B dX12_rateBits_10 ?_
  refine z_fdiv B dX12_rateBits_11 (vf32_of (inv_nn (i2f_nn (fun h9 => absurd ((nI_eq (a := rt) (b := 0) (by omega) (by omega)).mp h9) (by omega))))) ?_
  refine z_ff (fun v_6 => ?_)
  refine z_callS (As := [.float v_6]) (rest := []) B (c_J_f2i G l Φ1 sz v_6 (fun v8 Φ8 sz8 => (∃ r9 : Int32, v8 = some (.int r9)) ∧ sz8 = sz ∧ Im G x (rd, nw, cr, tp, tt, fl, pe, le, nx, il, qu, kn, ec, nu, va, st, ep, ti, ad, ob, ra, rt, ex, sa, us, tk, 0) Φ8 ∧ Fr x (fun j9 => False) Φ1 Φ8) (fun r9 => ⟨⟨r9, rfl⟩, rfl, hI1, fun _ _ => rfl⟩)) (va_cwS 1 B.1.2.2.2.2 gX12_rateBits_Jxf58ca_floatToIntBits_5c35a rfl rfl rfl (by decide +kernel) ⟨Nat.le_of_ble_eq_true rfl, Nat.le_of_ble_eq_true rfl⟩) rfl rfl (Nat.le_of_ble_eq_true rfl) dX12_rateBits_12 ⟨Nat.le_of_ble_eq_true rfl, Nat.le_of_ble_eq_true rfl⟩ (fun r_1 Φ2 sz1 st1 hp1 hs1 => ?_)
  obtain ⟨⟨v_7, rfl⟩, hq1, hI2, hF1⟩ := hp1
  subst sz1
  replace hs1 : st1 = [.int v_7] := hs1
  subst st1
  exact z_ret_i B dX12_rateBits_15 ⟨⟨_, rfl⟩, rfl, ⟨0, hI2⟩, (fun b9 h9 => ((hF1 b9 (fun j9 h8 h7 => (show False from h7).elim)).trans ((fset_fr hΦ1 (fun h8 => h9 (0) h8 (show 0 = 0 by decide))).trans rfl)))⟩

theorem hu_X12_contentOf_X12 : ∀ w ∈ u_ws RX12 TX12 54, w ∈ wsX12_contentOf := fun _ h => List.mem_cons_of_mem _ (List.mem_append_left _ (List.mem_append_right _ (h)))

theorem hv_X12_contentOf_26 : Cond.fieldLink RX12 26 "FlowExporterModel" (TX12 12).2.1 (TX12 12).2.2.1 ∈ wsX12_contentOf := List.mem_cons_of_mem _ (List.mem_append_left _ (List.mem_append_left _ (List.mem_of_getElem? (i := 1) rfl)))

theorem hv_X12_contentOf_107 : Cond.fieldLink RX12 107 "FlowExporterModel" (TX12 5).2.1 (TX12 5).2.2.1 ∈ wsX12_contentOf := List.mem_cons_of_mem _ (List.mem_append_left _ (List.mem_append_left _ (List.mem_of_getElem? (i := 0) rfl)))

set_option maxHeartbeats 4000000 in
set_option maxRecDepth 100000 in
theorem r_contentOf (G : EnvG) (l : Launch) (Φ : Hm) (sz x : Nat) (rd : (Nat → Int32) → Prop) (nw : (Nat → Int32) → Prop) (cr : (Nat → Int64) → Prop) (tp : (Nat → Int32) → Prop) (tt : (Nat → Int64) → Prop) (fl : Nat) (pe : Nat) (le : Nat) (nx : Nat) (il : Nat) (qu : Nat) (kn : Int32) (ec : Int32) (nu : Int32) (va : Int64) (st : Nat) (ep : Int32) (ti : Int32) (ad : Int32) (ob : Int64) (ra : Int32) (rt : Nat) (ex : Int32) (sa : Int64) (us : Int64) (tk : Nat) (th : Int32) (f : Nat) (d : Nat) (hx : G.2.2.2 ≤ x) (hI : Im G x (rd, nw, cr, tp, tt, fl, pe, le, nx, il, qu, kn, ec, nu, va, st, ep, ti, ad, ob, ra, rt, ex, sa, us, tk, th) Φ) (hf : f < 12) (hd : d ≤ 8) (hnw : ∀ f9 : Nat → Int32, nw f9 → NN f9) : Ct G l yX12_contentOf wsX12_contentOf ({ frames := 2, cells := 0, slots := 0, locals := 40 }) 0 0 [.ref x, .int (nI f), .int (nI d)] Φ sz (fun v Φ1 sz1 => (∃ r9 : Int64, v = some (.long r9)) ∧ sz1 = sz ∧ (Im G x (rd, nw, cr, tp, tt, fl, pe, le, nx, il, qu, kn, ec, nu, va, st, ep, ti, ad, ob, ra, rt, ex, sa, us, tk, th) Φ1) ∧ Fr x (fun j9 => False) Φ Φ1) := by
  refine Ct.of (cc := cX12_contentOf) (maxL := 3) (ret := (some .long)) (by decide) rfl (Nat.le_of_ble_eq_true rfl) ?_
  intro p9 e9 s9 m9 w9 t9 k9 B
  show Z p9 l e9 _ s9 m9 _ w9 t9 k9 _ G 3 0 [(0, .ref x), (1, .int (nI f)), (2, .int (nI d))] [] Φ sz 0 0
  refine z_iload_n B dX12_contentOf_0 rfl 2 rfl ?_
  refine z_bipush (v := 8) B dX12_contentOf_1 rfl ?_
  refine z_icmp_ne (tgt := 20) B dX12_contentOf_3 rfl (fun c_1 => ?_) (fun c_1 => ?_)
  · have e_1 : ¬ (d = 8) := fun h9 => c_1 ((nI_eq (a := d) (b := 8) (by omega) (by omega)).mpr h9)
    refine z_aload_n B dX12_contentOf_20 rfl 0 rfl ?_
    obtain ⟨v_1, v_2, v_3, v_4, n_1, v_5, n_2, h_1, b_13, b_1, b_2, b_3, b_4, b_5, b_6, b_7, b_8, b_9, b_10, b_11, b_12⟩ := im0 hI
    replace b_1 : 1 ≤ rt := b_1
    replace b_2 : rt ≤ 1024 := b_2
    replace b_3 : fl ≤ 12 := b_3
    replace b_4 : pe ≤ 24 := b_4
    replace b_5 : le ≤ 700 := b_5
    replace b_6 : qu ≤ 12 := b_6
    replace b_7 : n_1 ≤ 8 := b_7
    replace b_8 : n_2 ≤ 24 := b_8
    replace b_9 : tk ≤ 24 := b_9
    replace b_10 : il ≤ 700 := b_10
    replace b_11 : nx ≤ 701 := b_11
    replace b_12 : st ≤ 701 := b_12
    have h_2 : Φ x = some (o_ 14 [.int th, .ref (x + 1), .ref (x + 2), .int ti, .int ra, .int (nI rt), .int ex, .int ad, .ref (x + 3), .ref (x + 4), .int v_1, .long v_2, .ref (x + 5), .int (nI fl), .int v_3, .long ob, .long sa, .long v_4, .long us, .ref (x + 6), .ref (x + 7), .int (nI pe), .ref (x + 8), .int (nI le), .ref (x + 9), .ref (x + 10), .int (nI qu), .ref (x + 11), .ref (x + 12), .ref (x + 13), .ref (x + 14), .ref (x + 15), .ref (x + 16), .int (nI n_1), .long v_5, .ref (x + 17), .ref (x + 18), .ref (x + 19), .ref (x + 20), .ref (x + 21), .ref (x + 22), .int (nI n_2), .ref (x + 23), .ref (x + 24), .int (nI tk), .ref (x + 25), .int (nI il), .int (nI nx), .int ec, .int ep, .int kn, .int (nI st), .int nu, .long va]) := h_1
    refine z_get (ref := "FlowExporterModel") (C := RX12) (T := TX12) (N := 54) (ci := 14) (v := .ref (x + 5)) B hu_X12_contentOf_X12 rfl 12 (Nat.le_of_ble_eq_true rfl) hv_X12_contentOf_26 rfl h_2 rfl dX12_contentOf_21 ?_
    refine z_bipush (v := 8) B dX12_contentOf_24 rfl ?_
    refine z_iload_n B dX12_contentOf_26 rfl 1 rfl ?_
    refine z_imul B dX12_contentOf_27 ?_
    refine z_top (st1 := [.int (nI (8 * f)), .ref (x + 5)]) (congrArg (fun w9 : Int32 => ([.int w9, .ref (x + 5)] : List Value)) (nI_mul 8 f)) ?_
    refine z_iload_n B dX12_contentOf_28 rfl 2 rfl ?_
    refine z_iadd B dX12_contentOf_29 ?_
    refine z_top (st1 := [.int (nI (8 * f + d)), .ref (x + 5)]) (congrArg (fun w9 : Int32 => ([.int w9, .ref (x + 5)] : List Value)) (nI_add (8 * f) d)) ?_
    obtain ⟨f_1, h_3, r_1, r_2⟩ := imk (k := 5) hI
    replace r_2 : cr f_1 := r_2
    replace r_1 : CC f_1 := r_1
    have h_4 : Φ (x + 5) = some (al_ G 96 f_1) := h_3
    refine z_lald B h_4 (vp_in_nI (by omega) (by omega)) dX12_contentOf_30 ?_
    refine z_fl (fun v_6 => ?_)
    exact z_ret_l B dX12_contentOf_31 ⟨⟨_, rfl⟩, rfl, hI, (fun b9 h9 => rfl)⟩
  · have e_2 : d = 8 := (nI_eq (a := d) (b := 8) (by omega) (by omega)).mp c_1
    refine z_fconst1 B dX12_contentOf_6 ?_
    refine z_aload_n B dX12_contentOf_7 rfl 0 rfl ?_
    obtain ⟨v_7, v_8, v_9, v_10, n_3, v_11, n_4, h_5, b_26, b_14, b_15, b_16, b_17, b_18, b_19, b_20, b_21, b_22, b_23, b_24, b_25⟩ := im0 hI
    replace b_14 : 1 ≤ rt := b_14
    replace b_15 : rt ≤ 1024 := b_15
    replace b_16 : fl ≤ 12 := b_16
    replace b_17 : pe ≤ 24 := b_17
    replace b_18 : le ≤ 700 := b_18
    replace b_19 : qu ≤ 12 := b_19
    replace b_20 : n_3 ≤ 8 := b_20
    replace b_21 : n_4 ≤ 24 := b_21
    replace b_22 : tk ≤ 24 := b_22
    replace b_23 : il ≤ 700 := b_23
    replace b_24 : nx ≤ 701 := b_24
    replace b_25 : st ≤ 701 := b_25
    have h_6 : Φ x = some (o_ 14 [.int th, .ref (x + 1), .ref (x + 2), .int ti, .int ra, .int (nI rt), .int ex, .int ad, .ref (x + 3), .ref (x + 4), .int v_7, .long v_8, .ref (x + 5), .int (nI fl), .int v_9, .long ob, .long sa, .long v_10, .long us, .ref (x + 6), .ref (x + 7), .int (nI pe), .ref (x + 8), .int (nI le), .ref (x + 9), .ref (x + 10), .int (nI qu), .ref (x + 11), .ref (x + 12), .ref (x + 13), .ref (x + 14), .ref (x + 15), .ref (x + 16), .int (nI n_3), .long v_11, .ref (x + 17), .ref (x + 18), .ref (x + 19), .ref (x + 20), .ref (x + 21), .ref (x + 22), .int (nI n_4), .ref (x + 23), .ref (x + 24), .int (nI tk), .ref (x + 25), .int (nI il), .int (nI nx), .int ec, .int ep, .int kn, .int (nI st), .int nu, .long va]) := h_5
    refine z_get (ref := "FlowExporterModel") (C := RX12) (T := TX12) (N := 54) (ci := 14) (v := .int (nI rt)) B hu_X12_contentOf_X12 rfl 5 (Nat.le_of_ble_eq_true rfl) hv_X12_contentOf_107 rfl h_6 rfl dX12_contentOf_8 ?_
    refine z_i2f B dX12_contentOf_11 ?_
    refine z_fdiv B dX12_contentOf_12 (vf32_of (inv_nn (i2f_nn (fun h9 => absurd ((nI_eq (a := rt) (b := 0) (by omega) (by omega)).mp h9) (by omega))))) ?_
    refine z_ff (fun v_12 => ?_)
    refine z_callS (As := [.float v_12]) (rest := []) B (c_J_f2i G l Φ sz v_12 (fun v8 Φ8 sz8 => (∃ r9 : Int32, v8 = some (.int r9)) ∧ sz8 = sz ∧ Im G x (rd, nw, cr, tp, tt, fl, pe, le, nx, il, qu, kn, ec, nu, va, st, ep, ti, ad, ob, ra, rt, ex, sa, us, tk, th) Φ8 ∧ Fr x (fun j9 => False) Φ Φ8) (fun r9 => ⟨⟨r9, rfl⟩, rfl, hI, fun _ _ => rfl⟩)) (va_cwS 1 B.1.2.2.2.2 gX12_contentOf_Jxf58ca_floatToIntBits_5c35a rfl rfl rfl (by decide +kernel) ⟨Nat.le_of_ble_eq_true rfl, Nat.le_of_ble_eq_true rfl⟩) rfl rfl (Nat.le_of_ble_eq_true rfl) dX12_contentOf_13 ⟨Nat.le_of_ble_eq_true rfl, Nat.le_of_ble_eq_true rfl⟩ (fun r_3 Φ1 sz1 st1 hp1 hs1 => ?_)
    obtain ⟨⟨v_13, rfl⟩, hq1, hI1, hF1⟩ := hp1
    subst sz1
    replace hs1 : st1 = [.int v_13] := hs1
    subst st1
    refine z_i2l (v := v_13.toInt64) B dX12_contentOf_16 rfl ?_
    refine z_goto (tgt := 31) B dX12_contentOf_17 rfl ?_
    exact z_ret_l B dX12_contentOf_31 ⟨⟨_, rfl⟩, rfl, hI1, (fun b9 h9 => ((hF1 b9 (fun j9 h8 h7 => (show False from h7).elim)).trans rfl))⟩

set_option maxHeartbeats 4000000 in
set_option maxRecDepth 100000 in
theorem r_sizeOfE (G : EnvG) (l : Launch) (Φ : Hm) (sz x : Nat) (rd : (Nat → Int32) → Prop) (nw : (Nat → Int32) → Prop) (cr : (Nat → Int64) → Prop) (tp : (Nat → Int32) → Prop) (tt : (Nat → Int64) → Prop) (fl : Nat) (pe : Nat) (le : Nat) (nx : Nat) (il : Nat) (qu : Nat) (kn : Int32) (ec : Int32) (nu : Int32) (va : Int64) (st : Nat) (ep : Int32) (ti : Int32) (ad : Int32) (ob : Int64) (ra : Int32) (rt : Nat) (ex : Int32) (sa : Int64) (us : Int64) (tk : Nat) (th : Int32) (fN : Nat → Int32) (t : Nat) (hx : G.2.2.2 ≤ x) (hI : Im G x (rd, nw, cr, tp, tt, fl, pe, le, nx, il, qu, kn, ec, nu, va, st, ep, ti, ad, ob, ra, rt, ex, sa, us, tk, th) Φ) (hc0 : Φ (x + 2) = some (ai_ G 307 fN)) (hN : NN fN) (ht : t < 4) (hnw : ∀ f9 : Nat → Int32, nw f9 → NN f9) : Ct G l yX12_sizeOf wsX12_sizeOf ({ frames := 0, cells := 0, slots := 0, locals := 0 }) 0 0 [.ref x, .int (nI t)] Φ sz (fun v Φ1 sz1 => (∃ n9 : Nat, v = some (.int (nI n9)) ∧ n9 ≤ 9 ∧ fN (11 + t) = nI n9 ∧ lsm fN (15 + 9 * t) n9 ≤ 29) ∧ sz1 = sz ∧ (Im G x (rd, nw, cr, tp, tt, fl, pe, le, nx, il, qu, kn, ec, nu, va, st, ep, ti, ad, ob, ra, rt, ex, sa, us, tk, th) Φ1) ∧ Fr x (fun j9 => False) Φ Φ1) := by
  refine Ct.of (cc := cX12_sizeOf) (maxL := 2) (ret := (some .int)) (by decide) rfl (Nat.le_of_ble_eq_true rfl) ?_
  intro p9 e9 s9 m9 w9 t9 k9 B
  show Z p9 l e9 _ s9 m9 _ w9 t9 k9 _ G 2 0 [(0, .ref x), (1, .int (nI t))] [] Φ sz 0 0
  refine z_aload_n B dX12_sizeOf_0 rfl 0 rfl ?_
  obtain ⟨v_1, v_2, v_3, v_4, n_1, v_5, n_2, h_1, b_13, b_1, b_2, b_3, b_4, b_5, b_6, b_7, b_8, b_9, b_10, b_11, b_12⟩ := im0 hI
  replace b_1 : 1 ≤ rt := b_1
  replace b_2 : rt ≤ 1024 := b_2
  replace b_3 : fl ≤ 12 := b_3
  replace b_4 : pe ≤ 24 := b_4
  replace b_5 : le ≤ 700 := b_5
  replace b_6 : qu ≤ 12 := b_6
  replace b_7 : n_1 ≤ 8 := b_7
  replace b_8 : n_2 ≤ 24 := b_8
  replace b_9 : tk ≤ 24 := b_9
  replace b_10 : il ≤ 700 := b_10
  replace b_11 : nx ≤ 701 := b_11
  replace b_12 : st ≤ 701 := b_12
  have h_2 : Φ x = some (o_ 14 [.int th, .ref (x + 1), .ref (x + 2), .int ti, .int ra, .int (nI rt), .int ex, .int ad, .ref (x + 3), .ref (x + 4), .int v_1, .long v_2, .ref (x + 5), .int (nI fl), .int v_3, .long ob, .long sa, .long v_4, .long us, .ref (x + 6), .ref (x + 7), .int (nI pe), .ref (x + 8), .int (nI le), .ref (x + 9), .ref (x + 10), .int (nI qu), .ref (x + 11), .ref (x + 12), .ref (x + 13), .ref (x + 14), .ref (x + 15), .ref (x + 16), .int (nI n_1), .long v_5, .ref (x + 17), .ref (x + 18), .ref (x + 19), .ref (x + 20), .ref (x + 21), .ref (x + 22), .int (nI n_2), .ref (x + 23), .ref (x + 24), .int (nI tk), .ref (x + 25), .int (nI il), .int (nI nx), .int ec, .int ep, .int kn, .int (nI st), .int nu, .long va]) := h_1
  refine z_get (ref := "FlowExporterModel") (C := RX12) (T := TX12) (N := 54) (ci := 14) (v := .ref (x + 2)) B hu_X12_sizeOf_X12 rfl 2 (Nat.le_of_ble_eq_true rfl) hv_X12_sizeOf_17 rfl h_2 rfl dX12_sizeOf_1 ?_
  refine z_bipush (v := 11) B dX12_sizeOf_4 rfl ?_
  refine z_iload_n B dX12_sizeOf_6 rfl 1 rfl ?_
  refine z_iadd B dX12_sizeOf_7 ?_
  refine z_top (st1 := [.int (nI (11 + t)), .ref (x + 2)]) (congrArg (fun w9 : Int32 => ([.int w9, .ref (x + 2)] : List Value)) (nI_add 11 t)) ?_
  refine z_iald B hc0 (vp_in_nI (by omega) (by omega)) dX12_sizeOf_8 ?_
  obtain ⟨n_3, hs1, hs2, hs3⟩ := NN.size hN ht
  refine z_top (st1 := [.int (nI n_3)]) (congrArg (fun w9 : Int32 => ([.int w9] : List Value)) ((congrArg fN (nI_clamp (by omega))).trans hs2)) ?_
  exact z_ret_i B dX12_sizeOf_9 ⟨⟨_, rfl, hs1, hs2, hs3⟩, rfl, hI, (fun b9 h9 => rfl)⟩

set_option maxHeartbeats 4000000 in
set_option maxRecDepth 100000 in
theorem r_fieldOfE (G : EnvG) (l : Launch) (Φ : Hm) (sz x : Nat) (rd : (Nat → Int32) → Prop) (nw : (Nat → Int32) → Prop) (cr : (Nat → Int64) → Prop) (tp : (Nat → Int32) → Prop) (tt : (Nat → Int64) → Prop) (fl : Nat) (pe : Nat) (le : Nat) (nx : Nat) (il : Nat) (qu : Nat) (kn : Int32) (ec : Int32) (nu : Int32) (va : Int64) (st : Nat) (ep : Int32) (ti : Int32) (ad : Int32) (ob : Int64) (ra : Int32) (rt : Nat) (ex : Int32) (sa : Int64) (us : Int64) (tk : Nat) (th : Int32) (fN : Nat → Int32) (t : Nat) (q : Nat) (hx : G.2.2.2 ≤ x) (hI : Im G x (rd, nw, cr, tp, tt, fl, pe, le, nx, il, qu, kn, ec, nu, va, st, ep, ti, ad, ob, ra, rt, ex, sa, us, tk, th) Φ) (hc0 : Φ (x + 2) = some (ai_ G 307 fN)) (hN : NN fN) (ht : t < 4) (hq : q < 9) (hnw : ∀ f9 : Nat → Int32, nw f9 → NN f9) : Ct G l yX12_fieldOf wsX12_fieldOf ({ frames := 0, cells := 0, slots := 0, locals := 0 }) 0 0 [.ref x, .int (nI t), .int (nI q)] Φ sz (fun v Φ1 sz1 => (∃ n9 : Nat, v = some (.int (nI n9)) ∧ n9 ≤ 8 ∧ fN (15 + 9 * t + q) = nI n9) ∧ sz1 = sz ∧ (Im G x (rd, nw, cr, tp, tt, fl, pe, le, nx, il, qu, kn, ec, nu, va, st, ep, ti, ad, ob, ra, rt, ex, sa, us, tk, th) Φ1) ∧ Fr x (fun j9 => False) Φ Φ1) := by
  refine Ct.of (cc := cX12_fieldOf) (maxL := 3) (ret := (some .int)) (by decide) rfl (Nat.le_of_ble_eq_true rfl) ?_
  intro p9 e9 s9 m9 w9 t9 k9 B
  show Z p9 l e9 _ s9 m9 _ w9 t9 k9 _ G 3 0 [(0, .ref x), (1, .int (nI t)), (2, .int (nI q))] [] Φ sz 0 0
  refine z_aload_n B dX12_fieldOf_0 rfl 0 rfl ?_
  obtain ⟨v_1, v_2, v_3, v_4, n_1, v_5, n_2, h_1, b_13, b_1, b_2, b_3, b_4, b_5, b_6, b_7, b_8, b_9, b_10, b_11, b_12⟩ := im0 hI
  replace b_1 : 1 ≤ rt := b_1
  replace b_2 : rt ≤ 1024 := b_2
  replace b_3 : fl ≤ 12 := b_3
  replace b_4 : pe ≤ 24 := b_4
  replace b_5 : le ≤ 700 := b_5
  replace b_6 : qu ≤ 12 := b_6
  replace b_7 : n_1 ≤ 8 := b_7
  replace b_8 : n_2 ≤ 24 := b_8
  replace b_9 : tk ≤ 24 := b_9
  replace b_10 : il ≤ 700 := b_10
  replace b_11 : nx ≤ 701 := b_11
  replace b_12 : st ≤ 701 := b_12
  have h_2 : Φ x = some (o_ 14 [.int th, .ref (x + 1), .ref (x + 2), .int ti, .int ra, .int (nI rt), .int ex, .int ad, .ref (x + 3), .ref (x + 4), .int v_1, .long v_2, .ref (x + 5), .int (nI fl), .int v_3, .long ob, .long sa, .long v_4, .long us, .ref (x + 6), .ref (x + 7), .int (nI pe), .ref (x + 8), .int (nI le), .ref (x + 9), .ref (x + 10), .int (nI qu), .ref (x + 11), .ref (x + 12), .ref (x + 13), .ref (x + 14), .ref (x + 15), .ref (x + 16), .int (nI n_1), .long v_5, .ref (x + 17), .ref (x + 18), .ref (x + 19), .ref (x + 20), .ref (x + 21), .ref (x + 22), .int (nI n_2), .ref (x + 23), .ref (x + 24), .int (nI tk), .ref (x + 25), .int (nI il), .int (nI nx), .int ec, .int ep, .int kn, .int (nI st), .int nu, .long va]) := h_1
  refine z_get (ref := "FlowExporterModel") (C := RX12) (T := TX12) (N := 54) (ci := 14) (v := .ref (x + 2)) B hu_X12_fieldOf_X12 rfl 2 (Nat.le_of_ble_eq_true rfl) hv_X12_fieldOf_17 rfl h_2 rfl dX12_fieldOf_1 ?_
  refine z_bipush (v := 15) B dX12_fieldOf_4 rfl ?_
  refine z_bipush (v := 9) B dX12_fieldOf_6 rfl ?_
  refine z_iload_n B dX12_fieldOf_8 rfl 1 rfl ?_
  refine z_imul B dX12_fieldOf_9 ?_
  refine z_top (st1 := [.int (nI (9 * t)), .int 15, .ref (x + 2)]) (congrArg (fun w9 : Int32 => ([.int w9, .int 15, .ref (x + 2)] : List Value)) (nI_mul 9 t)) ?_
  refine z_iadd B dX12_fieldOf_10 ?_
  refine z_top (st1 := [.int (nI (15 + 9 * t)), .ref (x + 2)]) (congrArg (fun w9 : Int32 => ([.int w9, .ref (x + 2)] : List Value)) (nI_add 15 (9 * t))) ?_
  refine z_iload_n B dX12_fieldOf_11 rfl 2 rfl ?_
  refine z_iadd B dX12_fieldOf_12 ?_
  refine z_top (st1 := [.int (nI (15 + 9 * t + q)), .ref (x + 2)]) (congrArg (fun w9 : Int32 => ([.int w9, .ref (x + 2)] : List Value)) (nI_add (15 + 9 * t) q)) ?_
  refine z_iald B hc0 (vp_in_nI (by omega) (by omega)) dX12_fieldOf_13 ?_
  obtain ⟨n_3, hs1, hs2⟩ := hN.2.1 (15 + 9 * t + q) (by omega) (by omega)
  refine z_top (st1 := [.int (nI n_3)]) (congrArg (fun w9 : Int32 => ([.int w9] : List Value)) ((congrArg fN (nI_clamp (by omega))).trans hs2)) ?_
  exact z_ret_i B dX12_fieldOf_14 ⟨⟨_, rfl, hs1, hs2⟩, rfl, hI, (fun b9 h9 => rfl)⟩

theorem hu_X12_appendRecord_X12 : ∀ w ∈ u_ws RX12 TX12 54, w ∈ wsX12_appendRecord := fun _ h => List.mem_cons_of_mem _ (List.mem_append_left _ (List.mem_append_right _ (h)))

theorem hv_X12_appendRecord_136 : Cond.fieldLink RX12 136 "FlowExporterModel" (TX12 21).2.1 (TX12 21).2.2.1 ∈ wsX12_appendRecord := List.mem_cons_of_mem _ (List.mem_append_left _ (List.mem_append_left _ (List.mem_append_left _ (List.mem_of_getElem? (i := 0) rfl))))

theorem fq_909 {x : Nat} : ∀ j9 : Nat, x + 2 = x + j9 → (j9 = 7) → False := by
  intro j9 h1 h2
  omega

theorem fq_910 {x : Nat} : ∀ j9 : Nat, x = x + j9 → (j9 = 7) → False := by
  intro j9 h1 h2
  omega

theorem hv_X12_appendRecord_30 : Cond.fieldLink RX12 30 "FlowExporterModel" (TX12 19).2.1 (TX12 19).2.2.1 ∈ wsX12_appendRecord := List.mem_cons_of_mem _ (List.mem_append_left _ (List.mem_append_left _ (List.mem_append_left _ (List.mem_of_getElem? (i := 3) rfl))))

theorem fq_912 : ∀ j9 : Nat, (j9 = 7) → (j9 = 0 ∨ j9 = 6 ∨ j9 = 7) := by
  intro j9 h
  omega

theorem hv_X12_appendRecord_33 : Cond.fieldLink RX12 33 "FlowExporterModel" (TX12 20).2.1 (TX12 20).2.2.1 ∈ wsX12_appendRecord := List.mem_cons_of_mem _ (List.mem_append_left _ (List.mem_append_left _ (List.mem_append_left _ (List.mem_of_getElem? (i := 1) rfl))))
