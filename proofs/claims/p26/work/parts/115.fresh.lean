/-! the fresh objects are in shape -/
theorem stp {P : Nat → Prop} {n : Nat} (h : ∀ k, k < n → P k) (hn : P n) : ∀ k, k < n + 1 → P k := fun k hk => (Nat.lt_succ_iff_lt_or_eq.mp hk).elim (h k) (fun e => e ▸ hn)
theorem upd_b {f : Nat → Int32} {i : Nat} {P : Int32 → Prop} {v : Int32} (h : ∀ j, P (f j)) (hv : P v) (j : Nat) : P (upd f i v j) := by
  unfold upd
  split
  · exact hv
  · exact h j
theorem usT_nn (j : Nat) : ¬ usT j < 0 := by
  by_cases h : j < 9
  · have hh : ∀ k, k < 9 → ¬ usT k < 0 := by decide
    exact hh j h
  · unfold usT
    rw [List.getD_eq_getElem?_getD, List.getElem?_eq_none (show ([1, 100, 1000, 100, 20, 1000, 5000, 512, 1] : List Int32).length ≤ j from Nat.not_lt.mp h)]
    decide
theorem pd_0 : pd64 (0 : UInt64) := pd_zero
set_option maxHeartbeats 8000000 in
set_option maxRecDepth 100000 in
theorem in_fresh {G : EnvG} {x : Nat} {Φ : Hm} (h0 : Φ x = some (o_ 13 [.ref (x + 1), .ref (x + 3), .ref (x + 24), .ref (x + 46), .ref (x + 74), .ref (x + 80), .ref (x + 132), .ref (x + 121)])) (h1 : Φ (x + 1) = some (o_ 7 [.ref (x + 2), .int 0])) (h2 : Φ (x + 2) = some (ab_ G 700 (fun _ => 0))) (h3 : Φ (x + 3) = some (o_ 3 [.ref (x + 4), .ref (x + 5), .ref (x + 6), .ref (x + 7), .int 1, .int 511])) (h4 : Φ (x + 4) = some (ai_ G 9 usT)) (h5 : Φ (x + 5) = some (ai_ G 256 (fun _ => 0))) (h6 : Φ (x + 6) = some (aq_ G 4 4 (va_up (va_up (va_up (va_up (fun _ => none) (0 : Int32).toNatClampNeg (some (x + 8))) (1 : Int32).toNatClampNeg (some (x + 12))) (2 : Int32).toNatClampNeg (some (x + 16))) (3 : Int32).toNatClampNeg (some (x + 20))))) (h7 : Φ (x + 7) = some (aq_ G 4 4 (va_up (va_up (va_up (va_up (fun _ => none) (0 : Int32).toNatClampNeg (some (x + 10))) (1 : Int32).toNatClampNeg (some (x + 14))) (2 : Int32).toNatClampNeg (some (x + 18))) (3 : Int32).toNatClampNeg (some (x + 22))))) (h8 : Φ (x + 8) = some (o_ 12 [.ref (x + 9), .int 9, .int 511, .int 29])) (h9 : Φ (x + 9) = some (ai_ G 9 (upd (upd (upd (upd (upd (upd (upd (upd (upd (fun _ => 0) (0 : Int32).toNatClampNeg 0) (1 : Int32).toNatClampNeg 1) (2 : Int32).toNatClampNeg 2) (3 : Int32).toNatClampNeg 3) (4 : Int32).toNatClampNeg 4) (5 : Int32).toNatClampNeg 5) (6 : Int32).toNatClampNeg 6) (7 : Int32).toNatClampNeg 7) (8 : Int32).toNatClampNeg 8))) (h10 : Φ (x + 10) = some (o_ 12 [.ref (x + 11), .int 9, .int 511, .int 29])) (h11 : Φ (x + 11) = some (ai_ G 9 (upd (upd (upd (upd (upd (upd (upd (upd (upd (fun _ => 0) (0 : Int32).toNatClampNeg 0) (1 : Int32).toNatClampNeg 1) (2 : Int32).toNatClampNeg 2) (3 : Int32).toNatClampNeg 3) (4 : Int32).toNatClampNeg 4) (5 : Int32).toNatClampNeg 5) (6 : Int32).toNatClampNeg 6) (7 : Int32).toNatClampNeg 7) (8 : Int32).toNatClampNeg 8))) (h12 : Φ (x + 12) = some (o_ 12 [.ref (x + 13), .int 0, .int 0, .int 0])) (h13 : Φ (x + 13) = some (ai_ G 9 (fun _ => 0))) (h14 : Φ (x + 14) = some (o_ 12 [.ref (x + 15), .int 0, .int 0, .int 0])) (h15 : Φ (x + 15) = some (ai_ G 9 (fun _ => 0))) (h16 : Φ (x + 16) = some (o_ 12 [.ref (x + 17), .int 0, .int 0, .int 0])) (h17 : Φ (x + 17) = some (ai_ G 9 (fun _ => 0))) (h18 : Φ (x + 18) = some (o_ 12 [.ref (x + 19), .int 0, .int 0, .int 0])) (h19 : Φ (x + 19) = some (ai_ G 9 (fun _ => 0))) (h20 : Φ (x + 20) = some (o_ 12 [.ref (x + 21), .int 0, .int 0, .int 0])) (h21 : Φ (x + 21) = some (ai_ G 9 (fun _ => 0))) (h22 : Φ (x + 22) = some (o_ 12 [.ref (x + 23), .int 0, .int 0, .int 0])) (h23 : Φ (x + 23) = some (ai_ G 9 (fun _ => 0))) (h24 : Φ (x + 24) = some (o_ 8 [.ref (x + 25), .int 0, .int (-1), .ref (x + 1), .int 0, .int 0, .int 0, .int 0])) (h25 : Φ (x + 25) = some (o_ 3 [.ref (x + 26), .ref (x + 27), .ref (x + 28), .ref (x + 29), .int 1, .int 511])) (h26 : Φ (x + 26) = some (ai_ G 9 usT)) (h27 : Φ (x + 27) = some (ai_ G 256 (fun _ => 0))) (h28 : Φ (x + 28) = some (aq_ G 4 4 (va_up (va_up (va_up (va_up (fun _ => none) (0 : Int32).toNatClampNeg (some (x + 30))) (1 : Int32).toNatClampNeg (some (x + 34))) (2 : Int32).toNatClampNeg (some (x + 38))) (3 : Int32).toNatClampNeg (some (x + 42))))) (h29 : Φ (x + 29) = some (aq_ G 4 4 (va_up (va_up (va_up (va_up (fun _ => none) (0 : Int32).toNatClampNeg (some (x + 32))) (1 : Int32).toNatClampNeg (some (x + 36))) (2 : Int32).toNatClampNeg (some (x + 40))) (3 : Int32).toNatClampNeg (some (x + 44))))) (h30 : Φ (x + 30) = some (o_ 12 [.ref (x + 31), .int 9, .int 511, .int 29])) (h31 : Φ (x + 31) = some (ai_ G 9 (upd (upd (upd (upd (upd (upd (upd (upd (upd (fun _ => 0) (0 : Int32).toNatClampNeg 0) (1 : Int32).toNatClampNeg 1) (2 : Int32).toNatClampNeg 2) (3 : Int32).toNatClampNeg 3) (4 : Int32).toNatClampNeg 4) (5 : Int32).toNatClampNeg 5) (6 : Int32).toNatClampNeg 6) (7 : Int32).toNatClampNeg 7) (8 : Int32).toNatClampNeg 8))) (h32 : Φ (x + 32) = some (o_ 12 [.ref (x + 33), .int 0, .int 0, .int 0])) (h33 : Φ (x + 33) = some (ai_ G 9 (fun _ => 0))) (h34 : Φ (x + 34) = some (o_ 12 [.ref (x + 35), .int 0, .int 0, .int 0])) (h35 : Φ (x + 35) = some (ai_ G 9 (fun _ => 0))) (h36 : Φ (x + 36) = some (o_ 12 [.ref (x + 37), .int 0, .int 0, .int 0])) (h37 : Φ (x + 37) = some (ai_ G 9 (fun _ => 0))) (h38 : Φ (x + 38) = some (o_ 12 [.ref (x + 39), .int 0, .int 0, .int 0])) (h39 : Φ (x + 39) = some (ai_ G 9 (fun _ => 0))) (h40 : Φ (x + 40) = some (o_ 12 [.ref (x + 41), .int 0, .int 0, .int 0])) (h41 : Φ (x + 41) = some (ai_ G 9 (fun _ => 0))) (h42 : Φ (x + 42) = some (o_ 12 [.ref (x + 43), .int 0, .int 0, .int 0])) (h43 : Φ (x + 43) = some (ai_ G 9 (fun _ => 0))) (h44 : Φ (x + 44) = some (o_ 12 [.ref (x + 45), .int 0, .int 0, .int 0])) (h45 : Φ (x + 45) = some (ai_ G 9 (fun _ => 0))) (h46 : Φ (x + 46) = some (o_ 9 [.ref (x + 47), .int 0, .int 0])) (h47 : Φ (x + 47) = some (aq_ G 6 13 (va_up (va_up (va_up (va_up (va_up (va_up (va_up (va_up (va_up (va_up (va_up (va_up (va_up (fun _ => none) (0 : Int32).toNatClampNeg (some (x + 48))) (1 : Int32).toNatClampNeg (some (x + 50))) (2 : Int32).toNatClampNeg (some (x + 52))) (3 : Int32).toNatClampNeg (some (x + 54))) (4 : Int32).toNatClampNeg (some (x + 56))) (5 : Int32).toNatClampNeg (some (x + 58))) (6 : Int32).toNatClampNeg (some (x + 60))) (7 : Int32).toNatClampNeg (some (x + 62))) (8 : Int32).toNatClampNeg (some (x + 64))) (9 : Int32).toNatClampNeg (some (x + 66))) (10 : Int32).toNatClampNeg (some (x + 68))) (11 : Int32).toNatClampNeg (some (x + 70))) (12 : Int32).toNatClampNeg (some (x + 72))))) (h48 : Φ (x + 48) = some (o_ 7 [.ref (x + 49), .int 0])) (h49 : Φ (x + 49) = some (ab_ G 600 (fun _ => 0))) (h50 : Φ (x + 50) = some (o_ 7 [.ref (x + 51), .int 0])) (h51 : Φ (x + 51) = some (ab_ G 600 (fun _ => 0))) (h52 : Φ (x + 52) = some (o_ 7 [.ref (x + 53), .int 0])) (h53 : Φ (x + 53) = some (ab_ G 600 (fun _ => 0))) (h54 : Φ (x + 54) = some (o_ 7 [.ref (x + 55), .int 0])) (h55 : Φ (x + 55) = some (ab_ G 600 (fun _ => 0))) (h56 : Φ (x + 56) = some (o_ 7 [.ref (x + 57), .int 0])) (h57 : Φ (x + 57) = some (ab_ G 600 (fun _ => 0))) (h58 : Φ (x + 58) = some (o_ 7 [.ref (x + 59), .int 0])) (h59 : Φ (x + 59) = some (ab_ G 600 (fun _ => 0))) (h60 : Φ (x + 60) = some (o_ 7 [.ref (x + 61), .int 0])) (h61 : Φ (x + 61) = some (ab_ G 600 (fun _ => 0))) (h62 : Φ (x + 62) = some (o_ 7 [.ref (x + 63), .int 0])) (h63 : Φ (x + 63) = some (ab_ G 600 (fun _ => 0))) (h64 : Φ (x + 64) = some (o_ 7 [.ref (x + 65), .int 0])) (h65 : Φ (x + 65) = some (ab_ G 600 (fun _ => 0))) (h66 : Φ (x + 66) = some (o_ 7 [.ref (x + 67), .int 0])) (h67 : Φ (x + 67) = some (ab_ G 600 (fun _ => 0))) (h68 : Φ (x + 68) = some (o_ 7 [.ref (x + 69), .int 0])) (h69 : Φ (x + 69) = some (ab_ G 600 (fun _ => 0))) (h70 : Φ (x + 70) = some (o_ 7 [.ref (x + 71), .int 0])) (h71 : Φ (x + 71) = some (ab_ G 600 (fun _ => 0))) (h72 : Φ (x + 72) = some (o_ 7 [.ref (x + 73), .int 0])) (h73 : Φ (x + 73) = some (ab_ G 600 (fun _ => 0))) (h74 : Φ (x + 74) = some (o_ 10 [.ref (x + 3), .ref (x + 46), .ref (x + 75), .ref (x + 77), .int 0, .ref (x + 78), .ref (x + 79), .int 0, .long 0, .int 0])) (h75 : Φ (x + 75) = some (o_ 7 [.ref (x + 76), .int 0])) (h76 : Φ (x + 76) = some (ab_ G 348 (fun _ => 0))) (h77 : Φ (x + 77) = some (ai_ G 12 (fun _ => 0))) (h78 : Φ (x + 78) = some (ai_ G 4 (fun _ => 0))) (h79 : Φ (x + 79) = some (ai_ G 4 (fun _ => 0))) (h80 : Φ (x + 80) = some (o_ 4 [.ref (x + 3), .ref (x + 74), .ref (x + 81), .ref (x + 95), .int 0, .int 1, .int 1, .int 0, .int 0, .int 0, .long 0, .long 0, .long 0])) (h81 : Φ (x + 81) = some (o_ 6 [.ref (x + 82), .int 0])) (h82 : Φ (x + 82) = some (aq_ G 5 12 (va_up (va_up (va_up (va_up (va_up (va_up (va_up (va_up (va_up (va_up (va_up (va_up (fun _ => none) (0 : Int32).toNatClampNeg (some (x + 83))) (1 : Int32).toNatClampNeg (some (x + 84))) (2 : Int32).toNatClampNeg (some (x + 85))) (3 : Int32).toNatClampNeg (some (x + 86))) (4 : Int32).toNatClampNeg (some (x + 87))) (5 : Int32).toNatClampNeg (some (x + 88))) (6 : Int32).toNatClampNeg (some (x + 89))) (7 : Int32).toNatClampNeg (some (x + 90))) (8 : Int32).toNatClampNeg (some (x + 91))) (9 : Int32).toNatClampNeg (some (x + 92))) (10 : Int32).toNatClampNeg (some (x + 93))) (11 : Int32).toNatClampNeg (some (x + 94))))) (h83 : Φ (x + 83) = some (o_ 5 [.long 0, .long 0, .long 0, .int 0, .int 0])) (h84 : Φ (x + 84) = some (o_ 5 [.long 0, .long 0, .long 0, .int 0, .int 0])) (h85 : Φ (x + 85) = some (o_ 5 [.long 0, .long 0, .long 0, .int 0, .int 0])) (h86 : Φ (x + 86) = some (o_ 5 [.long 0, .long 0, .long 0, .int 0, .int 0])) (h87 : Φ (x + 87) = some (o_ 5 [.long 0, .long 0, .long 0, .int 0, .int 0])) (h88 : Φ (x + 88) = some (o_ 5 [.long 0, .long 0, .long 0, .int 0, .int 0])) (h89 : Φ (x + 89) = some (o_ 5 [.long 0, .long 0, .long 0, .int 0, .int 0])) (h90 : Φ (x + 90) = some (o_ 5 [.long 0, .long 0, .long 0, .int 0, .int 0])) (h91 : Φ (x + 91) = some (o_ 5 [.long 0, .long 0, .long 0, .int 0, .int 0])) (h92 : Φ (x + 92) = some (o_ 5 [.long 0, .long 0, .long 0, .int 0, .int 0])) (h93 : Φ (x + 93) = some (o_ 5 [.long 0, .long 0, .long 0, .int 0, .int 0])) (h94 : Φ (x + 94) = some (o_ 5 [.long 0, .long 0, .long 0, .int 0, .int 0])) (h95 : Φ (x + 95) = some (o_ 6 [.ref (x + 96), .int 0])) (h96 : Φ (x + 96) = some (aq_ G 5 24 (va_up (va_up (va_up (va_up (va_up (va_up (va_up (va_up (va_up (va_up (va_up (va_up (va_up (va_up (va_up (va_up (va_up (va_up (va_up (va_up (va_up (va_up (va_up (va_up (fun _ => none) (0 : Int32).toNatClampNeg (some (x + 97))) (1 : Int32).toNatClampNeg (some (x + 98))) (2 : Int32).toNatClampNeg (some (x + 99))) (3 : Int32).toNatClampNeg (some (x + 100))) (4 : Int32).toNatClampNeg (some (x + 101))) (5 : Int32).toNatClampNeg (some (x + 102))) (6 : Int32).toNatClampNeg (some (x + 103))) (7 : Int32).toNatClampNeg (some (x + 104))) (8 : Int32).toNatClampNeg (some (x + 105))) (9 : Int32).toNatClampNeg (some (x + 106))) (10 : Int32).toNatClampNeg (some (x + 107))) (11 : Int32).toNatClampNeg (some (x + 108))) (12 : Int32).toNatClampNeg (some (x + 109))) (13 : Int32).toNatClampNeg (some (x + 110))) (14 : Int32).toNatClampNeg (some (x + 111))) (15 : Int32).toNatClampNeg (some (x + 112))) (16 : Int32).toNatClampNeg (some (x + 113))) (17 : Int32).toNatClampNeg (some (x + 114))) (18 : Int32).toNatClampNeg (some (x + 115))) (19 : Int32).toNatClampNeg (some (x + 116))) (20 : Int32).toNatClampNeg (some (x + 117))) (21 : Int32).toNatClampNeg (some (x + 118))) (22 : Int32).toNatClampNeg (some (x + 119))) (23 : Int32).toNatClampNeg (some (x + 120))))) (h97 : Φ (x + 97) = some (o_ 5 [.long 0, .long 0, .long 0, .int 0, .int 0])) (h98 : Φ (x + 98) = some (o_ 5 [.long 0, .long 0, .long 0, .int 0, .int 0])) (h99 : Φ (x + 99) = some (o_ 5 [.long 0, .long 0, .long 0, .int 0, .int 0])) (h100 : Φ (x + 100) = some (o_ 5 [.long 0, .long 0, .long 0, .int 0, .int 0])) (h101 : Φ (x + 101) = some (o_ 5 [.long 0, .long 0, .long 0, .int 0, .int 0])) (h102 : Φ (x + 102) = some (o_ 5 [.long 0, .long 0, .long 0, .int 0, .int 0])) (h103 : Φ (x + 103) = some (o_ 5 [.long 0, .long 0, .long 0, .int 0, .int 0])) (h104 : Φ (x + 104) = some (o_ 5 [.long 0, .long 0, .long 0, .int 0, .int 0])) (h105 : Φ (x + 105) = some (o_ 5 [.long 0, .long 0, .long 0, .int 0, .int 0])) (h106 : Φ (x + 106) = some (o_ 5 [.long 0, .long 0, .long 0, .int 0, .int 0])) (h107 : Φ (x + 107) = some (o_ 5 [.long 0, .long 0, .long 0, .int 0, .int 0])) (h108 : Φ (x + 108) = some (o_ 5 [.long 0, .long 0, .long 0, .int 0, .int 0])) (h109 : Φ (x + 109) = some (o_ 5 [.long 0, .long 0, .long 0, .int 0, .int 0])) (h110 : Φ (x + 110) = some (o_ 5 [.long 0, .long 0, .long 0, .int 0, .int 0])) (h111 : Φ (x + 111) = some (o_ 5 [.long 0, .long 0, .long 0, .int 0, .int 0])) (h112 : Φ (x + 112) = some (o_ 5 [.long 0, .long 0, .long 0, .int 0, .int 0])) (h113 : Φ (x + 113) = some (o_ 5 [.long 0, .long 0, .long 0, .int 0, .int 0])) (h114 : Φ (x + 114) = some (o_ 5 [.long 0, .long 0, .long 0, .int 0, .int 0])) (h115 : Φ (x + 115) = some (o_ 5 [.long 0, .long 0, .long 0, .int 0, .int 0])) (h116 : Φ (x + 116) = some (o_ 5 [.long 0, .long 0, .long 0, .int 0, .int 0])) (h117 : Φ (x + 117) = some (o_ 5 [.long 0, .long 0, .long 0, .int 0, .int 0])) (h118 : Φ (x + 118) = some (o_ 5 [.long 0, .long 0, .long 0, .int 0, .int 0])) (h119 : Φ (x + 119) = some (o_ 5 [.long 0, .long 0, .long 0, .int 0, .int 0])) (h120 : Φ (x + 120) = some (o_ 5 [.long 0, .long 0, .long 0, .int 0, .int 0])) (h121 : Φ (x + 121) = some (o_ 11 [.ref (x + 122), .ref (x + 123), .ref (x + 126), .ref (x + 129), .int 0])) (h122 : Φ (x + 122) = some (al_ G 24 (fun _ => 0))) (h123 : Φ (x + 123) = some (aq_ G 7 2 (fun i => if i < 2 then some (x + 123 + 1 + i) else none))) (h124 : Φ (x + 124) = some (al_ G 24 (fun _ => 0))) (h125 : Φ (x + 125) = some (al_ G 24 (fun _ => 0))) (h126 : Φ (x + 126) = some (aq_ G 7 2 (fun i => if i < 2 then some (x + 126 + 1 + i) else none))) (h127 : Φ (x + 127) = some (al_ G 24 (fun _ => 0))) (h128 : Φ (x + 128) = some (al_ G 24 (fun _ => 0))) (h129 : Φ (x + 129) = some (aq_ G 8 2 (fun i => if i < 2 then some (x + 129 + 1 + i) else none))) (h130 : Φ (x + 130) = some (ad_ G 24 (fun _ => 0))) (h131 : Φ (x + 131) = some (ad_ G 24 (fun _ => 0))) (h132 : Φ (x + 132) = some (o_ 2 [.ref (x + 3), .ref (x + 121), .ref (x + 133), .ref (x + 134), .ref (x + 135), .ref (x + 137), .ref (x + 138), .ref (x + 139), .ref (x + 140), .int 0, .int 0, .int 0])) (h133 : Φ (x + 133) = some (aq_ G 4 4 (va_up (va_up (va_up (va_up (fun _ => none) (0 : Int32).toNatClampNeg (some (x + 141))) (1 : Int32).toNatClampNeg (some (x + 143))) (2 : Int32).toNatClampNeg (some (x + 145))) (3 : Int32).toNatClampNeg (some (x + 147))))) (h134 : Φ (x + 134) = some (ai_ G 4 (fun _ => 0))) (h135 : Φ (x + 135) = some (o_ 12 [.ref (x + 136), .int 0, .int 0, .int 0])) (h136 : Φ (x + 136) = some (ai_ G 9 (fun _ => 0))) (h137 : Φ (x + 137) = some (ai_ G 8 (fun _ => 0))) (h138 : Φ (x + 138) = some (ai_ G 8 (fun _ => 0))) (h139 : Φ (x + 139) = some (al_ G 9 (fun _ => 0))) (h140 : Φ (x + 140) = some (al_ G 9 (fun _ => 0))) (h141 : Φ (x + 141) = some (o_ 12 [.ref (x + 142), .int 0, .int 0, .int 0])) (h142 : Φ (x + 142) = some (ai_ G 9 (fun _ => 0))) (h143 : Φ (x + 143) = some (o_ 12 [.ref (x + 144), .int 0, .int 0, .int 0])) (h144 : Φ (x + 144) = some (ai_ G 9 (fun _ => 0))) (h145 : Φ (x + 145) = some (o_ 12 [.ref (x + 146), .int 0, .int 0, .int 0])) (h146 : Φ (x + 146) = some (ai_ G 9 (fun _ => 0))) (h147 : Φ (x + 147) = some (o_ 12 [.ref (x + 148), .int 0, .int 0, .int 0])) (h148 : Φ (x + 148) = some (ai_ G 9 (fun _ => 0))) : In G x 0 Φ := by
  have b0 : ∀ k, k < 0 → Ok G x 0 k (Φ (x + k)) := fun k hk => absurd hk (Nat.not_lt_zero k)
  have b1 := stp b0 (ok0 (k := 0) rfl h0)
  have b2 := stp b1 (ok1 (k := 1) rfl ⟨0, h1, by decide⟩)
  have b3 := stp b2 (ok2 (k := 2) rfl ⟨_, h2, fun j => by decide⟩)
  have b4 := stp b3 (ok3 (k := 3) rfl ⟨_, _, h3⟩)
  have b5 := stp b4 (ok4 (k := 4) rfl ⟨_, h4, usT_nn⟩)
  have b6 := stp b5 (ok5 (k := 5) rfl ⟨_, h5⟩)
  have b7 := stp b6 (ok6 (k := 6) rfl ⟨_, h6, (fun j hj => by
    rcases (show j = 0 ∨ j = 1 ∨ j = 2 ∨ j = 3 by omega) with rfl | rfl | rfl | rfl <;> rfl)⟩)
  have b8 := stp b7 (ok7 (k := 7) rfl ⟨_, h7, (fun j hj => by
    rcases (show j = 0 ∨ j = 1 ∨ j = 2 ∨ j = 3 by omega) with rfl | rfl | rfl | rfl <;> rfl)⟩)
  have b9 := stp b8 (ok8 (k := 8) rfl ⟨9, _, _, h8, by decide⟩)
  have b10 := stp b9 (ok9 (k := 9) rfl ⟨_, h9⟩)
  have b11 := stp b10 (ok8 (k := 10) rfl ⟨9, _, _, h10, by decide⟩)
  have b12 := stp b11 (ok9 (k := 11) rfl ⟨_, h11⟩)
  have b13 := stp b12 (ok8 (k := 12) rfl ⟨0, _, _, h12, by decide⟩)
  have b14 := stp b13 (ok9 (k := 13) rfl ⟨_, h13⟩)
  have b15 := stp b14 (ok8 (k := 14) rfl ⟨0, _, _, h14, by decide⟩)
  have b16 := stp b15 (ok9 (k := 15) rfl ⟨_, h15⟩)
  have b17 := stp b16 (ok8 (k := 16) rfl ⟨0, _, _, h16, by decide⟩)
  have b18 := stp b17 (ok9 (k := 17) rfl ⟨_, h17⟩)
  have b19 := stp b18 (ok8 (k := 18) rfl ⟨0, _, _, h18, by decide⟩)
  have b20 := stp b19 (ok9 (k := 19) rfl ⟨_, h19⟩)
  have b21 := stp b20 (ok8 (k := 20) rfl ⟨0, _, _, h20, by decide⟩)
  have b22 := stp b21 (ok9 (k := 21) rfl ⟨_, h21⟩)
  have b23 := stp b22 (ok8 (k := 22) rfl ⟨0, _, _, h22, by decide⟩)
  have b24 := stp b23 (ok9 (k := 23) rfl ⟨_, h23⟩)
  have b25 := stp b24 (ok10 (k := 24) rfl ⟨_, _, _, _, _, _, h24⟩)
  have b26 := stp b25 (ok3 (k := 25) rfl ⟨_, _, h25⟩)
  have b27 := stp b26 (ok4 (k := 26) rfl ⟨_, h26, usT_nn⟩)
  have b28 := stp b27 (ok5 (k := 27) rfl ⟨_, h27⟩)
  have b29 := stp b28 (ok6 (k := 28) rfl ⟨_, h28, (fun j hj => by
    rcases (show j = 0 ∨ j = 1 ∨ j = 2 ∨ j = 3 by omega) with rfl | rfl | rfl | rfl <;> rfl)⟩)
  have b30 := stp b29 (ok7 (k := 29) rfl ⟨_, h29, (fun j hj => by
    rcases (show j = 0 ∨ j = 1 ∨ j = 2 ∨ j = 3 by omega) with rfl | rfl | rfl | rfl <;> rfl)⟩)
  have b31 := stp b30 (ok8 (k := 30) rfl ⟨9, _, _, h30, by decide⟩)
  have b32 := stp b31 (ok9 (k := 31) rfl ⟨_, h31⟩)
  have b33 := stp b32 (ok8 (k := 32) rfl ⟨0, _, _, h32, by decide⟩)
  have b34 := stp b33 (ok9 (k := 33) rfl ⟨_, h33⟩)
  have b35 := stp b34 (ok8 (k := 34) rfl ⟨0, _, _, h34, by decide⟩)
  have b36 := stp b35 (ok9 (k := 35) rfl ⟨_, h35⟩)
  have b37 := stp b36 (ok8 (k := 36) rfl ⟨0, _, _, h36, by decide⟩)
  have b38 := stp b37 (ok9 (k := 37) rfl ⟨_, h37⟩)
  have b39 := stp b38 (ok8 (k := 38) rfl ⟨0, _, _, h38, by decide⟩)
  have b40 := stp b39 (ok9 (k := 39) rfl ⟨_, h39⟩)
  have b41 := stp b40 (ok8 (k := 40) rfl ⟨0, _, _, h40, by decide⟩)
  have b42 := stp b41 (ok9 (k := 41) rfl ⟨_, h41⟩)
  have b43 := stp b42 (ok8 (k := 42) rfl ⟨0, _, _, h42, by decide⟩)
  have b44 := stp b43 (ok9 (k := 43) rfl ⟨_, h43⟩)
  have b45 := stp b44 (ok8 (k := 44) rfl ⟨0, _, _, h44, by decide⟩)
  have b46 := stp b45 (ok9 (k := 45) rfl ⟨_, h45⟩)
  have b47 := stp b46 (ok11 (k := 46) rfl ⟨0, _, h46, by decide⟩)
  have b48 := stp b47 (ok12 (k := 47) rfl ⟨_, h47, (fun j hj => by
    rcases (show j = 0 ∨ j = 1 ∨ j = 2 ∨ j = 3 ∨ j = 4 ∨ j = 5 ∨ j = 6 ∨ j = 7 ∨ j = 8 ∨ j = 9 ∨ j = 10 ∨ j = 11 ∨ j = 12 by omega) with rfl | rfl | rfl | rfl | rfl | rfl | rfl | rfl | rfl | rfl | rfl | rfl | rfl <;> exact ⟨_, hj, rfl⟩)⟩)
  have b49 := stp b48 (ok1 (k := 48) rfl ⟨0, h48, by decide⟩)
  have b50 := stp b49 (ok2 (k := 49) rfl ⟨_, h49, fun j => by decide⟩)
  have b51 := stp b50 (ok1 (k := 50) rfl ⟨0, h50, by decide⟩)
  have b52 := stp b51 (ok2 (k := 51) rfl ⟨_, h51, fun j => by decide⟩)
  have b53 := stp b52 (ok1 (k := 52) rfl ⟨0, h52, by decide⟩)
  have b54 := stp b53 (ok2 (k := 53) rfl ⟨_, h53, fun j => by decide⟩)
  have b55 := stp b54 (ok1 (k := 54) rfl ⟨0, h54, by decide⟩)
  have b56 := stp b55 (ok2 (k := 55) rfl ⟨_, h55, fun j => by decide⟩)
  have b57 := stp b56 (ok1 (k := 56) rfl ⟨0, h56, by decide⟩)
  have b58 := stp b57 (ok2 (k := 57) rfl ⟨_, h57, fun j => by decide⟩)
  have b59 := stp b58 (ok1 (k := 58) rfl ⟨0, h58, by decide⟩)
  have b60 := stp b59 (ok2 (k := 59) rfl ⟨_, h59, fun j => by decide⟩)
  have b61 := stp b60 (ok1 (k := 60) rfl ⟨0, h60, by decide⟩)
  have b62 := stp b61 (ok2 (k := 61) rfl ⟨_, h61, fun j => by decide⟩)
  have b63 := stp b62 (ok1 (k := 62) rfl ⟨0, h62, by decide⟩)
  have b64 := stp b63 (ok2 (k := 63) rfl ⟨_, h63, fun j => by decide⟩)
  have b65 := stp b64 (ok1 (k := 64) rfl ⟨0, h64, by decide⟩)
  have b66 := stp b65 (ok2 (k := 65) rfl ⟨_, h65, fun j => by decide⟩)
  have b67 := stp b66 (ok1 (k := 66) rfl ⟨0, h66, by decide⟩)
  have b68 := stp b67 (ok2 (k := 67) rfl ⟨_, h67, fun j => by decide⟩)
  have b69 := stp b68 (ok1 (k := 68) rfl ⟨0, h68, by decide⟩)
  have b70 := stp b69 (ok2 (k := 69) rfl ⟨_, h69, fun j => by decide⟩)
  have b71 := stp b70 (ok1 (k := 70) rfl ⟨0, h70, by decide⟩)
  have b72 := stp b71 (ok2 (k := 71) rfl ⟨_, h71, fun j => by decide⟩)
  have b73 := stp b72 (ok1 (k := 72) rfl ⟨0, h72, by decide⟩)
  have b74 := stp b73 (ok2 (k := 73) rfl ⟨_, h73, fun j => by decide⟩)
  have b75 := stp b74 (ok13 (k := 74) rfl ⟨0, _, _, _, h74, by decide⟩)
  have b76 := stp b75 (ok1 (k := 75) rfl ⟨0, h75, by decide⟩)
  have b77 := stp b76 (ok2 (k := 76) rfl ⟨_, h76, fun j => by decide⟩)
  have b78 := stp b77 (ok14 (k := 77) rfl ⟨_, h77⟩)
  have b79 := stp b78 (ok15 (k := 78) rfl ⟨_, h78⟩)
  have b80 := stp b79 (ok15 (k := 79) rfl ⟨_, h79⟩)
  have b81 := stp b80 (ok16 (k := 80) rfl ⟨_, _, _, _, _, _, _, _, _, h80, Or.inl rfl⟩)
  have b82 := stp b81 (ok17 (k := 81) rfl ⟨0, h81, Nat.zero_le _⟩)
  have b83 := stp b82 (ok18 (k := 82) rfl ⟨_, h82, (fun j hj => by
    replace hj : j < 12 := hj
    rcases (show j = 0 ∨ j = 1 ∨ j = 2 ∨ j = 3 ∨ j = 4 ∨ j = 5 ∨ j = 6 ∨ j = 7 ∨ j = 8 ∨ j = 9 ∨ j = 10 ∨ j = 11 by omega) with rfl | rfl | rfl | rfl | rfl | rfl | rfl | rfl | rfl | rfl | rfl | rfl <;> exact ⟨_, hj, rfl⟩)⟩)
  have b84 := stp b83 (ok19 (k := 83) rfl ⟨_, _, _, _, _, h83⟩)
  have b85 := stp b84 (ok19 (k := 84) rfl ⟨_, _, _, _, _, h84⟩)
  have b86 := stp b85 (ok19 (k := 85) rfl ⟨_, _, _, _, _, h85⟩)
  have b87 := stp b86 (ok19 (k := 86) rfl ⟨_, _, _, _, _, h86⟩)
  have b88 := stp b87 (ok19 (k := 87) rfl ⟨_, _, _, _, _, h87⟩)
  have b89 := stp b88 (ok19 (k := 88) rfl ⟨_, _, _, _, _, h88⟩)
  have b90 := stp b89 (ok19 (k := 89) rfl ⟨_, _, _, _, _, h89⟩)
  have b91 := stp b90 (ok19 (k := 90) rfl ⟨_, _, _, _, _, h90⟩)
  have b92 := stp b91 (ok19 (k := 91) rfl ⟨_, _, _, _, _, h91⟩)
  have b93 := stp b92 (ok19 (k := 92) rfl ⟨_, _, _, _, _, h92⟩)
  have b94 := stp b93 (ok19 (k := 93) rfl ⟨_, _, _, _, _, h93⟩)
  have b95 := stp b94 (ok19 (k := 94) rfl ⟨_, _, _, _, _, h94⟩)
  have b96 := stp b95 (ok17 (k := 95) rfl ⟨0, h95, Nat.zero_le _⟩)
  have b97 := stp b96 (ok18 (k := 96) rfl ⟨_, h96, (fun j hj => by
    replace hj : j < 24 := hj
    rcases (show j = 0 ∨ j = 1 ∨ j = 2 ∨ j = 3 ∨ j = 4 ∨ j = 5 ∨ j = 6 ∨ j = 7 ∨ j = 8 ∨ j = 9 ∨ j = 10 ∨ j = 11 ∨ j = 12 ∨ j = 13 ∨ j = 14 ∨ j = 15 ∨ j = 16 ∨ j = 17 ∨ j = 18 ∨ j = 19 ∨ j = 20 ∨ j = 21 ∨ j = 22 ∨ j = 23 by omega) with rfl | rfl | rfl | rfl | rfl | rfl | rfl | rfl | rfl | rfl | rfl | rfl | rfl | rfl | rfl | rfl | rfl | rfl | rfl | rfl | rfl | rfl | rfl | rfl <;> exact ⟨_, hj, rfl⟩)⟩)
  have b98 := stp b97 (ok19 (k := 97) rfl ⟨_, _, _, _, _, h97⟩)
  have b99 := stp b98 (ok19 (k := 98) rfl ⟨_, _, _, _, _, h98⟩)
  have b100 := stp b99 (ok19 (k := 99) rfl ⟨_, _, _, _, _, h99⟩)
  have b101 := stp b100 (ok19 (k := 100) rfl ⟨_, _, _, _, _, h100⟩)
  have b102 := stp b101 (ok19 (k := 101) rfl ⟨_, _, _, _, _, h101⟩)
  have b103 := stp b102 (ok19 (k := 102) rfl ⟨_, _, _, _, _, h102⟩)
  have b104 := stp b103 (ok19 (k := 103) rfl ⟨_, _, _, _, _, h103⟩)
  have b105 := stp b104 (ok19 (k := 104) rfl ⟨_, _, _, _, _, h104⟩)
  have b106 := stp b105 (ok19 (k := 105) rfl ⟨_, _, _, _, _, h105⟩)
  have b107 := stp b106 (ok19 (k := 106) rfl ⟨_, _, _, _, _, h106⟩)
  have b108 := stp b107 (ok19 (k := 107) rfl ⟨_, _, _, _, _, h107⟩)
  have b109 := stp b108 (ok19 (k := 108) rfl ⟨_, _, _, _, _, h108⟩)
  have b110 := stp b109 (ok19 (k := 109) rfl ⟨_, _, _, _, _, h109⟩)
  have b111 := stp b110 (ok19 (k := 110) rfl ⟨_, _, _, _, _, h110⟩)
  have b112 := stp b111 (ok19 (k := 111) rfl ⟨_, _, _, _, _, h111⟩)
  have b113 := stp b112 (ok19 (k := 112) rfl ⟨_, _, _, _, _, h112⟩)
  have b114 := stp b113 (ok19 (k := 113) rfl ⟨_, _, _, _, _, h113⟩)
  have b115 := stp b114 (ok19 (k := 114) rfl ⟨_, _, _, _, _, h114⟩)
  have b116 := stp b115 (ok19 (k := 115) rfl ⟨_, _, _, _, _, h115⟩)
  have b117 := stp b116 (ok19 (k := 116) rfl ⟨_, _, _, _, _, h116⟩)
  have b118 := stp b117 (ok19 (k := 117) rfl ⟨_, _, _, _, _, h117⟩)
  have b119 := stp b118 (ok19 (k := 118) rfl ⟨_, _, _, _, _, h118⟩)
  have b120 := stp b119 (ok19 (k := 119) rfl ⟨_, _, _, _, _, h119⟩)
  have b121 := stp b120 (ok19 (k := 120) rfl ⟨_, _, _, _, _, h120⟩)
  have b122 := stp b121 (ok20 (k := 121) rfl ⟨0, h121, by decide⟩)
  have b123 := stp b122 (ok21 (k := 122) rfl ⟨_, h122⟩)
  have b124 := stp b123 (ok22 (k := 123) rfl ⟨_, h123, (fun j hj => by
    rcases (show j = 0 ∨ j = 1 by omega) with rfl | rfl <;> rfl)⟩)
  have b125 := stp b124 (ok21 (k := 124) rfl ⟨_, h124⟩)
  have b126 := stp b125 (ok21 (k := 125) rfl ⟨_, h125⟩)
  have b127 := stp b126 (ok22 (k := 126) rfl ⟨_, h126, (fun j hj => by
    rcases (show j = 0 ∨ j = 1 by omega) with rfl | rfl <;> rfl)⟩)
  have b128 := stp b127 (ok21 (k := 127) rfl ⟨_, h127⟩)
  have b129 := stp b128 (ok21 (k := 128) rfl ⟨_, h128⟩)
  have b130 := stp b129 (ok23 (k := 129) rfl ⟨_, h129, (fun j hj => by
    rcases (show j = 0 ∨ j = 1 by omega) with rfl | rfl <;> rfl)⟩)
  have b131 := stp b130 (ok24 (k := 130) rfl ⟨_, h130, fun _ => pd_0⟩)
  have b132 := stp b131 (ok24 (k := 131) rfl ⟨_, h131, fun _ => pd_0⟩)
  have b133 := stp b132 (ok25 (k := 132) rfl ⟨0, _, _, h132, by decide⟩)
  have b134 := stp b133 (ok26 (k := 133) rfl ⟨_, h133, (fun j hj => by
    rcases (show j = 0 ∨ j = 1 ∨ j = 2 ∨ j = 3 by omega) with rfl | rfl | rfl | rfl <;> rfl)⟩)
  have b135 := stp b134 (ok15 (k := 134) rfl ⟨_, h134⟩)
  have b136 := stp b135 (ok8 (k := 135) rfl ⟨0, _, _, h135, by decide⟩)
  have b137 := stp b136 (ok9 (k := 136) rfl ⟨_, h136⟩)
  have b138 := stp b137 (ok27 (k := 137) rfl ⟨_, h137⟩)
  have b139 := stp b138 (ok27 (k := 138) rfl ⟨_, h138⟩)
  have b140 := stp b139 (ok28 (k := 139) rfl ⟨_, h139⟩)
  have b141 := stp b140 (ok29 (k := 140) rfl ⟨_, h140, by decide⟩)
  have b142 := stp b141 (ok8 (k := 141) rfl ⟨0, _, _, h141, by decide⟩)
  have b143 := stp b142 (ok9 (k := 142) rfl ⟨_, h142⟩)
  have b144 := stp b143 (ok8 (k := 143) rfl ⟨0, _, _, h143, by decide⟩)
  have b145 := stp b144 (ok9 (k := 144) rfl ⟨_, h144⟩)
  have b146 := stp b145 (ok8 (k := 145) rfl ⟨0, _, _, h145, by decide⟩)
  have b147 := stp b146 (ok9 (k := 146) rfl ⟨_, h146⟩)
  have b148 := stp b147 (ok8 (k := 147) rfl ⟨0, _, _, h147, by decide⟩)
  have b149 := stp b148 (ok9 (k := 148) rfl ⟨_, h148⟩)
  intro k
  by_cases hk : k < 149
  · exact b149 k hk
  · have hkd : kd k = 99 := by
      unfold kd
      rw [List.getD_eq_getElem?_getD, List.getElem?_eq_none (show kdL.length ≤ k from Nat.not_lt.mp hk)]
      rfl
    unfold Ok
    rw [hkd]
    trivial
noncomputable def nn0 : Nat → Int32 := fun j => ([1, 100, 1000, 100, 20, 1000, 5000, 512, 1, 511, 1, 9, 0, 0, 0, 0, 1, 2, 3, 4, 5, 6, 7, 8] : List Int32).getD j 0
theorem nn0_ge {j : Nat} (h : 24 ≤ j) : nn0 j = 0 := by
  unfold nn0
  rw [List.getD_eq_getElem?_getD, List.getElem?_eq_none (show ([1, 100, 1000, 100, 20, 1000, 5000, 512, 1, 511, 1, 9, 0, 0, 0, 0, 1, 2, 3, 4, 5, 6, 7, 8] : List Int32).length ≤ j from h)]
  rfl
theorem nn0_NN : NN nn0 := by
  refine ⟨fun j h1 h2 => ?_, fun j h1 h2 => ?_, fun j h1 h2 => ⟨0, by decide, nn0_ge (by omega)⟩, ⟨512, by decide, by decide, rfl⟩, ⟨1, by decide, rfl⟩, ⟨1, by decide, by decide, rfl⟩, ⟨1, by decide, rfl⟩, by decide +kernel, fun t n h1 h2 h3 => ?_⟩
  · have h : ∀ k, k < 4 → nn0 (11 + k) = nI (if k = 0 then 9 else 0) := by decide
    refine ⟨if j - 11 = 0 then 9 else 0, by split <;> omega, ?_⟩
    have h3 := h (j - 11) (by omega)
    rw [show 11 + (j - 11) = j by omega] at h3
    exact h3
  · have h : ∀ k, k < 36 → nn0 (15 + k) = nI (if k < 9 then k else 0) := by decide
    refine ⟨if j - 15 < 9 then j - 15 else 0, by split <;> omega, ?_⟩
    have h3 := h (j - 15) (by omega)
    rw [show 15 + (j - 15) = j by omega] at h3
    exact h3
  · have h : ∀ t, t < 4 → ∀ n, n < 4 → nn0 10 = nI n → n ≤ t → nn0 (11 + t) = 0 := by decide
    exact h t h1 n (by omega) h2 h3
theorem updn {f : Nat → Int32} {k j : Nat} {v : Int32} (h : k < 24) : upd f k v (j + 24) = f (j + 24) := by
  unfold upd
  rw [if_neg (by omega)]
theorem nn0_eq : (upd (upd (upd (upd (upd (upd (upd (upd (upd (upd (upd (upd (upd (upd (upd (upd (upd (upd (upd (upd (upd (fun _ => 0) (0 : Int32).toNatClampNeg 1) (1 : Int32).toNatClampNeg 100) (2 : Int32).toNatClampNeg 1000) (3 : Int32).toNatClampNeg 100) (4 : Int32).toNatClampNeg 20) (5 : Int32).toNatClampNeg 1000) (6 : Int32).toNatClampNeg 5000) (7 : Int32).toNatClampNeg 512) (8 : Int32).toNatClampNeg 1) (9 : Int32).toNatClampNeg 511) (10 : Int32).toNatClampNeg 1) (11 : Int32).toNatClampNeg 9) (15 : Int32).toNatClampNeg 0) (16 : Int32).toNatClampNeg 1) (17 : Int32).toNatClampNeg 2) (18 : Int32).toNatClampNeg 3) (19 : Int32).toNatClampNeg 4) (20 : Int32).toNatClampNeg 5) (21 : Int32).toNatClampNeg 6) (22 : Int32).toNatClampNeg 7) (23 : Int32).toNatClampNeg 8) = nn0 := by
  funext j
  match j with
  | 0 => rfl
  | 1 => rfl
  | 2 => rfl
  | 3 => rfl
  | 4 => rfl
  | 5 => rfl
  | 6 => rfl
  | 7 => rfl
  | 8 => rfl
  | 9 => rfl
  | 10 => rfl
  | 11 => rfl
  | 12 => rfl
  | 13 => rfl
  | 14 => rfl
  | 15 => rfl
  | 16 => rfl
  | 17 => rfl
  | 18 => rfl
  | 19 => rfl
  | 20 => rfl
  | 21 => rfl
  | 22 => rfl
  | 23 => rfl
  | j + 24 => exact ((updn (by decide)).trans ((updn (by decide)).trans ((updn (by decide)).trans ((updn (by decide)).trans ((updn (by decide)).trans ((updn (by decide)).trans ((updn (by decide)).trans ((updn (by decide)).trans ((updn (by decide)).trans ((updn (by decide)).trans ((updn (by decide)).trans ((updn (by decide)).trans ((updn (by decide)).trans ((updn (by decide)).trans ((updn (by decide)).trans ((updn (by decide)).trans ((updn (by decide)).trans ((updn (by decide)).trans ((updn (by decide)).trans ((updn (by decide)).trans ((updn (by decide)).trans (nn0_ge (Nat.le_add_left 24 j)).symm)))))))))))))))))))))
theorem nn0_up : NN (upd (upd (upd (upd (upd (upd (upd (upd (upd (upd (upd (upd (upd (upd (upd (upd (upd (upd (upd (upd (upd (fun _ => 0) (0 : Int32).toNatClampNeg 1) (1 : Int32).toNatClampNeg 100) (2 : Int32).toNatClampNeg 1000) (3 : Int32).toNatClampNeg 100) (4 : Int32).toNatClampNeg 20) (5 : Int32).toNatClampNeg 1000) (6 : Int32).toNatClampNeg 5000) (7 : Int32).toNatClampNeg 512) (8 : Int32).toNatClampNeg 1) (9 : Int32).toNatClampNeg 511) (10 : Int32).toNatClampNeg 1) (11 : Int32).toNatClampNeg 9) (15 : Int32).toNatClampNeg 0) (16 : Int32).toNatClampNeg 1) (17 : Int32).toNatClampNeg 2) (18 : Int32).toNatClampNeg 3) (19 : Int32).toNatClampNeg 4) (20 : Int32).toNatClampNeg 5) (21 : Int32).toNatClampNeg 6) (22 : Int32).toNatClampNeg 7) (23 : Int32).toNatClampNeg 8) := nn0_eq ▸ nn0_NN
theorem fin_cB : finC cB = usC cB := if_pos (by decide)
theorem nn0_q (j : Nat) : nn0 j = finC cB j := by
  rw [fin_cB]
  by_cases hj : j < 24
  · have h : ∀ k, k < 24 → nn0 k = usC cB k := by decide +kernel
    exact h j hj
  · have e : usC cB j = cB j := (if_neg (by omega)).trans ((if_neg (by omega)).trans (if_neg (by omega)))
    rw [e, cB_hi (by omega), nn0_ge (by omega)]
theorem nn0_nq : NNq (finC cB) nn0 := ⟨nn0_NN, fun j _ => nn0_q j⟩
theorem nn0_upq : NNq (finC cB) (upd (upd (upd (upd (upd (upd (upd (upd (upd (upd (upd (upd (upd (upd (upd (upd (upd (upd (upd (upd (upd (fun _ => 0) (0 : Int32).toNatClampNeg 1) (1 : Int32).toNatClampNeg 100) (2 : Int32).toNatClampNeg 1000) (3 : Int32).toNatClampNeg 100) (4 : Int32).toNatClampNeg 20) (5 : Int32).toNatClampNeg 1000) (6 : Int32).toNatClampNeg 5000) (7 : Int32).toNatClampNeg 512) (8 : Int32).toNatClampNeg 1) (9 : Int32).toNatClampNeg 511) (10 : Int32).toNatClampNeg 1) (11 : Int32).toNatClampNeg 9) (15 : Int32).toNatClampNeg 0) (16 : Int32).toNatClampNeg 1) (17 : Int32).toNatClampNeg 2) (18 : Int32).toNatClampNeg 3) (19 : Int32).toNatClampNeg 4) (20 : Int32).toNatClampNeg 5) (21 : Int32).toNatClampNeg 6) (22 : Int32).toNatClampNeg 7) (23 : Int32).toNatClampNeg 8) := nn0_eq ▸ nn0_nq
set_option maxHeartbeats 4000000 in
set_option maxRecDepth 100000 in
theorem im_fresh {G : EnvG} {y : Nat} {Φ : Hm} (h0 : Φ y = some (o_ 14 [.int 0, .ref (y + 1), .ref (y + 2), .int 0, .int 1, .int 1, .int 0, .int 0, .ref (y + 3), .ref (y + 4), .int 0, .long 0, .ref (y + 5), .int 0, .int 0, .long 0, .long 0, .long 0, .long 0, .ref (y + 6), .ref (y + 7), .int 0, .ref (y + 8), .int 0, .ref (y + 9), .ref (y + 10), .int 0, .ref (y + 11), .ref (y + 12), .ref (y + 13), .ref (y + 14), .ref (y + 15), .ref (y + 16), .int 0, .long (-1), .ref (y + 17), .ref (y + 18), .ref (y + 19), .ref (y + 20), .ref (y + 21), .ref (y + 22), .int 0, .ref (y + 23), .ref (y + 24), .int 0, .ref (y + 25), .int 0, .int 0, .int 0, .int (-1), .int 0, .int 0, .int 0, .long 0])) (h1 : Φ (y + 1) = some (ai_ G 307 (upd (upd (upd (upd (upd (upd (upd (upd (upd (upd (upd (upd (upd (upd (upd (upd (upd (upd (upd (upd (upd (fun _ => 0) (0 : Int32).toNatClampNeg 1) (1 : Int32).toNatClampNeg 100) (2 : Int32).toNatClampNeg 1000) (3 : Int32).toNatClampNeg 100) (4 : Int32).toNatClampNeg 20) (5 : Int32).toNatClampNeg 1000) (6 : Int32).toNatClampNeg 5000) (7 : Int32).toNatClampNeg 512) (8 : Int32).toNatClampNeg 1) (9 : Int32).toNatClampNeg 511) (10 : Int32).toNatClampNeg 1) (11 : Int32).toNatClampNeg 9) (15 : Int32).toNatClampNeg 0) (16 : Int32).toNatClampNeg 1) (17 : Int32).toNatClampNeg 2) (18 : Int32).toNatClampNeg 3) (19 : Int32).toNatClampNeg 4) (20 : Int32).toNatClampNeg 5) (21 : Int32).toNatClampNeg 6) (22 : Int32).toNatClampNeg 7) (23 : Int32).toNatClampNeg 8))) (h2 : Φ (y + 2) = some (ai_ G 307 (upd (upd (upd (upd (upd (upd (upd (upd (upd (upd (upd (upd (upd (upd (upd (upd (upd (upd (upd (upd (upd (fun _ => 0) (0 : Int32).toNatClampNeg 1) (1 : Int32).toNatClampNeg 100) (2 : Int32).toNatClampNeg 1000) (3 : Int32).toNatClampNeg 100) (4 : Int32).toNatClampNeg 20) (5 : Int32).toNatClampNeg 1000) (6 : Int32).toNatClampNeg 5000) (7 : Int32).toNatClampNeg 512) (8 : Int32).toNatClampNeg 1) (9 : Int32).toNatClampNeg 511) (10 : Int32).toNatClampNeg 1) (11 : Int32).toNatClampNeg 9) (15 : Int32).toNatClampNeg 0) (16 : Int32).toNatClampNeg 1) (17 : Int32).toNatClampNeg 2) (18 : Int32).toNatClampNeg 3) (19 : Int32).toNatClampNeg 4) (20 : Int32).toNatClampNeg 5) (21 : Int32).toNatClampNeg 6) (22 : Int32).toNatClampNeg 7) (23 : Int32).toNatClampNeg 8))) (h3 : Φ (y + 3) = some (ai_ G 4 (upd (upd (upd (upd (fun _ => 0) (0 : Int32).toNatClampNeg (-1)) (1 : Int32).toNatClampNeg (-1)) (2 : Int32).toNatClampNeg (-1)) (3 : Int32).toNatClampNeg (-1)))) (h4 : Φ (y + 4) = some (ai_ G 4 (fun _ => 0))) (h5 : Φ (y + 5) = some (al_ G 96 (fun _ => 0))) (h6 : Φ (y + 6) = some (ai_ G 24 (fun _ => 0))) (h7 : Φ (y + 7) = some (ai_ G 720 (fun _ => 0))) (h8 : Φ (y + 8) = some (ai_ G 700 (fun _ => 0))) (h9 : Φ (y + 9) = some (ai_ G 7200 (fun _ => 0))) (h10 : Φ (y + 10) = some (ai_ G 12 (fun _ => 0))) (h11 : Φ (y + 11) = some (al_ G 9 (vp_updL (vp_updL (vp_updL (vp_updL (vp_updL (vp_updL (vp_updL (vp_updL (vp_updL (fun _ => 0) (0 : Int32).toNatClampNeg 0) (1 : Int32).toNatClampNeg 0) (2 : Int32).toNatClampNeg 0) (3 : Int32).toNatClampNeg 0) (4 : Int32).toNatClampNeg 0) (5 : Int32).toNatClampNeg 0) (6 : Int32).toNatClampNeg 0) (7 : Int32).toNatClampNeg 0) (8 : Int32).toNatClampNeg 0))) (h12 : Φ (y + 12) = some (ai_ G 4 (upd (upd (upd (upd (fun _ => 0) (0 : Int32).toNatClampNeg 0) (1 : Int32).toNatClampNeg 0) (2 : Int32).toNatClampNeg 0) (3 : Int32).toNatClampNeg 0))) (h13 : Φ (y + 13) = some (ai_ G 36 (fun _ => 0))) (h14 : Φ (y + 14) = some (ai_ G 4 (fun _ => 0))) (h15 : Φ (y + 15) = some (al_ G 8 (fun _ => 0))) (h16 : Φ (y + 16) = some (al_ G 8 (fun _ => 0))) (h17 : Φ (y + 17) = some (ai_ G 9 (fun _ => 0))) (h18 : Φ (y + 18) = some (al_ G 9 (fun _ => 0))) (h19 : Φ (y + 19) = some (ai_ G 96 (fun _ => 0))) (h20 : Φ (y + 20) = some (al_ G 48 (fun _ => 0))) (h21 : Φ (y + 21) = some (al_ G 48 (fun _ => 0))) (h22 : Φ (y + 22) = some (ad_ G 48 (fun _ => 0))) (h23 : Φ (y + 23) = some (ai_ G 96 (fun _ => 0))) (h24 : Φ (y + 24) = some (al_ G 48 (fun _ => 0))) (h25 : Φ (y + 25) = some (ab_ G 700 (fun _ => 0))) : Im G y (NN, (NNq (finC cB)), (CaQ 0 Fz), (TpQ 0 Fz), (TtQ 0 Fz), (SiQ (fun _ => 0)), (AtQ (fun _ => 0)), (PtQ 0 (fun _ => 0)), (QlQ 0 (fun _ => 0)), 0, 0, 0, 0, 0, 0, 0, 0, 0, 0, 0, -1, (nI 0), 0, 0, (nI 1), 1, 0, 0, 0, 0, 0, 0, 0, ((0 : Int32).toInt64 &&& 4294967295), 0) Φ := by
  rw [show (0 : Int32).toInt64 &&& 4294967295 = (0 : Int64) from by decide]
  refine ⟨⟨0, _, 0, h0, Or.inl rfl, by decide, by decide, by decide, by decide, by decide, by decide, by decide, by decide, by decide, by decide, by decide, by decide⟩, fun k u1 u2 => ?_⟩
  match k, u1, u2 with
  | 1, _, _ => exact ⟨_, h1, nn0_up⟩
  | 2, _, _ => exact ⟨_, h2, nn0_upq⟩
  | 3, _, _ => exact ⟨_, h3, (fun j hj => by
    rcases (show j = 0 ∨ j = 1 ∨ j = 2 ∨ j = 3 by omega) with rfl | rfl | rfl | rfl <;> decide)⟩
  | 4, _, _ => exact ⟨_, h4, (fun _ _ => rfl)⟩
  | 5, _, _ => exact ⟨_, h5, (fun j hj => ⟨0, by decide, rfl⟩), (show CaQ 0 Fz (fun _ => 0) from CaQ.z)⟩
  | 6, _, _ => exact ⟨_, h6, fun j => ⟨0, by decide, rfl⟩, PtQ.z⟩
  | 7, _, _ => exact ⟨_, h7⟩
  | 8, _, _ => exact ⟨_, h8, fun j => ⟨0, by decide, rfl⟩⟩
  | 9, _, _ => exact ⟨_, h9, fun j => ⟨0, by decide, rfl⟩⟩
  | 10, _, _ => exact ⟨_, h10, fun j => ⟨0, by decide, rfl⟩, QlQ.z⟩
  | 11, _, _ => exact ⟨_, h11⟩
  | 12, _, _ => exact ⟨_, h12, (upd_b (P := fun v => ∃ n : Nat, n ≤ 9 ∧ v = nI n) (upd_b (P := fun v => ∃ n : Nat, n ≤ 9 ∧ v = nI n) (upd_b (P := fun v => ∃ n : Nat, n ≤ 9 ∧ v = nI n) (upd_b (P := fun v => ∃ n : Nat, n ≤ 9 ∧ v = nI n) (fun j => ⟨0, by decide, rfl⟩) ⟨0, by decide, rfl⟩) ⟨0, by decide, rfl⟩) ⟨0, by decide, rfl⟩) ⟨0, by decide, rfl⟩)⟩
  | 13, _, _ => exact ⟨_, h13, fun j => ⟨0, by decide, rfl⟩⟩
  | 14, _, _ => exact ⟨_, h14⟩
  | 15, _, _ => exact ⟨_, h15⟩
  | 16, _, _ => exact ⟨_, h16⟩
  | 17, _, _ => exact ⟨_, h17, fun j => ⟨0, by decide, rfl⟩⟩
  | 18, _, _ => exact ⟨_, h18, by decide⟩
  | 19, _, _ => exact ⟨_, h19⟩
  | 20, _, _ => exact ⟨_, h20⟩
  | 21, _, _ => exact ⟨_, h21⟩
  | 22, _, _ => exact ⟨_, h22, fun j => pd_0⟩
  | 23, _, _ => exact ⟨_, h23, (show TpQ 0 Fz (fun _ => 0) from TpQ.z)⟩
  | 24, _, _ => exact ⟨_, h24, (show TtQ 0 Fz (fun _ => 0) from TtQ.z)⟩
  | 25, _, _ => exact ⟨_, h25, fun j => by decide⟩
  | k + 26, _, h => exact absurd h (by omega)
theorem us_all {f : Nat → Int32} (hf : ∀ j, j < 9 → f j = nI j) : ∀ m, m ≤ 9 → fS f 511 m = nI (2 ^ m - 1) ∧ fM f 511 m = m ∧ dF f m := by
  intro m
  induction m with
  | zero => intro _; exact ⟨rfl, rfl, dF_0 f⟩
  | succ m ih =>
    intro hm
    obtain ⟨h1, h2, h3⟩ := ih (by omega)
    have h5 : bitI (f m) 511 := bit_511 ⟨m, by omega, hf m (by omega)⟩
    obtain ⟨q1, q2⟩ := us_pw m (by omega)
    have q3 : ∀ k, k < 9 → (2 ^ k - 1) / 2 ^ k % 2 = 0 := by decide
    obtain ⟨q4, -⟩ := or_k (2 ^ m - 1) q1 m (by omega) (q3 m (by omega))
    refine ⟨?_, by rw [fM_y h5, h2], fun j hj => ?_⟩
    · rw [fS_y h5, h1, hf m (by omega), q4, q2]
    · by_cases e : j = m
      · subst e
        refine ⟨⟨j, by omega, hf j (by omega)⟩, ?_⟩
        rw [h1, hf j (by omega)]
        exact us_bit j (by omega)
      · exact h3 j (by omega)
set_option maxHeartbeats 4000000 in
set_option maxRecDepth 100000 in
theorem cfa_fresh {G : EnvG} {x : Nat} {Φ : Hm} (h3 : Φ (x + 3) = some (o_ 3 [.ref (x + 4), .ref (x + 5), .ref (x + 6), .ref (x + 7), .int 1, .int 511])) (h4 : Φ (x + 4) = some (ai_ G 9 usT)) (h5 : Φ (x + 5) = some (ai_ G 256 (fun _ => 0))) (h6 : Φ (x + 6) = some (aq_ G 4 4 (va_up (va_up (va_up (va_up (fun _ => none) (0 : Int32).toNatClampNeg (some (x + 8))) (1 : Int32).toNatClampNeg (some (x + 12))) (2 : Int32).toNatClampNeg (some (x + 16))) (3 : Int32).toNatClampNeg (some (x + 20))))) (h7 : Φ (x + 7) = some (aq_ G 4 4 (va_up (va_up (va_up (va_up (fun _ => none) (0 : Int32).toNatClampNeg (some (x + 10))) (1 : Int32).toNatClampNeg (some (x + 14))) (2 : Int32).toNatClampNeg (some (x + 18))) (3 : Int32).toNatClampNeg (some (x + 22))))) (h8 : Φ (x + 8) = some (o_ 12 [.ref (x + 9), .int 9, .int 511, .int 29])) (h9 : Φ (x + 9) = some (ai_ G 9 (upd (upd (upd (upd (upd (upd (upd (upd (upd (fun _ => 0) (0 : Int32).toNatClampNeg 0) (1 : Int32).toNatClampNeg 1) (2 : Int32).toNatClampNeg 2) (3 : Int32).toNatClampNeg 3) (4 : Int32).toNatClampNeg 4) (5 : Int32).toNatClampNeg 5) (6 : Int32).toNatClampNeg 6) (7 : Int32).toNatClampNeg 7) (8 : Int32).toNatClampNeg 8))) (h10 : Φ (x + 10) = some (o_ 12 [.ref (x + 11), .int 9, .int 511, .int 29])) (h11 : Φ (x + 11) = some (ai_ G 9 (upd (upd (upd (upd (upd (upd (upd (upd (upd (fun _ => 0) (0 : Int32).toNatClampNeg 0) (1 : Int32).toNatClampNeg 1) (2 : Int32).toNatClampNeg 2) (3 : Int32).toNatClampNeg 3) (4 : Int32).toNatClampNeg 4) (5 : Int32).toNatClampNeg 5) (6 : Int32).toNatClampNeg 6) (7 : Int32).toNatClampNeg 7) (8 : Int32).toNatClampNeg 8))) (h12 : Φ (x + 12) = some (o_ 12 [.ref (x + 13), .int 0, .int 0, .int 0])) (h13 : Φ (x + 13) = some (ai_ G 9 (fun _ => 0))) (h14 : Φ (x + 14) = some (o_ 12 [.ref (x + 15), .int 0, .int 0, .int 0])) (h15 : Φ (x + 15) = some (ai_ G 9 (fun _ => 0))) (h16 : Φ (x + 16) = some (o_ 12 [.ref (x + 17), .int 0, .int 0, .int 0])) (h17 : Φ (x + 17) = some (ai_ G 9 (fun _ => 0))) (h18 : Φ (x + 18) = some (o_ 12 [.ref (x + 19), .int 0, .int 0, .int 0])) (h19 : Φ (x + 19) = some (ai_ G 9 (fun _ => 0))) (h20 : Φ (x + 20) = some (o_ 12 [.ref (x + 21), .int 0, .int 0, .int 0])) (h21 : Φ (x + 21) = some (ai_ G 9 (fun _ => 0))) (h22 : Φ (x + 22) = some (o_ 12 [.ref (x + 23), .int 0, .int 0, .int 0])) (h23 : Φ (x + 23) = some (ai_ G 9 (fun _ => 0))) : CfA G x 1 511 (finC cB) Φ := by
  rw [fin_cB]
  have hF : ∀ j, j < 9 → (upd (upd (upd (upd (upd (upd (upd (upd (upd (fun _ => 0) (0 : Int32).toNatClampNeg 0) (1 : Int32).toNatClampNeg 1) (2 : Int32).toNatClampNeg 2) (3 : Int32).toNatClampNeg 3) (4 : Int32).toNatClampNeg 4) (5 : Int32).toNatClampNeg 5) (6 : Int32).toNatClampNeg 6) (7 : Int32).toNatClampNeg 7) (8 : Int32).toNatClampNeg 8) j = nI j := by decide
  obtain ⟨s1, s2, s3⟩ := us_all hF 9 (Nat.le_refl 9)
  have s4 : fB_ (upd (upd (upd (upd (upd (upd (upd (upd (upd (fun _ => 0) (0 : Int32).toNatClampNeg 0) (1 : Int32).toNatClampNeg 1) (2 : Int32).toNatClampNeg 2) (3 : Int32).toNatClampNeg 3) (4 : Int32).toNatClampNeg 4) (5 : Int32).toNatClampNeg 5) (6 : Int32).toNatClampNeg 6) (7 : Int32).toNatClampNeg 7) (8 : Int32).toNatClampNeg 8) 511 9 = 29 := (fB_len (b := 511) (by decide) 9 s3 511 (by decide) s1).trans (by decide)
  have hu : ∀ j, j < 9 → usC cB (15 + 9 * 0 + j) = nI j := by decide
  refine ⟨⟨rfl, by decide, h3, ⟨_, h4, by decide⟩, ⟨_, h5, fun j hj => ((if_neg (by omega)).trans ((if_neg (by omega)).trans ((if_neg (by omega)).trans (cB_hi (by omega))))).symm⟩, fun u hu4 _ => ?_, 511, by decide, rfl⟩, ⟨by decide, rfl⟩, fun u hu4 => ?_⟩
  · rcases (show u = 0 ∨ u = 1 ∨ u = 2 ∨ u = 3 by omega) with rfl | rfl | rfl | rfl
    · refine ⟨9, _, fun _ => ⟨by decide, rfl, fun j hj => (hF j hj).trans (hu j hj).symm⟩, fun q => absurd q (by decide), by decide, s3, ?_, h9⟩
      rw [s1, s4]
      exact h8
    · exact ⟨0, _, fun q => absurd q (by decide), fun _ => rfl, by decide, dF_0 _, h12, h13⟩
    · exact ⟨0, _, fun q => absurd q (by decide), fun _ => rfl, by decide, dF_0 _, h16, h17⟩
    · exact ⟨0, _, fun q => absurd q (by decide), fun _ => rfl, by decide, dF_0 _, h20, h21⟩
  · rcases (show u = 0 ∨ u = 1 ∨ u = 2 ∨ u = 3 by omega) with rfl | rfl | rfl | rfl
    · have s5 : ∀ i, i < 9 → fM (upd (upd (upd (upd (upd (upd (upd (upd (upd (fun _ => 0) (0 : Int32).toNatClampNeg 0) (1 : Int32).toNatClampNeg 1) (2 : Int32).toNatClampNeg 2) (3 : Int32).toNatClampNeg 3) (4 : Int32).toNatClampNeg 4) (5 : Int32).toNatClampNeg 5) (6 : Int32).toNatClampNeg 6) (7 : Int32).toNatClampNeg 7) (8 : Int32).toNatClampNeg 8) 511 i = i := fun i hi => (us_all hF i (by omega)).2.1
      refine ⟨9, _, _, fun _ => ⟨by decide, rfl, fun j hj => (hF j hj).trans (hu j hj).symm⟩, fun q => absurd q (by decide), by decide, s3, ?_, h11, fun i hi _ => congrArg _ (s5 i hi)⟩
      show Φ (x + 10) = some (o_ 12 [.ref (x + 11), .int (nI (fM (upd (upd (upd (upd (upd (upd (upd (upd (upd (fun _ => 0) (0 : Int32).toNatClampNeg 0) (1 : Int32).toNatClampNeg 1) (2 : Int32).toNatClampNeg 2) (3 : Int32).toNatClampNeg 3) (4 : Int32).toNatClampNeg 4) (5 : Int32).toNatClampNeg 5) (6 : Int32).toNatClampNeg 6) (7 : Int32).toNatClampNeg 7) (8 : Int32).toNatClampNeg 8) 511 9)), .int (fS (upd (upd (upd (upd (upd (upd (upd (upd (upd (fun _ => 0) (0 : Int32).toNatClampNeg 0) (1 : Int32).toNatClampNeg 1) (2 : Int32).toNatClampNeg 2) (3 : Int32).toNatClampNeg 3) (4 : Int32).toNatClampNeg 4) (5 : Int32).toNatClampNeg 5) (6 : Int32).toNatClampNeg 6) (7 : Int32).toNatClampNeg 7) (8 : Int32).toNatClampNeg 8) 511 9), .int (fB_ (upd (upd (upd (upd (upd (upd (upd (upd (upd (fun _ => 0) (0 : Int32).toNatClampNeg 0) (1 : Int32).toNatClampNeg 1) (2 : Int32).toNatClampNeg 2) (3 : Int32).toNatClampNeg 3) (4 : Int32).toNatClampNeg 4) (5 : Int32).toNatClampNeg 5) (6 : Int32).toNatClampNeg 6) (7 : Int32).toNatClampNeg 7) (8 : Int32).toNatClampNeg 8) 511 9)])
      rw [s1, s2, s4]
      exact h10
    · exact ⟨0, _, _, fun q => absurd q (by decide), fun _ => rfl, by decide, dF_0 (fun _ => 0), h14, h15, fun i hi _ => absurd hi (Nat.not_lt_zero i)⟩
    · exact ⟨0, _, _, fun q => absurd q (by decide), fun _ => rfl, by decide, dF_0 (fun _ => 0), h18, h19, fun i hi _ => absurd hi (Nat.not_lt_zero i)⟩
    · exact ⟨0, _, _, fun q => absurd q (by decide), fun _ => rfl, by decide, dF_0 (fun _ => 0), h22, h23, fun i hi _ => absurd hi (Nat.not_lt_zero i)⟩
set_option maxHeartbeats 4000000 in
set_option maxRecDepth 100000 in
theorem xc_fresh {G : EnvG} {x : Nat} {Φ : Hm} (h80 : Φ (x + 80) = some (o_ 4 [.ref (x + 3), .ref (x + 74), .ref (x + 81), .ref (x + 95), .int 0, .int 1, .int 1, .int 0, .int 0, .int 0, .long 0, .long 0, .long 0])) (h81 : Φ (x + 81) = some (o_ 6 [.ref (x + 82), .int 0])) (h82 : Φ (x + 82) = some (aq_ G 5 12 (va_up (va_up (va_up (va_up (va_up (va_up (va_up (va_up (va_up (va_up (va_up (va_up (fun _ => none) (0 : Int32).toNatClampNeg (some (x + 83))) (1 : Int32).toNatClampNeg (some (x + 84))) (2 : Int32).toNatClampNeg (some (x + 85))) (3 : Int32).toNatClampNeg (some (x + 86))) (4 : Int32).toNatClampNeg (some (x + 87))) (5 : Int32).toNatClampNeg (some (x + 88))) (6 : Int32).toNatClampNeg (some (x + 89))) (7 : Int32).toNatClampNeg (some (x + 90))) (8 : Int32).toNatClampNeg (some (x + 91))) (9 : Int32).toNatClampNeg (some (x + 92))) (10 : Int32).toNatClampNeg (some (x + 93))) (11 : Int32).toNatClampNeg (some (x + 94))))) (h83 : Φ (x + 83) = some (o_ 5 [.long 0, .long 0, .long 0, .int 0, .int 0])) (h84 : Φ (x + 84) = some (o_ 5 [.long 0, .long 0, .long 0, .int 0, .int 0])) (h85 : Φ (x + 85) = some (o_ 5 [.long 0, .long 0, .long 0, .int 0, .int 0])) (h86 : Φ (x + 86) = some (o_ 5 [.long 0, .long 0, .long 0, .int 0, .int 0])) (h87 : Φ (x + 87) = some (o_ 5 [.long 0, .long 0, .long 0, .int 0, .int 0])) (h88 : Φ (x + 88) = some (o_ 5 [.long 0, .long 0, .long 0, .int 0, .int 0])) (h89 : Φ (x + 89) = some (o_ 5 [.long 0, .long 0, .long 0, .int 0, .int 0])) (h90 : Φ (x + 90) = some (o_ 5 [.long 0, .long 0, .long 0, .int 0, .int 0])) (h91 : Φ (x + 91) = some (o_ 5 [.long 0, .long 0, .long 0, .int 0, .int 0])) (h92 : Φ (x + 92) = some (o_ 5 [.long 0, .long 0, .long 0, .int 0, .int 0])) (h93 : Φ (x + 93) = some (o_ 5 [.long 0, .long 0, .long 0, .int 0, .int 0])) (h94 : Φ (x + 94) = some (o_ 5 [.long 0, .long 0, .long 0, .int 0, .int 0])) (h95 : Φ (x + 95) = some (o_ 6 [.ref (x + 96), .int 0])) (h96 : Φ (x + 96) = some (aq_ G 5 24 (va_up (va_up (va_up (va_up (va_up (va_up (va_up (va_up (va_up (va_up (va_up (va_up (va_up (va_up (va_up (va_up (va_up (va_up (va_up (va_up (va_up (va_up (va_up (va_up (fun _ => none) (0 : Int32).toNatClampNeg (some (x + 97))) (1 : Int32).toNatClampNeg (some (x + 98))) (2 : Int32).toNatClampNeg (some (x + 99))) (3 : Int32).toNatClampNeg (some (x + 100))) (4 : Int32).toNatClampNeg (some (x + 101))) (5 : Int32).toNatClampNeg (some (x + 102))) (6 : Int32).toNatClampNeg (some (x + 103))) (7 : Int32).toNatClampNeg (some (x + 104))) (8 : Int32).toNatClampNeg (some (x + 105))) (9 : Int32).toNatClampNeg (some (x + 106))) (10 : Int32).toNatClampNeg (some (x + 107))) (11 : Int32).toNatClampNeg (some (x + 108))) (12 : Int32).toNatClampNeg (some (x + 109))) (13 : Int32).toNatClampNeg (some (x + 110))) (14 : Int32).toNatClampNeg (some (x + 111))) (15 : Int32).toNatClampNeg (some (x + 112))) (16 : Int32).toNatClampNeg (some (x + 113))) (17 : Int32).toNatClampNeg (some (x + 114))) (18 : Int32).toNatClampNeg (some (x + 115))) (19 : Int32).toNatClampNeg (some (x + 116))) (20 : Int32).toNatClampNeg (some (x + 117))) (21 : Int32).toNatClampNeg (some (x + 118))) (22 : Int32).toNatClampNeg (some (x + 119))) (23 : Int32).toNatClampNeg (some (x + 120))))) (h97 : Φ (x + 97) = some (o_ 5 [.long 0, .long 0, .long 0, .int 0, .int 0])) (h98 : Φ (x + 98) = some (o_ 5 [.long 0, .long 0, .long 0, .int 0, .int 0])) (h99 : Φ (x + 99) = some (o_ 5 [.long 0, .long 0, .long 0, .int 0, .int 0])) (h100 : Φ (x + 100) = some (o_ 5 [.long 0, .long 0, .long 0, .int 0, .int 0])) (h101 : Φ (x + 101) = some (o_ 5 [.long 0, .long 0, .long 0, .int 0, .int 0])) (h102 : Φ (x + 102) = some (o_ 5 [.long 0, .long 0, .long 0, .int 0, .int 0])) (h103 : Φ (x + 103) = some (o_ 5 [.long 0, .long 0, .long 0, .int 0, .int 0])) (h104 : Φ (x + 104) = some (o_ 5 [.long 0, .long 0, .long 0, .int 0, .int 0])) (h105 : Φ (x + 105) = some (o_ 5 [.long 0, .long 0, .long 0, .int 0, .int 0])) (h106 : Φ (x + 106) = some (o_ 5 [.long 0, .long 0, .long 0, .int 0, .int 0])) (h107 : Φ (x + 107) = some (o_ 5 [.long 0, .long 0, .long 0, .int 0, .int 0])) (h108 : Φ (x + 108) = some (o_ 5 [.long 0, .long 0, .long 0, .int 0, .int 0])) (h109 : Φ (x + 109) = some (o_ 5 [.long 0, .long 0, .long 0, .int 0, .int 0])) (h110 : Φ (x + 110) = some (o_ 5 [.long 0, .long 0, .long 0, .int 0, .int 0])) (h111 : Φ (x + 111) = some (o_ 5 [.long 0, .long 0, .long 0, .int 0, .int 0])) (h112 : Φ (x + 112) = some (o_ 5 [.long 0, .long 0, .long 0, .int 0, .int 0])) (h113 : Φ (x + 113) = some (o_ 5 [.long 0, .long 0, .long 0, .int 0, .int 0])) (h114 : Φ (x + 114) = some (o_ 5 [.long 0, .long 0, .long 0, .int 0, .int 0])) (h115 : Φ (x + 115) = some (o_ 5 [.long 0, .long 0, .long 0, .int 0, .int 0])) (h116 : Φ (x + 116) = some (o_ 5 [.long 0, .long 0, .long 0, .int 0, .int 0])) (h117 : Φ (x + 117) = some (o_ 5 [.long 0, .long 0, .long 0, .int 0, .int 0])) (h118 : Φ (x + 118) = some (o_ 5 [.long 0, .long 0, .long 0, .int 0, .int 0])) (h119 : Φ (x + 119) = some (o_ 5 [.long 0, .long 0, .long 0, .int 0, .int 0])) (h120 : Φ (x + 120) = some (o_ 5 [.long 0, .long 0, .long 0, .int 0, .int 0])) : XC G x (0, 1, 1, 0, 0, 0, 0, 0, (0, Fz), (0, Fz)) Φ := by
  exact ⟨0, 0, fun j => j, fun j => j, rfl, h80, h81, h95, ⟨⟨_, h82, (fun j hj => by
    rcases (show j = 0 ∨ j = 1 ∨ j = 2 ∨ j = 3 ∨ j = 4 ∨ j = 5 ∨ j = 6 ∨ j = 7 ∨ j = 8 ∨ j = 9 ∨ j = 10 ∨ j = 11 by omega) with rfl | rfl | rfl | rfl | rfl | rfl | rfl | rfl | rfl | rfl | rfl | rfl <;> rfl)⟩, fun _ hj => hj, fun _ _ _ _ q => q, Nat.zero_le _, fun j hj => absurd hj (Nat.not_lt_zero j)⟩, ⟨⟨_, h96, (fun j hj => by
    rcases (show j = 0 ∨ j = 1 ∨ j = 2 ∨ j = 3 ∨ j = 4 ∨ j = 5 ∨ j = 6 ∨ j = 7 ∨ j = 8 ∨ j = 9 ∨ j = 10 ∨ j = 11 ∨ j = 12 ∨ j = 13 ∨ j = 14 ∨ j = 15 ∨ j = 16 ∨ j = 17 ∨ j = 18 ∨ j = 19 ∨ j = 20 ∨ j = 21 ∨ j = 22 ∨ j = 23 by omega) with rfl | rfl | rfl | rfl | rfl | rfl | rfl | rfl | rfl | rfl | rfl | rfl | rfl | rfl | rfl | rfl | rfl | rfl | rfl | rfl | rfl | rfl | rfl | rfl <;> rfl)⟩, fun _ hj => hj, fun _ _ _ _ q => q, Nat.zero_le _, fun j hj => absurd hj (Nat.not_lt_zero j)⟩, by decide, by decide, by decide, by decide⟩
set_option maxHeartbeats 4000000 in
set_option maxRecDepth 100000 in
theorem sq_fresh {G : EnvG} {x : Nat} {Φ : Hm} (h46 : Φ (x + 46) = some (o_ 9 [.ref (x + 47), .int 0, .int 0])) (h47 : Φ (x + 47) = some (aq_ G 6 13 (va_up (va_up (va_up (va_up (va_up (va_up (va_up (va_up (va_up (va_up (va_up (va_up (va_up (fun _ => none) (0 : Int32).toNatClampNeg (some (x + 48))) (1 : Int32).toNatClampNeg (some (x + 50))) (2 : Int32).toNatClampNeg (some (x + 52))) (3 : Int32).toNatClampNeg (some (x + 54))) (4 : Int32).toNatClampNeg (some (x + 56))) (5 : Int32).toNatClampNeg (some (x + 58))) (6 : Int32).toNatClampNeg (some (x + 60))) (7 : Int32).toNatClampNeg (some (x + 62))) (8 : Int32).toNatClampNeg (some (x + 64))) (9 : Int32).toNatClampNeg (some (x + 66))) (10 : Int32).toNatClampNeg (some (x + 68))) (11 : Int32).toNatClampNeg (some (x + 70))) (12 : Int32).toNatClampNeg (some (x + 72))))) (h48 : Φ (x + 48) = some (o_ 7 [.ref (x + 49), .int 0])) (h49 : Φ (x + 49) = some (ab_ G 600 (fun _ => 0))) (h50 : Φ (x + 50) = some (o_ 7 [.ref (x + 51), .int 0])) (h51 : Φ (x + 51) = some (ab_ G 600 (fun _ => 0))) (h52 : Φ (x + 52) = some (o_ 7 [.ref (x + 53), .int 0])) (h53 : Φ (x + 53) = some (ab_ G 600 (fun _ => 0))) (h54 : Φ (x + 54) = some (o_ 7 [.ref (x + 55), .int 0])) (h55 : Φ (x + 55) = some (ab_ G 600 (fun _ => 0))) (h56 : Φ (x + 56) = some (o_ 7 [.ref (x + 57), .int 0])) (h57 : Φ (x + 57) = some (ab_ G 600 (fun _ => 0))) (h58 : Φ (x + 58) = some (o_ 7 [.ref (x + 59), .int 0])) (h59 : Φ (x + 59) = some (ab_ G 600 (fun _ => 0))) (h60 : Φ (x + 60) = some (o_ 7 [.ref (x + 61), .int 0])) (h61 : Φ (x + 61) = some (ab_ G 600 (fun _ => 0))) (h62 : Φ (x + 62) = some (o_ 7 [.ref (x + 63), .int 0])) (h63 : Φ (x + 63) = some (ab_ G 600 (fun _ => 0))) (h64 : Φ (x + 64) = some (o_ 7 [.ref (x + 65), .int 0])) (h65 : Φ (x + 65) = some (ab_ G 600 (fun _ => 0))) (h66 : Φ (x + 66) = some (o_ 7 [.ref (x + 67), .int 0])) (h67 : Φ (x + 67) = some (ab_ G 600 (fun _ => 0))) (h68 : Φ (x + 68) = some (o_ 7 [.ref (x + 69), .int 0])) (h69 : Φ (x + 69) = some (ab_ G 600 (fun _ => 0))) (h70 : Φ (x + 70) = some (o_ 7 [.ref (x + 71), .int 0])) (h71 : Φ (x + 71) = some (ab_ G 600 (fun _ => 0))) (h72 : Φ (x + 72) = some (o_ 7 [.ref (x + 73), .int 0])) (h73 : Φ (x + 73) = some (ab_ G 600 (fun _ => 0))) (h74 : Φ (x + 74) = some (o_ 10 [.ref (x + 3), .ref (x + 46), .ref (x + 75), .ref (x + 77), .int 0, .ref (x + 78), .ref (x + 79), .int 0, .long 0, .int 0])) (h75 : Φ (x + 75) = some (o_ 7 [.ref (x + 76), .int 0])) (h76 : Φ (x + 76) = some (ab_ G 348 (fun _ => 0))) (h77 : Φ (x + 77) = some (ai_ G 12 (fun _ => 0))) (h78 : Φ (x + 78) = some (ai_ G 4 (fun _ => 0))) (h79 : Φ (x + 79) = some (ai_ G 4 (fun _ => 0))) : SQ G x (finC cB) (fun _ => 0, fun _ => 0, 0, 0, 0) (0, fun _ => 0, 0) Φ := by
  exact ⟨⟨_, h74, h75, h77, fun j hj => absurd hj (Nat.not_lt_zero j), Nat.zero_le _, h78, h79⟩, fun j => j, h46, ⟨_, h47, (fun j hj => by
    rcases (show j = 0 ∨ j = 1 ∨ j = 2 ∨ j = 3 ∨ j = 4 ∨ j = 5 ∨ j = 6 ∨ j = 7 ∨ j = 8 ∨ j = 9 ∨ j = 10 ∨ j = 11 ∨ j = 12 by omega) with rfl | rfl | rfl | rfl | rfl | rfl | rfl | rfl | rfl | rfl | rfl | rfl | rfl <;> rfl)⟩, fun _ hj => hj, fun _ _ _ _ q => q, Nat.zero_le _, fun j hj => absurd hj (Nat.not_lt_zero j)⟩
