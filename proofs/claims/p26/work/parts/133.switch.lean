set_option maxHeartbeats 4000000 in
set_option maxRecDepth 100000 in
theorem law_sw {p9 : Program} {e9 : Env} {s9 : State} {m9 : MethodId} {a9 : Array Value} {w9 : List Frame} {t9 : Method} {k9 : Code} {Q9 : State → Prop} {nm9 : String} (G : EnvG) (l : Launch) (hl9 : l.stackTraces = false) {d0 : Drawn} (hd0 : s9.drawn.sameBut d0 lw_cs) (B : Bd p9 (s9.setDrawn d0) m9 a9 t9 k9 G code 9 RL wsL_law ret nm9) (Φ : Hm) (sz b L i : Nat) (xs : Nat → Int32) (hX : va_X b L xs (s9.setDrawn d0) (s9.setDrawn d0).heap) (hbn : b < G.2.2.2) (hL : L ≤ 3584) (hi : i + 7 ≤ L) (x y o d ca cells slots : Nat) (hna : G.2.2.2 ≤ x) (hD : Ds x y o d) (hca : ca ≤ 10000) (hcl : cells ≤ 8000) (hsl : slots ≤ 80000) (hJ : JJ G x y o d ca Φ) (hT : ∀ (d1 : Drawn), s9.drawn.sameBut d1 lw_cs → ∀ (Φ1 : Hm) (sz1 : Nat), JJ G x y o d (ca + 12) Φ1 → Z p9 l e9 room_1 (s9.setDrawn d1) m9 a9 w9 t9 k9 Q9 G 9 2001 [(5, .int (nI i)), (4, .ref d), (3, .ref o), (2, .ref y), (1, .ref x), (0, .ref b)] [] Φ1 sz1 (cells + 2) (slots + 12)) (a : Int32) : Z p9 l e9 room_1 (s9.setDrawn d0) m9 a9 w9 t9 k9 Q9 G 9 45 [(5, .int (nI i)), (4, .ref d), (3, .ref o), (2, .ref y), (1, .ref x), (0, .ref b)] [.int (a &&& 63)] Φ sz cells slots := by
  obtain ⟨k, hk, he⟩ := sw_get a
  rw [he]
  rcases (show k = 0 ∨ k = 1 ∨ k = 2 ∨ k = 3 ∨ k = 4 ∨ k = 5 ∨ k = 6 ∨ k = 7 ∨ k = 8 ∨ k = 9 ∨ k = 10 ∨ k = 11 ∨ k = 12 ∨ k = 13 ∨ k = 14 ∨ k = 15 ∨ k = 16 ∨ k = 17 ∨ k = 18 ∨ k = 19 ∨ k = 20 ∨ k = 21 ∨ k = 22 ∨ k = 23 ∨ k = 24 ∨ k = 25 ∨ k = 26 ∨ k = 27 ∨ k = 28 ∨ k = 29 ∨ k = 30 ∨ k = 31 ∨ k = 32 ∨ k = 33 ∨ k = 34 ∨ k = 35 ∨ k = 36 ∨ k = 37 ∨ k = 38 ∨ k = 39 ∨ k = 40 ∨ k = 41 ∨ k = 42 ∨ k = 43 ∨ k = 44 ∨ k = 45 ∨ k = 46 ∨ k = 47 ∨ k = 48 ∨ k = 49 ∨ k = 50 ∨ k = 51 ∨ k = 52 ∨ k = 53 ∨ k = 54 ∨ k = 55 ∨ k = 56 ∨ k = 57 ∨ k = 58 ∨ k = 59 ∨ k = 60 ∨ k = 61 ∨ k = 62 ∨ k = 63 by omega) with rfl | rfl | rfl | rfl | rfl | rfl | rfl | rfl | rfl | rfl | rfl | rfl | rfl | rfl | rfl | rfl | rfl | rfl | rfl | rfl | rfl | rfl | rfl | rfl | rfl | rfl | rfl | rfl | rfl | rfl | rfl | rfl | rfl | rfl | rfl | rfl | rfl | rfl | rfl | rfl | rfl | rfl | rfl | rfl | rfl | rfl | rfl | rfl | rfl | rfl | rfl | rfl | rfl | rfl | rfl | rfl | rfl | rfl | rfl | rfl | rfl | rfl | rfl | rfl
  · refine z_tableIn (off := 251) (tgt := 296) B dL_law_45 (by decide) (by decide) (by decide) rfl ?_
    exact lc_0 G l hl9 hd0 B Φ sz b L i xs hX hbn hL hi x y o d ca cells slots hna hD hca hcl hsl hJ hT
  · refine z_tableIn (off := 324) (tgt := 369) B dL_law_45 (by decide) (by decide) (by decide) rfl ?_
    exact lc_1 G l hl9 hd0 B Φ sz b L i xs hX hbn hL hi x y o d ca cells slots hna hD hca hcl hsl hJ hT
  · refine z_tableIn (off := 349) (tgt := 394) B dL_law_45 (by decide) (by decide) (by decide) rfl ?_
    exact lc_2 G l hl9 hd0 B Φ sz b L i xs hX hbn hL hi x y o d ca cells slots hna hD hca hcl hsl hJ hT
  · refine z_tableIn (off := 362) (tgt := 407) B dL_law_45 (by decide) (by decide) (by decide) rfl ?_
    exact lc_3 G l hl9 hd0 B Φ sz b L i xs hX hbn hL hi x y o d ca cells slots hna hD hca hcl hsl hJ hT
  · refine z_tableIn (off := 375) (tgt := 420) B dL_law_45 (by decide) (by decide) (by decide) rfl ?_
    exact lc_4 G l hl9 hd0 B Φ sz b L i xs hX hbn hL hi x y o d ca cells slots hna hD hca hcl hsl hJ hT
  · refine z_tableIn (off := 388) (tgt := 433) B dL_law_45 (by decide) (by decide) (by decide) rfl ?_
    exact lc_5 G l hl9 hd0 B Φ sz b L i xs hX hbn hL hi x y o d ca cells slots hna hD hca hcl hsl hJ hT
  · refine z_tableIn (off := 401) (tgt := 446) B dL_law_45 (by decide) (by decide) (by decide) rfl ?_
    exact lc_6 G l hl9 hd0 B Φ sz b L i xs hX hbn hL hi x y o d ca cells slots hna hD hca hcl hsl hJ hT
  · refine z_tableIn (off := 477) (tgt := 522) B dL_law_45 (by decide) (by decide) (by decide) rfl ?_
    exact lc_7 G l hl9 hd0 B Φ sz b L i xs hX hbn hL hi x y o d ca cells slots hna hD hca hcl hsl hJ hT
  · refine z_tableIn (off := 567) (tgt := 612) B dL_law_45 (by decide) (by decide) (by decide) rfl ?_
    exact lc_8 G l hl9 hd0 B Φ sz b L i xs hX hbn hL hi x y o d ca cells slots hna hD hca hcl hsl hJ hT
  · refine z_tableIn (off := 595) (tgt := 640) B dL_law_45 (by decide) (by decide) (by decide) rfl ?_
    exact lc_9 G l hl9 hd0 B Φ sz b L i xs hX hbn hL hi x y o d ca cells slots hna hD hca hcl hsl hJ hT
  · refine z_tableIn (off := 608) (tgt := 653) B dL_law_45 (by decide) (by decide) (by decide) rfl ?_
    exact lc_10 G l hl9 hd0 B Φ sz b L i xs hX hbn hL hi x y o d ca cells slots hna hD hca hcl hsl hJ hT
  · refine z_tableIn (off := 621) (tgt := 666) B dL_law_45 (by decide) (by decide) (by decide) rfl ?_
    exact lc_11 G l hl9 hd0 B Φ sz b L i xs hX hbn hL hi x y o d ca cells slots hna hD hca hcl hsl hJ hT
  · refine z_tableIn (off := 661) (tgt := 706) B dL_law_45 (by decide) (by decide) (by decide) rfl ?_
    exact lc_12 G l hl9 hd0 B Φ sz b L i xs hX hbn hL hi x y o d ca cells slots hna hD hca hcl hsl hJ hT
  · refine z_tableIn (off := 674) (tgt := 719) B dL_law_45 (by decide) (by decide) (by decide) rfl ?_
    exact lc_13 G l hl9 hd0 B Φ sz b L i xs hX hbn hL hi x y o d ca cells slots hna hD hca hcl hsl hJ hT
  · refine z_tableIn (off := 687) (tgt := 732) B dL_law_45 (by decide) (by decide) (by decide) rfl ?_
    exact lc_14 G l hl9 hd0 B Φ sz b L i xs hX hbn hL hi x y o d ca cells slots hna hD hca hcl hsl hJ hT
  · refine z_tableIn (off := 712) (tgt := 757) B dL_law_45 (by decide) (by decide) (by decide) rfl ?_
    exact lc_15 G l hl9 hd0 B Φ sz b L i xs hX hbn hL hi x y o d ca cells slots hna hD hca hcl hsl hJ hT
  · refine z_tableIn (off := 753) (tgt := 798) B dL_law_45 (by decide) (by decide) (by decide) rfl ?_
    exact lc_16 G l hl9 hd0 B Φ sz b L i xs hX hbn hL hi x y o d ca cells slots hna hD hca hcl hsl hJ hT
  · refine z_tableIn (off := 778) (tgt := 823) B dL_law_45 (by decide) (by decide) (by decide) rfl ?_
    exact lc_17 G l hl9 hd0 B Φ sz b L i xs hX hbn hL hi x y o d ca cells slots hna hD hca hcl hsl hJ hT
  · refine z_tableIn (off := 791) (tgt := 836) B dL_law_45 (by decide) (by decide) (by decide) rfl ?_
    exact lc_18 G l hl9 hd0 B Φ sz b L i xs hX hbn hL hi x y o d ca cells slots hna hD hca hcl hsl hJ hT
  · refine z_tableIn (off := 819) (tgt := 864) B dL_law_45 (by decide) (by decide) (by decide) rfl ?_
    exact lc_19 G l hl9 hd0 B Φ sz b L i xs hX hbn hL hi x y o d ca cells slots hna hD hca hcl hsl hJ hT
  · refine z_tableIn (off := 847) (tgt := 892) B dL_law_45 (by decide) (by decide) (by decide) rfl ?_
    exact lc_20 G l hl9 hd0 B Φ sz b L i xs hX hbn hL hi x y o d ca cells slots hna hD hca hcl hsl hJ hT
  · refine z_tableIn (off := 887) (tgt := 932) B dL_law_45 (by decide) (by decide) (by decide) rfl ?_
    exact lc_21 G l hl9 hd0 B Φ sz b L i xs hX hbn hL hi x y o d ca cells slots hna hD hca hcl hsl hJ hT
  · refine z_tableIn (off := 915) (tgt := 960) B dL_law_45 (by decide) (by decide) (by decide) rfl ?_
    exact lc_22 G l hl9 hd0 B Φ sz b L i xs hX hbn hL hi x y o d ca cells slots hna hD hca hcl hsl hJ hT
  · refine z_tableIn (off := 971) (tgt := 1016) B dL_law_45 (by decide) (by decide) (by decide) rfl ?_
    exact lc_23 G l hl9 hd0 B Φ sz b L i xs hX hbn hL hi x y o d ca cells slots hna hD hca hcl hsl hJ hT
  · refine z_tableIn (off := 982) (tgt := 1027) B dL_law_45 (by decide) (by decide) (by decide) rfl ?_
    exact lc_24 G l hl9 hd0 B Φ sz b L i xs hX hbn hL hi x y o d ca cells slots hna hD hca hcl hsl hJ hT
  · refine z_tableIn (off := 1045) (tgt := 1090) B dL_law_45 (by decide) (by decide) (by decide) rfl ?_
    exact lc_25 G l hl9 hd0 B Φ sz b L i xs hX hbn hL hi x y o d ca cells slots hna hD hca hcl hsl hJ hT
  · refine z_tableIn (off := 1058) (tgt := 1103) B dL_law_45 (by decide) (by decide) (by decide) rfl ?_
    exact lc_26 G l hl9 hd0 B Φ sz b L i xs hX hbn hL hi x y o d ca cells slots hna hD hca hcl hsl hJ hT
  · refine z_tableIn (off := 1071) (tgt := 1116) B dL_law_45 (by decide) (by decide) (by decide) rfl ?_
    exact lc_27 G l hl9 hd0 B Φ sz b L i xs hX hbn hL hi x y o d ca cells slots hna hD hca hcl hsl hJ hT
  · refine z_tableIn (off := 1084) (tgt := 1129) B dL_law_45 (by decide) (by decide) (by decide) rfl ?_
    exact lc_28 G l hl9 hd0 B Φ sz b L i xs hX hbn hL hi x y o d ca cells slots hna hD hca hcl hsl hJ hT
  · refine z_tableIn (off := 1097) (tgt := 1142) B dL_law_45 (by decide) (by decide) (by decide) rfl ?_
    exact lc_29 G l hl9 hd0 B Φ sz b L i xs hX hbn hL hi x y o d ca cells slots hna hD hca hcl hsl hJ hT
  · refine z_tableIn (off := 1110) (tgt := 1155) B dL_law_45 (by decide) (by decide) (by decide) rfl ?_
    exact lc_30 G l hl9 hd0 B Φ sz b L i xs hX hbn hL hi x y o d ca cells slots hna hD hca hcl hsl hJ hT
  · refine z_tableIn (off := 1123) (tgt := 1168) B dL_law_45 (by decide) (by decide) (by decide) rfl ?_
    exact lc_31 G l hl9 hd0 B Φ sz b L i xs hX hbn hL hi x y o d ca cells slots hna hD hca hcl hsl hJ hT
  · refine z_tableIn (off := 1136) (tgt := 1181) B dL_law_45 (by decide) (by decide) (by decide) rfl ?_
    exact lc_32 G l hl9 hd0 B Φ sz b L i xs hX hbn hL hi x y o d ca cells slots hna hD hca hcl hsl hJ hT
  · refine z_tableIn (off := 1149) (tgt := 1194) B dL_law_45 (by decide) (by decide) (by decide) rfl ?_
    exact lc_33 G l hl9 hd0 B Φ sz b L i xs hX hbn hL hi x y o d ca cells slots hna hD hca hcl hsl hJ hT
  · refine z_tableIn (off := 1177) (tgt := 1222) B dL_law_45 (by decide) (by decide) (by decide) rfl ?_
    exact lc_34 G l hl9 hd0 B Φ sz b L i xs hX hbn hL hi x y o d ca cells slots hna hD hca hcl hsl hJ hT
  · refine z_tableIn (off := 1217) (tgt := 1262) B dL_law_45 (by decide) (by decide) (by decide) rfl ?_
    exact lc_35 G l hl9 hd0 B Φ sz b L i xs hX hbn hL hi x y o d ca cells slots hna hD hca hcl hsl hJ hT
  · refine z_tableIn (off := 1245) (tgt := 1290) B dL_law_45 (by decide) (by decide) (by decide) rfl ?_
    exact lc_36 G l hl9 hd0 B Φ sz b L i xs hX hbn hL hi x y o d ca cells slots hna hD hca hcl hsl hJ hT
  · refine z_tableIn (off := 1258) (tgt := 1303) B dL_law_45 (by decide) (by decide) (by decide) rfl ?_
    exact lc_37 G l hl9 hd0 B Φ sz b L i xs hX hbn hL hi x y o d ca cells slots hna hD hca hcl hsl hJ hT
  · refine z_tableIn (off := 1286) (tgt := 1331) B dL_law_45 (by decide) (by decide) (by decide) rfl ?_
    exact lc_38 G l hl9 hd0 B Φ sz b L i xs hX hbn hL hi x y o d ca cells slots hna hD hca hcl hsl hJ hT
  · refine z_tableIn (off := 1314) (tgt := 1359) B dL_law_45 (by decide) (by decide) (by decide) rfl ?_
    exact lc_39 G l hl9 hd0 B Φ sz b L i xs hX hbn hL hi x y o d ca cells slots hna hD hca hcl hsl hJ hT
  · refine z_tableIn (off := 1354) (tgt := 1399) B dL_law_45 (by decide) (by decide) (by decide) rfl ?_
    exact lc_40 G l hl9 hd0 B Φ sz b L i xs hX hbn hL hi x y o d ca cells slots hna hD hca hcl hsl hJ hT
  · refine z_tableIn (off := 1367) (tgt := 1412) B dL_law_45 (by decide) (by decide) (by decide) rfl ?_
    exact lc_41 G l hl9 hd0 B Φ sz b L i xs hX hbn hL hi x y o d ca cells slots hna hD hca hcl hsl hJ hT
  · refine z_tableIn (off := 1380) (tgt := 1425) B dL_law_45 (by decide) (by decide) (by decide) rfl ?_
    exact lc_42 G l hl9 hd0 B Φ sz b L i xs hX hbn hL hi x y o d ca cells slots hna hD hca hcl hsl hJ hT
  · refine z_tableIn (off := 1408) (tgt := 1453) B dL_law_45 (by decide) (by decide) (by decide) rfl ?_
    exact lc_43 G l hl9 hd0 B Φ sz b L i xs hX hbn hL hi x y o d ca cells slots hna hD hca hcl hsl hJ hT
  · refine z_tableIn (off := 1421) (tgt := 1466) B dL_law_45 (by decide) (by decide) (by decide) rfl ?_
    exact lc_44 G l hl9 hd0 B Φ sz b L i xs hX hbn hL hi x y o d ca cells slots hna hD hca hcl hsl hJ hT
  · refine z_tableIn (off := 1449) (tgt := 1494) B dL_law_45 (by decide) (by decide) (by decide) rfl ?_
    exact lc_45 G l hl9 hd0 B Φ sz b L i xs hX hbn hL hi x y o d ca cells slots hna hD hca hcl hsl hJ hT
  · refine z_tableIn (off := 1466) (tgt := 1511) B dL_law_45 (by decide) (by decide) (by decide) rfl ?_
    exact lc_46 G l hl9 hd0 B Φ sz b L i xs hX hbn hL hi x y o d ca cells slots hna hD hca hcl hsl hJ hT
  · refine z_tableIn (off := 1479) (tgt := 1524) B dL_law_45 (by decide) (by decide) (by decide) rfl ?_
    exact lc_47 G l hl9 hd0 B Φ sz b L i xs hX hbn hL hi x y o d ca cells slots hna hD hca hcl hsl hJ hT
  · refine z_tableIn (off := 1492) (tgt := 1537) B dL_law_45 (by decide) (by decide) (by decide) rfl ?_
    exact lc_48 G l hl9 hd0 B Φ sz b L i xs hX hbn hL hi x y o d ca cells slots hna hD hca hcl hsl hJ hT
  · refine z_tableIn (off := 1532) (tgt := 1577) B dL_law_45 (by decide) (by decide) (by decide) rfl ?_
    exact lc_49 G l hl9 hd0 B Φ sz b L i xs hX hbn hL hi x y o d ca cells slots hna hD hca hcl hsl hJ hT
  · refine z_tableIn (off := 1593) (tgt := 1638) B dL_law_45 (by decide) (by decide) (by decide) rfl ?_
    exact lc_50 G l hl9 hd0 B Φ sz b L i xs hX hbn hL hi x y o d ca cells slots hna hD hca hcl hsl hJ hT
  · refine z_tableIn (off := 1633) (tgt := 1678) B dL_law_45 (by decide) (by decide) (by decide) rfl ?_
    exact lc_51 G l hl9 hd0 B Φ sz b L i xs hX hbn hL hi x y o d ca cells slots hna hD hca hcl hsl hJ hT
  · refine z_tableIn (off := 1673) (tgt := 1718) B dL_law_45 (by decide) (by decide) (by decide) rfl ?_
    exact lc_52 G l hl9 hd0 B Φ sz b L i xs hX hbn hL hi x y o d ca cells slots hna hD hca hcl hsl hJ hT
  · refine z_tableIn (off := 1714) (tgt := 1759) B dL_law_45 (by decide) (by decide) (by decide) rfl ?_
    exact lc_53 G l hl9 hd0 B Φ sz b L i xs hX hbn hL hi x y o d ca cells slots hna hD hca hcl hsl hJ hT
  · refine z_tableIn (off := 1755) (tgt := 1800) B dL_law_45 (by decide) (by decide) (by decide) rfl ?_
    exact lc_54 G l hl9 hd0 B Φ sz b L i xs hX hbn hL hi x y o d ca cells slots hna hD hca hcl hsl hJ hT
  · refine z_tableIn (off := 1831) (tgt := 1876) B dL_law_45 (by decide) (by decide) (by decide) rfl ?_
    exact lc_55 G l hl9 hd0 B Φ sz b L i xs hX hbn hL hi x y o d ca cells slots hna hD hca hcl hsl hJ hT
  · refine z_tableIn (off := 1859) (tgt := 1904) B dL_law_45 (by decide) (by decide) (by decide) rfl ?_
    exact lc_56 G l hl9 hd0 B Φ sz b L i xs hX hbn hL hi x y o d ca cells slots hna hD hca hcl hsl hJ hT
  · refine z_tableIn (off := 1887) (tgt := 1932) B dL_law_45 (by decide) (by decide) (by decide) rfl ?_
    exact lc_57 G l hl9 hd0 B Φ sz b L i xs hX hbn hL hi x y o d ca cells slots hna hD hca hcl hsl hJ hT
  · refine z_tableIn (off := 1916) (tgt := 1961) B dL_law_45 (by decide) (by decide) (by decide) rfl ?_
    exact lc_58 G l hl9 hd0 B Φ sz b L i xs hX hbn hL hi x y o d ca cells slots hna hD hca hcl hsl hJ hT
  · refine z_tableOut (tgt := 2001) B dL_law_45 (by decide) rfl ?_
    refine z_widen (k := cells + 2) (n := slots + 12) (by omega) (by omega) ?_
    exact hT _ hd0 Φ sz (JJ.up hJ (by omega))
  · refine z_tableOut (tgt := 2001) B dL_law_45 (by decide) rfl ?_
    refine z_widen (k := cells + 2) (n := slots + 12) (by omega) (by omega) ?_
    exact hT _ hd0 Φ sz (JJ.up hJ (by omega))
  · refine z_tableOut (tgt := 2001) B dL_law_45 (by decide) rfl ?_
    refine z_widen (k := cells + 2) (n := slots + 12) (by omega) (by omega) ?_
    exact hT _ hd0 Φ sz (JJ.up hJ (by omega))
  · refine z_tableOut (tgt := 2001) B dL_law_45 (by decide) rfl ?_
    refine z_widen (k := cells + 2) (n := slots + 12) (by omega) (by omega) ?_
    exact hT _ hd0 Φ sz (JJ.up hJ (by omega))
  · refine z_tableOut (tgt := 2001) B dL_law_45 (by decide) rfl ?_
    refine z_widen (k := cells + 2) (n := slots + 12) (by omega) (by omega) ?_
    exact hT _ hd0 Φ sz (JJ.up hJ (by omega))
