set_option maxHeartbeats 4000000 in
set_option maxRecDepth 100000 in
theorem lc_57 {p9 : Program} {e9 : Env} {s9 : State} {m9 : MethodId} {a9 : Array Value} {w9 : List Frame} {t9 : Method} {k9 : Code} {Q9 : State → Prop} {nm9 : String} (G : EnvG) (l : Launch) (hl9 : l.stackTraces = false) {d0 : Drawn} (hd0 : s9.drawn.sameBut d0 lw_cs) (B : Bd p9 (s9.setDrawn d0) m9 a9 t9 k9 G code 9 RL wsL_law ret nm9) (Φ : Hm) (sz b L i : Nat) (xs : Nat → Int32) (hX : va_X b L xs (s9.setDrawn d0) (s9.setDrawn d0).heap) (hbn : b < G.2.2.2) (hL : L ≤ 3584) (hi : i + 7 ≤ L) (x y o d ca cells slots : Nat) (hna : G.2.2.2 ≤ x) (hD : Ds x y o d) (hca : ca ≤ 10000) (hcl : cells ≤ 8000) (hsl : slots ≤ 80000) (hJ : JJ G x y o d ca Φ) (hT : ∀ (d1 : Drawn), s9.drawn.sameBut d1 lw_cs → ∀ (Φ1 : Hm) (sz1 : Nat), JJ G x y o d (ca + 12) Φ1 → Z p9 l e9 room_1 (s9.setDrawn d1) m9 a9 w9 t9 k9 Q9 G 9 2001 [(5, .int (nI i)), (4, .ref d), (3, .ref o), (2, .ref y), (1, .ref x), (0, .ref b)] [] Φ1 sz1 (cells + 2) (slots + 12)) : Z p9 l e9 room_1 (s9.setDrawn d0) m9 a9 w9 t9 k9 Q9 G 9 1932 [(5, .int (nI i)), (4, .ref d), (3, .ref o), (2, .ref y), (1, .ref x), (0, .ref b)] [] Φ sz cells slots := by
  obtain ⟨n, f, g, co, po, ⟨tm, r, w, aq, e, ob, sm, un, ⟨nC, F⟩, nT, Ft⟩, sn, ⟨qn, qL, qd⟩, c, hJ, hG, hEq⟩ := hJ
  have hq12 : qn ≤ 12 := SQ.le hJ.2.2.2.2.2.2.2.2.1
  obtain ⟨t7, s7, hCA7⟩ := hJ.2.2.2.2.2.2.2.2.2
  have hW7 := CfA.W hCA7 hG
  have hR7 := CfA.R hCA7 hG
  refine z_aload_n B dL_law_1932 rfl 4 rfl ?_
  refine z_aload_n B dL_law_1933 rfl 5 rfl ?_
  refine z_iload B dL_law_1934 0 rfl ?_
  refine z_iconst (v := 1) B dL_law_1936 rfl ?_
  refine z_iadd B dL_law_1937 ?_
  refine z_sald B hX hbn (vinL (n := 1) rfl (by omega) hL) dL_law_1938 ?_
  refine z_aload B dL_law_1939 1 rfl ?_
  obtain ⟨fo, hco⟩ := hJ.2.2.2.1
  refine z_callSW (As := [.ref x, .int (xs (nI i + 1).toNatClampNeg), .ref d]) (rest := []) B (w_totalMargin G l hl9 Φ sz x ca (xs (nI i + 1).toNatClampNeg) d fo hna (by have := hD.1; have := hD.2.1; have := hD.2.2; omega) (fun j hj => by have := hD.1; have := hD.2.1; have := hD.2.2; omega) hJ.1 hco ) (vx_cwSW 3 B.1.2.2.2.2 gL_law_L_totalMargin rfl rfl rfl (by decide +kernel) ⟨Nat.le_of_ble_eq_true rfl, Nat.le_of_ble_eq_true rfl⟩) rfl rfl (Nat.le_of_ble_eq_true rfl) dL_law_1941 (rmL (by omega) (by omega) (by decide) (by decide)) (fun v1 Φ1 sz1 st1 hp1 hs1 => ?_)
  obtain ⟨⟨r1, rfl⟩, hI1, ho1, hf1⟩ := hp1
  replace hs1 : st1 = [.int r1] := hs1
  subst st1
  have hJ1 : JK G x y o d (ca) n f co po (tm, r, w, aq, e, ob, sm, un, (nC, F), (nT, Ft)) sn (qn, qL, qd) c n g co po (tm, r, w, aq, e, ob, sm, un, (nC, F), (nT, Ft)) sn (qn, qL, qd) c Φ1 := ⟨hI1, JM.eq hJ.2.1 (fun k hk => hf1 (y + k) (fun j hj => (show False from hj).elim) (by have := hD.1; have := hD.2.1; have := hD.2.2; omega)), ⟨_, (hf1 o (fun j hj => (show False from hj).elim) (by have := hD.1; have := hD.2.1; have := hD.2.2; omega)).trans (Classical.choose_spec hJ.2.2.1)⟩, ho1, (hf1 (x + 1) (fun j hj => (show False from hj).elim) (by have := hD.1; have := hD.2.1; have := hD.2.2; omega)).trans hJ.2.2.2.2.1, (hf1 (x + 2) (fun j hj => (show False from hj).elim) (by have := hD.1; have := hD.2.1; have := hD.2.2; omega)).trans hJ.2.2.2.2.2.1, C24.eq hJ.2.2.2.2.2.2.1 (hf1 (x + 24) (fun j hj => (show False from hj).elim) (by have := hD.1; have := hD.2.1; have := hD.2.2; omega)), XC.eq hJ.2.2.2.2.2.2.2.1 (fun k9 q1 q2 => hf1 (x + k9) (fun j hj => (show False from hj).elim) (by have := hD.1; have := hD.2.1; have := hD.2.2; omega)), SQ.eq hJ.2.2.2.2.2.2.2.2.1 (fun k9 q1 q2 => hf1 (x + k9) (fun j hj => (show False from hj).elim) (by have := hD.1; have := hD.2.1; have := hD.2.2; omega)), CfC.eq hJ.2.2.2.2.2.2.2.2.2 (fun k9 q1 q2 => hf1 (x + k9) (fun j hj => (show False from hj).elim) (by have := hD.1; have := hD.2.1; have := hD.2.2; omega))⟩
  refine z_istore (lv' := [(6, .int r1), (5, .int (nI i)), (4, .ref d), (3, .ref o), (2, .ref y), (1, .ref x), (0, .ref b)]) B dL_law_1944 (Nat.le_of_ble_eq_true rfl) rfl ?_
  refine z_aload_n B dL_law_1946 rfl 4 rfl ?_
  refine z_aload_n B dL_law_1947 rfl 6 rfl ?_
  refine z_iload B dL_law_1948 1 rfl ?_
  refine z_iconst (v := 1) B dL_law_1950 rfl ?_
  refine z_iadd B dL_law_1951 ?_
  refine z_sald B hX hbn (vinL (n := 1) rfl (by omega) hL) dL_law_1952 ?_
  obtain ⟨⟨rd, le, nx, kn, nu, va, st, th, hM⟩, hg0⟩ := hJ1.2.1
  obtain ⟨fs, hy0⟩ := JM.obj hJ1.2.1
  refine z_callV (As := [.int (xs (nI i + 1).toNatClampNeg)]) (rest := []) B (r_totalMargin G l Φ1 sz1 y rd (NNq c) (CaQ nC F) (TpQ nT Ft) (TtQ nT Ft) (SiQ sn.1) (AtQ sn.2.1) (PtQ 0 (fun _ => 0)) (QlQ qn qL) nC 0 le nx n qn kn co nu va st po (nI tm) aq ob (nI w) r e sm un nT th sn.2.2.1 qd (sn.2.2.2.2.toInt64 &&& 4294967295) sn.2.2.2.1  (xs (nI i + 1).toNatClampNeg) (by have := hD.1; omega) hM  (fun f9 h9 => h9.1)) (cwV 1 B.1.2.2.2.2 gL_law_X12_totalMargin rfl rfl rfl (by decide +kernel) ⟨Nat.le_of_ble_eq_true rfl, Nat.le_of_ble_eq_true rfl⟩) hy0 rfl rfl rfl rfl (Nat.le_of_ble_eq_true rfl) dL_law_1953 (rmL (by omega) (by omega) (by decide) (by decide)) (fun v2 Φ2 sz2 st2 hp2 hs2 => ?_)
  obtain ⟨⟨r2, rfl, hb2⟩, hz2, ⟨th1_, hM2⟩, hF2⟩ := hp2
  have hg2 := (hF2 (y + 25) (fun j q hj => by replace hj : j = 0 := hj; have := hD.1; have := hD.2.1; have := hD.2.2; omega)).trans hg0
  subst sz2
  replace hs2 : st2 = [.double r2] := hs2
  subst st2
  have hJ2 : JK G x y o d (ca) n f co po (tm, r, w, aq, e, ob, sm, un, (nC, F), (nT, Ft)) sn (qn, qL, qd) c n g co po (tm, r, w, aq, e, ob, sm, un, (nC, F), (nT, Ft)) sn (qn, qL, qd) c Φ2 := ⟨In.eq hJ1.1 (fun k hk => hF2 (x + k) (fun j q hj => by replace hj : j = 0 := hj; have := hD.1; have := hD.2.1; have := hD.2.2; omega)), ⟨⟨_, _, _, _, _, _, _, _, hM2⟩, hg2⟩, ⟨_, (hF2 (o) (fun j q hj => by replace hj : j = 0 := hj; have := hD.1; have := hD.2.1; have := hD.2.2; omega)).trans (Classical.choose_spec hJ1.2.2.1)⟩, ⟨_, (hF2 (d) (fun j q hj => by replace hj : j = 0 := hj; have := hD.1; have := hD.2.1; have := hD.2.2; omega)).trans (Classical.choose_spec hJ1.2.2.2.1)⟩, (hF2 (x + 1) (fun j q hj => by replace hj : j = 0 := hj; have := hD.1; have := hD.2.1; have := hD.2.2; omega)).trans hJ1.2.2.2.2.1, (hF2 (x + 2) (fun j q hj => by replace hj : j = 0 := hj; have := hD.1; have := hD.2.1; have := hD.2.2; omega)).trans hJ1.2.2.2.2.2.1, C24.eq hJ1.2.2.2.2.2.2.1 (hF2 (x + 24) (fun j q hj => by replace hj : j = 0 := hj; have := hD.1; have := hD.2.1; have := hD.2.2; omega)), XC.eq hJ1.2.2.2.2.2.2.2.1 (fun k9 q1 q2 => hF2 (x + k9) (fun j q hj => by replace hj : j = 0 := hj; have := hD.1; have := hD.2.1; have := hD.2.2; omega)), SQ.eq hJ1.2.2.2.2.2.2.2.2.1 (fun k9 q1 q2 => hF2 (x + k9) (fun j q hj => by replace hj : j = 0 := hj; have := hD.1; have := hD.2.1; have := hD.2.2; omega)), CfC.eq hJ1.2.2.2.2.2.2.2.2.2 (fun k9 q1 q2 => hF2 (x + k9) (fun j q hj => by replace hj : j = 0 := hj; have := hD.1; have := hD.2.1; have := hD.2.2; omega))⟩
  refine z_dstore (lv' := [(7, .double r2), (6, .int r1), (5, .int (nI i)), (4, .ref d), (3, .ref o), (2, .ref y), (1, .ref x), (0, .ref b)]) B dL_law_1956 (Nat.le_of_ble_eq_true rfl) rfl ?_
  refine z_goto (tgt := 2001) B dL_law_1958 rfl ?_
  refine z_lv [2, 3, 4, 5, 6, 7] rfl ?_
  refine z_widen (k := cells + 2) (n := slots + 12) (by omega) (by omega) ?_
  exact hT _ hd0 Φ2 sz1 (JJ.of (JK.up hJ2 (by omega)) hG rfl rfl rfl rfl rfl rfl rfl hEq)

set_option maxHeartbeats 4000000 in
set_option maxRecDepth 100000 in
theorem lc_58 {p9 : Program} {e9 : Env} {s9 : State} {m9 : MethodId} {a9 : Array Value} {w9 : List Frame} {t9 : Method} {k9 : Code} {Q9 : State → Prop} {nm9 : String} (G : EnvG) (l : Launch) (hl9 : l.stackTraces = false) {d0 : Drawn} (hd0 : s9.drawn.sameBut d0 lw_cs) (B : Bd p9 (s9.setDrawn d0) m9 a9 t9 k9 G code 9 RL wsL_law ret nm9) (Φ : Hm) (sz b L i : Nat) (xs : Nat → Int32) (hX : va_X b L xs (s9.setDrawn d0) (s9.setDrawn d0).heap) (hbn : b < G.2.2.2) (hL : L ≤ 3584) (hi : i + 7 ≤ L) (x y o d ca cells slots : Nat) (hna : G.2.2.2 ≤ x) (hD : Ds x y o d) (hca : ca ≤ 10000) (hcl : cells ≤ 8000) (hsl : slots ≤ 80000) (hJ : JJ G x y o d ca Φ) (hT : ∀ (d1 : Drawn), s9.drawn.sameBut d1 lw_cs → ∀ (Φ1 : Hm) (sz1 : Nat), JJ G x y o d (ca + 12) Φ1 → Z p9 l e9 room_1 (s9.setDrawn d1) m9 a9 w9 t9 k9 Q9 G 9 2001 [(5, .int (nI i)), (4, .ref d), (3, .ref o), (2, .ref y), (1, .ref x), (0, .ref b)] [] Φ1 sz1 (cells + 2) (slots + 12)) : Z p9 l e9 room_1 (s9.setDrawn d0) m9 a9 w9 t9 k9 Q9 G 9 1961 [(5, .int (nI i)), (4, .ref d), (3, .ref o), (2, .ref y), (1, .ref x), (0, .ref b)] [] Φ sz cells slots := by
  obtain ⟨n, f, g, co, po, ⟨tm, r, w, aq, e, ob, sm, un, ⟨nC, F⟩, nT, Ft⟩, sn, ⟨qn, qL, qd⟩, c, hJ, hG, hEq⟩ := hJ
  have hq12 : qn ≤ 12 := SQ.le hJ.2.2.2.2.2.2.2.2.1
  obtain ⟨t7, s7, hCA7⟩ := hJ.2.2.2.2.2.2.2.2.2
  have hW7 := CfA.W hCA7 hG
  have hR7 := CfA.R hCA7 hG
  refine z_aload_n B dL_law_1961 rfl 4 rfl ?_
  refine z_aload_n B dL_law_1962 rfl 5 rfl ?_
  refine z_iload B dL_law_1963 0 rfl ?_
  refine z_iconst (v := 1) B dL_law_1965 rfl ?_
  refine z_iadd B dL_law_1966 ?_
  refine z_sald B hX hbn (vinL (n := 1) rfl (by omega) hL) dL_law_1967 ?_
  refine z_aload_n B dL_law_1968 rfl 5 rfl ?_
  refine z_iload B dL_law_1969 0 rfl ?_
  refine z_iconst (v := 2) B dL_law_1971 rfl ?_
  refine z_iadd B dL_law_1972 ?_
  refine z_sald B hX hbn (vinL (n := 2) rfl (by omega) hL) dL_law_1973 ?_
  refine z_aload_n B dL_law_1974 rfl 2 rfl ?_
  obtain ⟨fo, hco⟩ := hJ.2.2.1
  refine z_callSW (As := [.ref x, .int (xs (nI i + 1).toNatClampNeg), .int (xs (nI i + 2).toNatClampNeg), .ref o]) (rest := []) B (w_ranked G l hl9 Φ sz x ca (xs (nI i + 1).toNatClampNeg) (xs (nI i + 2).toNatClampNeg) o fo hna (by have := hD.1; have := hD.2.1; have := hD.2.2; omega) (fun j hj => by have := hD.1; have := hD.2.1; have := hD.2.2; omega) hJ.1 hco ) (vx_cwSW 4 B.1.2.2.2.2 gL_law_L_ranked rfl rfl rfl (by decide +kernel) ⟨Nat.le_of_ble_eq_true rfl, Nat.le_of_ble_eq_true rfl⟩) rfl rfl (Nat.le_of_ble_eq_true rfl) dL_law_1975 (rmL (by omega) (by omega) (by decide) (by decide)) (fun v1 Φ1 sz1 st1 hp1 hs1 => ?_)
  obtain ⟨⟨r1, rfl⟩, hI1, ho1, hf1⟩ := hp1
  replace hs1 : st1 = [.int r1] := hs1
  subst st1
  have hJ1 : JK G x y o d (ca) n f co po (tm, r, w, aq, e, ob, sm, un, (nC, F), (nT, Ft)) sn (qn, qL, qd) c n g co po (tm, r, w, aq, e, ob, sm, un, (nC, F), (nT, Ft)) sn (qn, qL, qd) c Φ1 := ⟨hI1, JM.eq hJ.2.1 (fun k hk => hf1 (y + k) (fun j hj => (show False from hj).elim) (by have := hD.1; have := hD.2.1; have := hD.2.2; omega)), ho1, ⟨_, (hf1 d (fun j hj => (show False from hj).elim) (by have := hD.1; have := hD.2.1; have := hD.2.2; omega)).trans (Classical.choose_spec hJ.2.2.2.1)⟩, (hf1 (x + 1) (fun j hj => (show False from hj).elim) (by have := hD.1; have := hD.2.1; have := hD.2.2; omega)).trans hJ.2.2.2.2.1, (hf1 (x + 2) (fun j hj => (show False from hj).elim) (by have := hD.1; have := hD.2.1; have := hD.2.2; omega)).trans hJ.2.2.2.2.2.1, C24.eq hJ.2.2.2.2.2.2.1 (hf1 (x + 24) (fun j hj => (show False from hj).elim) (by have := hD.1; have := hD.2.1; have := hD.2.2; omega)), XC.eq hJ.2.2.2.2.2.2.2.1 (fun k9 q1 q2 => hf1 (x + k9) (fun j hj => (show False from hj).elim) (by have := hD.1; have := hD.2.1; have := hD.2.2; omega)), SQ.eq hJ.2.2.2.2.2.2.2.2.1 (fun k9 q1 q2 => hf1 (x + k9) (fun j hj => (show False from hj).elim) (by have := hD.1; have := hD.2.1; have := hD.2.2; omega)), CfC.eq hJ.2.2.2.2.2.2.2.2.2 (fun k9 q1 q2 => hf1 (x + k9) (fun j hj => (show False from hj).elim) (by have := hD.1; have := hD.2.1; have := hD.2.2; omega))⟩
  refine z_istore (lv' := [(6, .int r1), (5, .int (nI i)), (4, .ref d), (3, .ref o), (2, .ref y), (1, .ref x), (0, .ref b)]) B dL_law_1978 (Nat.le_of_ble_eq_true rfl) rfl ?_
  refine z_aload_n B dL_law_1980 rfl 4 rfl ?_
  refine z_aload_n B dL_law_1981 rfl 6 rfl ?_
  refine z_iload B dL_law_1982 1 rfl ?_
  refine z_iconst (v := 1) B dL_law_1984 rfl ?_
  refine z_iadd B dL_law_1985 ?_
  refine z_sald B hX hbn (vinL (n := 1) rfl (by omega) hL) dL_law_1986 ?_
  refine z_aload_n B dL_law_1987 rfl 6 rfl ?_
  refine z_iload B dL_law_1988 1 rfl ?_
  refine z_iconst (v := 2) B dL_law_1990 rfl ?_
  refine z_iadd B dL_law_1991 ?_
  refine z_sald B hX hbn (vinL (n := 2) rfl (by omega) hL) dL_law_1992 ?_
  obtain ⟨⟨rd, le, nx, kn, nu, va, st, th, hM⟩, hg0⟩ := hJ1.2.1
  obtain ⟨fs, hy0⟩ := JM.obj hJ1.2.1
  refine z_callV (As := [.int (xs (nI i + 1).toNatClampNeg), .int (xs (nI i + 2).toNatClampNeg)]) (rest := []) B (r_ranked G l Φ1 sz1 y rd (NNq c) (CaQ nC F) (TpQ nT Ft) (TtQ nT Ft) (SiQ sn.1) (AtQ sn.2.1) (PtQ 0 (fun _ => 0)) (QlQ qn qL) nC 0 le nx n qn kn co nu va st po (nI tm) aq ob (nI w) r e sm un nT th sn.2.2.1 qd (sn.2.2.2.2.toInt64 &&& 4294967295) sn.2.2.2.1  (xs (nI i + 1).toNatClampNeg) (xs (nI i + 2).toNatClampNeg) (by have := hD.1; omega) hM  (fun f9 h9 => h9.1)) (cwV 2 B.1.2.2.2.2 gL_law_X12_ranked rfl rfl rfl (by decide +kernel) ⟨Nat.le_of_ble_eq_true rfl, Nat.le_of_ble_eq_true rfl⟩) hy0 rfl rfl rfl rfl (Nat.le_of_ble_eq_true rfl) dL_law_1993 (rmL (by omega) (by omega) (by decide) (by decide)) (fun v2 Φ2 sz2 st2 hp2 hs2 => ?_)
  obtain ⟨⟨r2, rfl⟩, hz2, ⟨th1_, hM2⟩, hF2⟩ := hp2
  have hg2 := (hF2 (y + 25) (fun j q hj => by replace hj : j = 0 := hj; have := hD.1; have := hD.2.1; have := hD.2.2; omega)).trans hg0
  subst sz2
  replace hs2 : st2 = [.int r2] := hs2
  subst st2
  have hJ2 : JK G x y o d (ca) n f co po (tm, r, w, aq, e, ob, sm, un, (nC, F), (nT, Ft)) sn (qn, qL, qd) c n g co po (tm, r, w, aq, e, ob, sm, un, (nC, F), (nT, Ft)) sn (qn, qL, qd) c Φ2 := ⟨In.eq hJ1.1 (fun k hk => hF2 (x + k) (fun j q hj => by replace hj : j = 0 := hj; have := hD.1; have := hD.2.1; have := hD.2.2; omega)), ⟨⟨_, _, _, _, _, _, _, _, hM2⟩, hg2⟩, ⟨_, (hF2 (o) (fun j q hj => by replace hj : j = 0 := hj; have := hD.1; have := hD.2.1; have := hD.2.2; omega)).trans (Classical.choose_spec hJ1.2.2.1)⟩, ⟨_, (hF2 (d) (fun j q hj => by replace hj : j = 0 := hj; have := hD.1; have := hD.2.1; have := hD.2.2; omega)).trans (Classical.choose_spec hJ1.2.2.2.1)⟩, (hF2 (x + 1) (fun j q hj => by replace hj : j = 0 := hj; have := hD.1; have := hD.2.1; have := hD.2.2; omega)).trans hJ1.2.2.2.2.1, (hF2 (x + 2) (fun j q hj => by replace hj : j = 0 := hj; have := hD.1; have := hD.2.1; have := hD.2.2; omega)).trans hJ1.2.2.2.2.2.1, C24.eq hJ1.2.2.2.2.2.2.1 (hF2 (x + 24) (fun j q hj => by replace hj : j = 0 := hj; have := hD.1; have := hD.2.1; have := hD.2.2; omega)), XC.eq hJ1.2.2.2.2.2.2.2.1 (fun k9 q1 q2 => hF2 (x + k9) (fun j q hj => by replace hj : j = 0 := hj; have := hD.1; have := hD.2.1; have := hD.2.2; omega)), SQ.eq hJ1.2.2.2.2.2.2.2.2.1 (fun k9 q1 q2 => hF2 (x + k9) (fun j q hj => by replace hj : j = 0 := hj; have := hD.1; have := hD.2.1; have := hD.2.2; omega)), CfC.eq hJ1.2.2.2.2.2.2.2.2.2 (fun k9 q1 q2 => hF2 (x + k9) (fun j q hj => by replace hj : j = 0 := hj; have := hD.1; have := hD.2.1; have := hD.2.2; omega))⟩
  refine z_istore (lv' := [(7, .int r2), (6, .int r1), (5, .int (nI i)), (4, .ref d), (3, .ref o), (2, .ref y), (1, .ref x), (0, .ref b)]) B dL_law_1996 (Nat.le_of_ble_eq_true rfl) rfl ?_
  refine z_goto (tgt := 2001) B dL_law_1998 rfl ?_
  refine z_lv [2, 3, 4, 5, 6, 7] rfl ?_
  refine z_widen (k := cells + 2) (n := slots + 12) (by omega) (by omega) ?_
  exact hT _ hd0 Φ2 sz1 (JJ.of (JK.up hJ2 (by omega)) hG rfl rfl rfl rfl rfl rfl rfl hEq)
