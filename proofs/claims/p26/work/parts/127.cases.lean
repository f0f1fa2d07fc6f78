set_option maxHeartbeats 4000000 in
set_option maxRecDepth 100000 in
theorem lc_20 {p9 : Program} {e9 : Env} {s9 : State} {m9 : MethodId} {a9 : Array Value} {w9 : List Frame} {t9 : Method} {k9 : Code} {Q9 : State → Prop} {nm9 : String} (G : EnvG) (l : Launch) (hl9 : l.stackTraces = false) {d0 : Drawn} (hd0 : s9.drawn.sameBut d0 lw_cs) (B : Bd p9 (s9.setDrawn d0) m9 a9 t9 k9 G code 9 RL wsL_law ret nm9) (Φ : Hm) (sz b L i : Nat) (xs : Nat → Int32) (hX : va_X b L xs (s9.setDrawn d0) (s9.setDrawn d0).heap) (hbn : b < G.2.2.2) (hL : L ≤ 3584) (hi : i + 7 ≤ L) (x y o d ca cells slots : Nat) (hna : G.2.2.2 ≤ x) (hD : Ds x y o d) (hca : ca ≤ 10000) (hcl : cells ≤ 8000) (hsl : slots ≤ 80000) (hJ : JJ G x y o d ca Φ) (hT : ∀ (d1 : Drawn), s9.drawn.sameBut d1 lw_cs → ∀ (Φ1 : Hm) (sz1 : Nat), JJ G x y o d (ca + 12) Φ1 → Z p9 l e9 room_1 (s9.setDrawn d1) m9 a9 w9 t9 k9 Q9 G 9 2001 [(5, .int (nI i)), (4, .ref d), (3, .ref o), (2, .ref y), (1, .ref x), (0, .ref b)] [] Φ1 sz1 (cells + 2) (slots + 12)) : Z p9 l e9 room_1 (s9.setDrawn d0) m9 a9 w9 t9 k9 Q9 G 9 892 [(5, .int (nI i)), (4, .ref d), (3, .ref o), (2, .ref y), (1, .ref x), (0, .ref b)] [] Φ sz cells slots := by
  obtain ⟨n, f, g, co, po, ⟨tm, r, w, aq, e, ob, sm, un, ⟨nC, F⟩, nT, Ft⟩, sn, ⟨qn, qL, qd⟩, c, hJ, hG, hEq⟩ := hJ
  have hq12 : qn ≤ 12 := SQ.le hJ.2.2.2.2.2.2.2.2.1
  obtain ⟨t7, s7, hCA7⟩ := hJ.2.2.2.2.2.2.2.2.2
  have hW7 := CfA.W hCA7 hG
  have hR7 := CfA.R hCA7 hG
  refine z_aload_n B dL_law_892 rfl 4 rfl ?_
  refine z_aload_n B dL_law_893 rfl 5 rfl ?_
  refine z_iload B dL_law_894 0 rfl ?_
  refine z_iconst (v := 1) B dL_law_896 rfl ?_
  refine z_iadd B dL_law_897 ?_
  refine z_sald B hX hbn (vinL (n := 1) rfl (by omega) hL) dL_law_898 ?_
  refine z_aload_n B dL_law_899 rfl 5 rfl ?_
  refine z_iload B dL_law_900 0 rfl ?_
  refine z_iconst (v := 2) B dL_law_902 rfl ?_
  refine z_iadd B dL_law_903 ?_
  refine z_sald B hX hbn (vinL (n := 2) rfl (by omega) hL) dL_law_904 ?_
  refine z_aload_n B dL_law_905 rfl 2 rfl ?_
  obtain ⟨fo, hco⟩ := hJ.2.2.1
  obtain ⟨t0, s0, hCA0⟩ := hJ.2.2.2.2.2.2.2.2.2
  refine z_callSW (As := [.ref x, .int (xs (nI i + 1).toNatClampNeg), .int (xs (nI i + 2).toNatClampNeg), .ref o]) (rest := []) B (w_fieldAt G l hl9 Φ sz x ca t0 s0 c (xs (nI i + 1).toNatClampNeg) (xs (nI i + 2).toNatClampNeg) o fo hna (by have := hD.1; have := hD.2.1; have := hD.2.2; omega) (fun j hj => by have := hD.1; have := hD.2.1; have := hD.2.2; omega) hJ.1 hco hCA0 ) (vx_cwSW 4 B.1.2.2.2.2 gL_law_L_fieldAt rfl rfl rfl (by decide +kernel) ⟨Nat.le_of_ble_eq_true rfl, Nat.le_of_ble_eq_true rfl⟩) rfl rfl (Nat.le_of_ble_eq_true rfl) dL_law_906 (rmL (by omega) (by omega) (by decide) (by decide)) (fun v1 Φ1 sz1 st1 hp1 hs1 => ?_)
  obtain ⟨⟨r1, fo1_, rfl, hv1, hA1⟩, hI1, ho1, hf1⟩ := hp1
  replace hs1 : st1 = [.int r1] := hs1
  subst st1
  have hJ1 : JK G x y o d (ca) n f co po (tm, r, w, aq, e, ob, sm, un, (nC, F), (nT, Ft)) sn (qn, qL, qd) c n g co po (tm, r, w, aq, e, ob, sm, un, (nC, F), (nT, Ft)) sn (qn, qL, qd) c Φ1 := ⟨hI1, JM.eq hJ.2.1 (fun k hk => hf1 (y + k) (fun j hj => (show False from hj).elim) (by have := hD.1; have := hD.2.1; have := hD.2.2; omega)), ho1, ⟨_, (hf1 d (fun j hj => (show False from hj).elim) (by have := hD.1; have := hD.2.1; have := hD.2.2; omega)).trans (Classical.choose_spec hJ.2.2.2.1)⟩, (hf1 (x + 1) (fun j hj => (show False from hj).elim) (by have := hD.1; have := hD.2.1; have := hD.2.2; omega)).trans hJ.2.2.2.2.1, (hf1 (x + 2) (fun j hj => (show False from hj).elim) (by have := hD.1; have := hD.2.1; have := hD.2.2; omega)).trans hJ.2.2.2.2.2.1, C24.eq hJ.2.2.2.2.2.2.1 (hf1 (x + 24) (fun j hj => (show False from hj).elim) (by have := hD.1; have := hD.2.1; have := hD.2.2; omega)), XC.eq hJ.2.2.2.2.2.2.2.1 (fun k9 q1 q2 => hf1 (x + k9) (fun j hj => (show False from hj).elim) (by have := hD.1; have := hD.2.1; have := hD.2.2; omega)), SQ.eq hJ.2.2.2.2.2.2.2.2.1 (fun k9 q1 q2 => hf1 (x + k9) (fun j hj => (show False from hj).elim) (by have := hD.1; have := hD.2.1; have := hD.2.2; omega)), CfC.eq hJ.2.2.2.2.2.2.2.2.2 (fun k9 q1 q2 => hf1 (x + k9) (fun j hj => (show False from hj).elim) (by have := hD.1; have := hD.2.1; have := hD.2.2; omega))⟩
  refine z_istore (lv' := [(6, .int r1), (5, .int (nI i)), (4, .ref d), (3, .ref o), (2, .ref y), (1, .ref x), (0, .ref b)]) B dL_law_909 (Nat.le_of_ble_eq_true rfl) rfl ?_
  refine z_aload_n B dL_law_911 rfl 4 rfl ?_
  refine z_aload_n B dL_law_912 rfl 6 rfl ?_
  refine z_iload B dL_law_913 1 rfl ?_
  refine z_iconst (v := 1) B dL_law_915 rfl ?_
  refine z_iadd B dL_law_916 ?_
  refine z_sald B hX hbn (vinL (n := 1) rfl (by omega) hL) dL_law_917 ?_
  refine z_aload_n B dL_law_918 rfl 6 rfl ?_
  refine z_iload B dL_law_919 1 rfl ?_
  refine z_iconst (v := 2) B dL_law_921 rfl ?_
  refine z_iadd B dL_law_922 ?_
  refine z_sald B hX hbn (vinL (n := 2) rfl (by omega) hL) dL_law_923 ?_
  obtain ⟨⟨rd, le, nx, kn, nu, va, st, th, hM⟩, hg0⟩ := hJ1.2.1
  obtain ⟨fs, hy0⟩ := JM.obj hJ1.2.1
  refine z_callV (As := [.int (xs (nI i + 1).toNatClampNeg), .int (xs (nI i + 2).toNatClampNeg)]) (rest := []) B (r_fieldAtC G l Φ1 sz1 y rd (CaQ nC F) (TpQ nT Ft) (TtQ nT Ft) (SiQ sn.1) (AtQ sn.2.1) (PtQ 0 (fun _ => 0)) (QlQ qn qL) nC 0 le nx n qn kn co nu va st po (nI tm) aq ob (nI w) r e sm un nT th sn.2.2.1 qd (sn.2.2.2.2.toInt64 &&& 4294967295) sn.2.2.2.1 c (xs (nI i + 1).toNatClampNeg) (xs (nI i + 2).toNatClampNeg) (by have := hD.1; omega) hM  ) (cwV 2 B.1.2.2.2.2 gL_law_X12_fieldAt rfl rfl rfl (by decide +kernel) ⟨Nat.le_of_ble_eq_true rfl, Nat.le_of_ble_eq_true rfl⟩) hy0 rfl rfl rfl rfl (Nat.le_of_ble_eq_true rfl) dL_law_924 (rmL (by omega) (by omega) (by decide) (by decide)) (fun v2 Φ2 sz2 st2 hp2 hs2 => ?_)
  obtain ⟨⟨r2, th2, l2_, rfl, hth2, hAr2⟩, hz2, ⟨th1_, hM2⟩, hF2⟩ := hp2
  have hk9 := AnsR_fun hA1 hAr2 (fun hi9 _ => rfl)
  have hg2 := (hF2 (y + 25) (fun j q hj => by replace hj : j = 0 := hj; have := hD.1; have := hD.2.1; have := hD.2.2; omega)).trans hg0
  subst sz2
  replace hs2 : st2 = [.int r2] := hs2
  subst st2
  have hJ2 : JK G x y o d (ca) n f co po (tm, r, w, aq, e, ob, sm, un, (nC, F), (nT, Ft)) sn (qn, qL, qd) c n g co po (tm, r, w, aq, e, ob, sm, un, (nC, F), (nT, Ft)) sn (qn, qL, qd) c Φ2 := ⟨In.eq hJ1.1 (fun k hk => hF2 (x + k) (fun j q hj => by replace hj : j = 0 := hj; have := hD.1; have := hD.2.1; have := hD.2.2; omega)), ⟨⟨_, _, _, _, _, _, _, _, hM2⟩, hg2⟩, ⟨_, (hF2 (o) (fun j q hj => by replace hj : j = 0 := hj; have := hD.1; have := hD.2.1; have := hD.2.2; omega)).trans (Classical.choose_spec hJ1.2.2.1)⟩, ⟨_, (hF2 (d) (fun j q hj => by replace hj : j = 0 := hj; have := hD.1; have := hD.2.1; have := hD.2.2; omega)).trans (Classical.choose_spec hJ1.2.2.2.1)⟩, (hF2 (x + 1) (fun j q hj => by replace hj : j = 0 := hj; have := hD.1; have := hD.2.1; have := hD.2.2; omega)).trans hJ1.2.2.2.2.1, (hF2 (x + 2) (fun j q hj => by replace hj : j = 0 := hj; have := hD.1; have := hD.2.1; have := hD.2.2; omega)).trans hJ1.2.2.2.2.2.1, C24.eq hJ1.2.2.2.2.2.2.1 (hF2 (x + 24) (fun j q hj => by replace hj : j = 0 := hj; have := hD.1; have := hD.2.1; have := hD.2.2; omega)), XC.eq hJ1.2.2.2.2.2.2.2.1 (fun k9 q1 q2 => hF2 (x + k9) (fun j q hj => by replace hj : j = 0 := hj; have := hD.1; have := hD.2.1; have := hD.2.2; omega)), SQ.eq hJ1.2.2.2.2.2.2.2.2.1 (fun k9 q1 q2 => hF2 (x + k9) (fun j q hj => by replace hj : j = 0 := hj; have := hD.1; have := hD.2.1; have := hD.2.2; omega)), CfC.eq hJ1.2.2.2.2.2.2.2.2.2 (fun k9 q1 q2 => hF2 (x + k9) (fun j q hj => by replace hj : j = 0 := hj; have := hD.1; have := hD.2.1; have := hD.2.2; omega))⟩
  have ho2 := (hF2 (o) (fun j q hj => by replace hj : j = 0 := hj; have := hD.1; have := hD.2.1; have := hD.2.2; omega)).trans hv1
  refine z_istore (lv' := [(7, .int r2), (6, .int r1), (5, .int (nI i)), (4, .ref d), (3, .ref o), (2, .ref y), (1, .ref x), (0, .ref b)]) B dL_law_927 (Nat.le_of_ble_eq_true rfl) rfl ?_
  refine z_goto (tgt := 2001) B dL_law_929 rfl ?_
  refine z_lv [2, 3, 4, 5, 6, 7] rfl ?_
  refine z_widen (k := cells + 2) (n := slots + 12) (by omega) (by omega) ?_
  exact hT _ hd0 Φ2 sz1 (JJ.of (JK.up hJ2 (by omega)) hG rfl rfl rfl rfl rfl rfl rfl hEq)

set_option maxHeartbeats 4000000 in
set_option maxRecDepth 100000 in
theorem lc_21 {p9 : Program} {e9 : Env} {s9 : State} {m9 : MethodId} {a9 : Array Value} {w9 : List Frame} {t9 : Method} {k9 : Code} {Q9 : State → Prop} {nm9 : String} (G : EnvG) (l : Launch) (hl9 : l.stackTraces = false) {d0 : Drawn} (hd0 : s9.drawn.sameBut d0 lw_cs) (B : Bd p9 (s9.setDrawn d0) m9 a9 t9 k9 G code 9 RL wsL_law ret nm9) (Φ : Hm) (sz b L i : Nat) (xs : Nat → Int32) (hX : va_X b L xs (s9.setDrawn d0) (s9.setDrawn d0).heap) (hbn : b < G.2.2.2) (hL : L ≤ 3584) (hi : i + 7 ≤ L) (x y o d ca cells slots : Nat) (hna : G.2.2.2 ≤ x) (hD : Ds x y o d) (hca : ca ≤ 10000) (hcl : cells ≤ 8000) (hsl : slots ≤ 80000) (hJ : JJ G x y o d ca Φ) (hT : ∀ (d1 : Drawn), s9.drawn.sameBut d1 lw_cs → ∀ (Φ1 : Hm) (sz1 : Nat), JJ G x y o d (ca + 12) Φ1 → Z p9 l e9 room_1 (s9.setDrawn d1) m9 a9 w9 t9 k9 Q9 G 9 2001 [(5, .int (nI i)), (4, .ref d), (3, .ref o), (2, .ref y), (1, .ref x), (0, .ref b)] [] Φ1 sz1 (cells + 2) (slots + 12)) : Z p9 l e9 room_1 (s9.setDrawn d0) m9 a9 w9 t9 k9 Q9 G 9 932 [(5, .int (nI i)), (4, .ref d), (3, .ref o), (2, .ref y), (1, .ref x), (0, .ref b)] [] Φ sz cells slots := by
  obtain ⟨n, f, g, co, po, ⟨tm, r, w, aq, e, ob, sm, un, ⟨nC, F⟩, nT, Ft⟩, sn, ⟨qn, qL, qd⟩, c, hJ, hG, hEq⟩ := hJ
  have hq12 : qn ≤ 12 := SQ.le hJ.2.2.2.2.2.2.2.2.1
  obtain ⟨t7, s7, hCA7⟩ := hJ.2.2.2.2.2.2.2.2.2
  have hW7 := CfA.W hCA7 hG
  have hR7 := CfA.R hCA7 hG
  refine z_aload_n B dL_law_932 rfl 4 rfl ?_
  refine z_aload_n B dL_law_933 rfl 5 rfl ?_
  refine z_iload B dL_law_934 0 rfl ?_
  refine z_iconst (v := 1) B dL_law_936 rfl ?_
  refine z_iadd B dL_law_937 ?_
  refine z_sald B hX hbn (vinL (n := 1) rfl (by omega) hL) dL_law_938 ?_
  refine z_aload_n B dL_law_939 rfl 2 rfl ?_
  obtain ⟨fo, hco⟩ := hJ.2.2.1
  obtain ⟨t0, s0, hCA0⟩ := hJ.2.2.2.2.2.2.2.2.2
  refine z_callSW (As := [.ref x, .int (xs (nI i + 1).toNatClampNeg), .ref o]) (rest := []) B (w_recordLength G l hl9 Φ sz x ca t0 s0 c (xs (nI i + 1).toNatClampNeg) o fo hna (by have := hD.1; have := hD.2.1; have := hD.2.2; omega) (fun j hj => by have := hD.1; have := hD.2.1; have := hD.2.2; omega) hJ.1 hco hCA0 ) (vx_cwSW 3 B.1.2.2.2.2 gL_law_L_recordLength rfl rfl rfl (by decide +kernel) ⟨Nat.le_of_ble_eq_true rfl, Nat.le_of_ble_eq_true rfl⟩) rfl rfl (Nat.le_of_ble_eq_true rfl) dL_law_940 (rmL (by omega) (by omega) (by decide) (by decide)) (fun v1 Φ1 sz1 st1 hp1 hs1 => ?_)
  obtain ⟨⟨r1, fo1_, rfl, hv1, hA1⟩, hI1, ho1, hf1⟩ := hp1
  replace hs1 : st1 = [.int r1] := hs1
  subst st1
  have hJ1 : JK G x y o d (ca) n f co po (tm, r, w, aq, e, ob, sm, un, (nC, F), (nT, Ft)) sn (qn, qL, qd) c n g co po (tm, r, w, aq, e, ob, sm, un, (nC, F), (nT, Ft)) sn (qn, qL, qd) c Φ1 := ⟨hI1, JM.eq hJ.2.1 (fun k hk => hf1 (y + k) (fun j hj => (show False from hj).elim) (by have := hD.1; have := hD.2.1; have := hD.2.2; omega)), ho1, ⟨_, (hf1 d (fun j hj => (show False from hj).elim) (by have := hD.1; have := hD.2.1; have := hD.2.2; omega)).trans (Classical.choose_spec hJ.2.2.2.1)⟩, (hf1 (x + 1) (fun j hj => (show False from hj).elim) (by have := hD.1; have := hD.2.1; have := hD.2.2; omega)).trans hJ.2.2.2.2.1, (hf1 (x + 2) (fun j hj => (show False from hj).elim) (by have := hD.1; have := hD.2.1; have := hD.2.2; omega)).trans hJ.2.2.2.2.2.1, C24.eq hJ.2.2.2.2.2.2.1 (hf1 (x + 24) (fun j hj => (show False from hj).elim) (by have := hD.1; have := hD.2.1; have := hD.2.2; omega)), XC.eq hJ.2.2.2.2.2.2.2.1 (fun k9 q1 q2 => hf1 (x + k9) (fun j hj => (show False from hj).elim) (by have := hD.1; have := hD.2.1; have := hD.2.2; omega)), SQ.eq hJ.2.2.2.2.2.2.2.2.1 (fun k9 q1 q2 => hf1 (x + k9) (fun j hj => (show False from hj).elim) (by have := hD.1; have := hD.2.1; have := hD.2.2; omega)), CfC.eq hJ.2.2.2.2.2.2.2.2.2 (fun k9 q1 q2 => hf1 (x + k9) (fun j hj => (show False from hj).elim) (by have := hD.1; have := hD.2.1; have := hD.2.2; omega))⟩
  refine z_istore (lv' := [(6, .int r1), (5, .int (nI i)), (4, .ref d), (3, .ref o), (2, .ref y), (1, .ref x), (0, .ref b)]) B dL_law_943 (Nat.le_of_ble_eq_true rfl) rfl ?_
  refine z_aload_n B dL_law_945 rfl 4 rfl ?_
  refine z_aload_n B dL_law_946 rfl 6 rfl ?_
  refine z_iload B dL_law_947 1 rfl ?_
  refine z_iconst (v := 1) B dL_law_949 rfl ?_
  refine z_iadd B dL_law_950 ?_
  refine z_sald B hX hbn (vinL (n := 1) rfl (by omega) hL) dL_law_951 ?_
  obtain ⟨⟨rd, le, nx, kn, nu, va, st, th, hM⟩, hg0⟩ := hJ1.2.1
  obtain ⟨fs, hy0⟩ := JM.obj hJ1.2.1
  refine z_callV (As := [.int (xs (nI i + 1).toNatClampNeg)]) (rest := []) B (r_recordLengthC G l Φ1 sz1 y rd (CaQ nC F) (TpQ nT Ft) (TtQ nT Ft) (SiQ sn.1) (AtQ sn.2.1) (PtQ 0 (fun _ => 0)) (QlQ qn qL) nC 0 le nx n qn kn co nu va st po (nI tm) aq ob (nI w) r e sm un nT th sn.2.2.1 qd (sn.2.2.2.2.toInt64 &&& 4294967295) sn.2.2.2.1 c (xs (nI i + 1).toNatClampNeg) (by have := hD.1; omega) hM  ) (cwV 1 B.1.2.2.2.2 gL_law_X12_recordLength rfl rfl rfl (by decide +kernel) ⟨Nat.le_of_ble_eq_true rfl, Nat.le_of_ble_eq_true rfl⟩) hy0 rfl rfl rfl rfl (Nat.le_of_ble_eq_true rfl) dL_law_952 (rmL (by omega) (by omega) (by decide) (by decide)) (fun v2 Φ2 sz2 st2 hp2 hs2 => ?_)
  obtain ⟨⟨r2, th2, l2_, rfl, hth2, hAr2⟩, hz2, ⟨th1_, hM2⟩, hF2⟩ := hp2
  have hk9 := AnsR_fun hA1 hAr2 (fun hi9 _ => congrArg Int32.toInt64 (hCA0.ef2 hi9).2)
  have hg2 := (hF2 (y + 25) (fun j q hj => by replace hj : j = 0 := hj; have := hD.1; have := hD.2.1; have := hD.2.2; omega)).trans hg0
  subst sz2
  replace hs2 : st2 = [.int r2] := hs2
  subst st2
  have hJ2 : JK G x y o d (ca) n f co po (tm, r, w, aq, e, ob, sm, un, (nC, F), (nT, Ft)) sn (qn, qL, qd) c n g co po (tm, r, w, aq, e, ob, sm, un, (nC, F), (nT, Ft)) sn (qn, qL, qd) c Φ2 := ⟨In.eq hJ1.1 (fun k hk => hF2 (x + k) (fun j q hj => by replace hj : j = 0 := hj; have := hD.1; have := hD.2.1; have := hD.2.2; omega)), ⟨⟨_, _, _, _, _, _, _, _, hM2⟩, hg2⟩, ⟨_, (hF2 (o) (fun j q hj => by replace hj : j = 0 := hj; have := hD.1; have := hD.2.1; have := hD.2.2; omega)).trans (Classical.choose_spec hJ1.2.2.1)⟩, ⟨_, (hF2 (d) (fun j q hj => by replace hj : j = 0 := hj; have := hD.1; have := hD.2.1; have := hD.2.2; omega)).trans (Classical.choose_spec hJ1.2.2.2.1)⟩, (hF2 (x + 1) (fun j q hj => by replace hj : j = 0 := hj; have := hD.1; have := hD.2.1; have := hD.2.2; omega)).trans hJ1.2.2.2.2.1, (hF2 (x + 2) (fun j q hj => by replace hj : j = 0 := hj; have := hD.1; have := hD.2.1; have := hD.2.2; omega)).trans hJ1.2.2.2.2.2.1, C24.eq hJ1.2.2.2.2.2.2.1 (hF2 (x + 24) (fun j q hj => by replace hj : j = 0 := hj; have := hD.1; have := hD.2.1; have := hD.2.2; omega)), XC.eq hJ1.2.2.2.2.2.2.2.1 (fun k9 q1 q2 => hF2 (x + k9) (fun j q hj => by replace hj : j = 0 := hj; have := hD.1; have := hD.2.1; have := hD.2.2; omega)), SQ.eq hJ1.2.2.2.2.2.2.2.2.1 (fun k9 q1 q2 => hF2 (x + k9) (fun j q hj => by replace hj : j = 0 := hj; have := hD.1; have := hD.2.1; have := hD.2.2; omega)), CfC.eq hJ1.2.2.2.2.2.2.2.2.2 (fun k9 q1 q2 => hF2 (x + k9) (fun j q hj => by replace hj : j = 0 := hj; have := hD.1; have := hD.2.1; have := hD.2.2; omega))⟩
  have ho2 := (hF2 (o) (fun j q hj => by replace hj : j = 0 := hj; have := hD.1; have := hD.2.1; have := hD.2.2; omega)).trans hv1
  refine z_istore (lv' := [(7, .int r2), (6, .int r1), (5, .int (nI i)), (4, .ref d), (3, .ref o), (2, .ref y), (1, .ref x), (0, .ref b)]) B dL_law_955 (Nat.le_of_ble_eq_true rfl) rfl ?_
  refine z_goto (tgt := 2001) B dL_law_957 rfl ?_
  refine z_lv [2, 3, 4, 5, 6, 7] rfl ?_
  refine z_widen (k := cells + 2) (n := slots + 12) (by omega) (by omega) ?_
  exact hT _ hd0 Φ2 sz1 (JJ.of (JK.up hJ2 (by omega)) hG rfl rfl rfl rfl rfl rfl rfl hEq)

set_option maxHeartbeats 4000000 in
set_option maxRecDepth 100000 in
theorem lc_22 {p9 : Program} {e9 : Env} {s9 : State} {m9 : MethodId} {a9 : Array Value} {w9 : List Frame} {t9 : Method} {k9 : Code} {Q9 : State → Prop} {nm9 : String} (G : EnvG) (l : Launch) (hl9 : l.stackTraces = false) {d0 : Drawn} (hd0 : s9.drawn.sameBut d0 lw_cs) (B : Bd p9 (s9.setDrawn d0) m9 a9 t9 k9 G code 9 RL wsL_law ret nm9) (Φ : Hm) (sz b L i : Nat) (xs : Nat → Int32) (hX : va_X b L xs (s9.setDrawn d0) (s9.setDrawn d0).heap) (hbn : b < G.2.2.2) (hL : L ≤ 3584) (hi : i + 7 ≤ L) (x y o d ca cells slots : Nat) (hna : G.2.2.2 ≤ x) (hD : Ds x y o d) (hca : ca ≤ 10000) (hcl : cells ≤ 8000) (hsl : slots ≤ 80000) (hJ : JJ G x y o d ca Φ) (hT : ∀ (d1 : Drawn), s9.drawn.sameBut d1 lw_cs → ∀ (Φ1 : Hm) (sz1 : Nat), JJ G x y o d (ca + 12) Φ1 → Z p9 l e9 room_1 (s9.setDrawn d1) m9 a9 w9 t9 k9 Q9 G 9 2001 [(5, .int (nI i)), (4, .ref d), (3, .ref o), (2, .ref y), (1, .ref x), (0, .ref b)] [] Φ1 sz1 (cells + 2) (slots + 12)) : Z p9 l e9 room_1 (s9.setDrawn d0) m9 a9 w9 t9 k9 Q9 G 9 960 [(5, .int (nI i)), (4, .ref d), (3, .ref o), (2, .ref y), (1, .ref x), (0, .ref b)] [] Φ sz cells slots := by
  obtain ⟨n, f, g, co, po, ⟨tm, r, w, aq, e, ob, sm, un, ⟨nC, F⟩, nT, Ft⟩, sn, ⟨qn, qL, qd⟩, c, hJ, hG, hEq⟩ := hJ
  have hq12 : qn ≤ 12 := SQ.le hJ.2.2.2.2.2.2.2.2.1
  obtain ⟨t7, s7, hCA7⟩ := hJ.2.2.2.2.2.2.2.2.2
  have hW7 := CfA.W hCA7 hG
  have hR7 := CfA.R hCA7 hG
  refine z_aload_n B dL_law_960 rfl 4 rfl ?_
  refine z_aload_n B dL_law_961 rfl 5 rfl ?_
  refine z_iload B dL_law_962 0 rfl ?_
  refine z_iconst (v := 1) B dL_law_964 rfl ?_
  refine z_iadd B dL_law_965 ?_
  refine z_sald B hX hbn (vinL (n := 1) rfl (by omega) hL) dL_law_966 ?_
  refine z_aload_n B dL_law_967 rfl 5 rfl ?_
  refine z_iload B dL_law_968 0 rfl ?_
  refine z_iconst (v := 2) B dL_law_970 rfl ?_
  refine z_iadd B dL_law_971 ?_
  refine z_sald B hX hbn (vinL (n := 2) rfl (by omega) hL) dL_law_972 ?_
  refine z_if_eq (tgt := 980) B dL_law_973 rfl (fun c_1 => ?_) (fun c_1 => ?_)
  · refine z_iconst (v := 0) B dL_law_980 rfl ?_
    refine z_aload_n B dL_law_981 rfl 2 rfl ?_
    obtain ⟨fo, hco⟩ := hJ.2.2.1
    obtain ⟨t0, s0, hCA0⟩ := hJ.2.2.2.2.2.2.2.2.2
    have hS0 := hJ.2.2.2.2.2.2.2.2.1
    have hX0 := hJ.2.2.2.2.2.2.2.1
    refine z_callSW (As := [.ref x, .int (xs (nI i + 1).toNatClampNeg), .int 0, .ref o]) (rest := []) B (w_setSupport G l hl9 Φ sz x ca tm r w aq e ob sm un nC F nT Ft sn qn qL qd t0 s0 c (xs (nI i + 1).toNatClampNeg) 0 o fo hna (by have := hD.1; have := hD.2.1; have := hD.2.2; omega) (fun j hj => by have := hD.1; have := hD.2.1; have := hD.2.2; omega) hJ.1 hco hX0 hS0 hCA0 hG (JK.aq hJ) (by decide)) (vx_cwSW 4 B.1.2.2.2.2 gL_law_L_setSupport rfl rfl rfl (by decide +kernel) ⟨Nat.le_of_ble_eq_true rfl, Nat.le_of_ble_eq_true rfl⟩) rfl rfl (Nat.le_of_ble_eq_true rfl) dL_law_982 (rmL (by omega) (by omega) (by decide) (by decide)) (fun v1 Φ1 sz1 st1 hp1 hs1 => ?_)
    obtain ⟨⟨r1, fo1_, rfl, hv1, hA1, ⟨s8_, hC8_⟩, a8_, hS1, hL1⟩, hI1, ho1, hf1⟩ := hp1
    replace hs1 : st1 = [.int r1] := hs1
    subst st1
    have hJ1 : JK G x y o d (ca) n f co po (tm, r, w, aq, e, ob, sm, un, (nC, F), (nT, Ft)) (a8_, sn.2) (qn, qL, qd) (suW c (xs (nI i + 1).toNatClampNeg) 0) n g co po (tm, r, w, aq, e, ob, sm, un, (nC, F), (nT, Ft)) sn (qn, qL, qd) c Φ1 := ⟨hI1, JM.eq hJ.2.1 (fun k hk => hf1 (y + k) (fun j hj => by replace hj : (3 ≤ j ∧ j < 24) ∨ j = 78 := hj; have := hD.1; have := hD.2.1; have := hD.2.2; omega) (by have := hD.1; have := hD.2.1; have := hD.2.2; omega)), ho1, ⟨_, (hf1 d (fun j hj => by replace hj : (3 ≤ j ∧ j < 24) ∨ j = 78 := hj; have := hD.1; have := hD.2.1; have := hD.2.2; omega) (by have := hD.1; have := hD.2.1; have := hD.2.2; omega)).trans (Classical.choose_spec hJ.2.2.2.1)⟩, (hf1 (x + 1) (fun j hj => by replace hj : (3 ≤ j ∧ j < 24) ∨ j = 78 := hj; have := hD.1; have := hD.2.1; have := hD.2.2; omega) (by have := hD.1; have := hD.2.1; have := hD.2.2; omega)).trans hJ.2.2.2.2.1, (hf1 (x + 2) (fun j hj => by replace hj : (3 ≤ j ∧ j < 24) ∨ j = 78 := hj; have := hD.1; have := hD.2.1; have := hD.2.2; omega) (by have := hD.1; have := hD.2.1; have := hD.2.2; omega)).trans hJ.2.2.2.2.2.1, C24.eq hJ.2.2.2.2.2.2.1 (hf1 (x + 24) (fun j hj => by replace hj : (3 ≤ j ∧ j < 24) ∨ j = 78 := hj; have := hD.1; have := hD.2.1; have := hD.2.2; omega) (by have := hD.1; have := hD.2.1; have := hD.2.2; omega)), XC.eq hJ.2.2.2.2.2.2.2.1 (fun k9 q1 q2 => hf1 (x + k9) (fun j hj => by replace hj : (3 ≤ j ∧ j < 24) ∨ j = 78 := hj; have := hD.1; have := hD.2.1; have := hD.2.2; omega) (by have := hD.1; have := hD.2.1; have := hD.2.2; omega)), hS1, ⟨_, _, hC8_⟩⟩
    refine z_istore (lv' := [(6, .int r1), (5, .int (nI i)), (4, .ref d), (3, .ref o), (2, .ref y), (1, .ref x), (0, .ref b)]) B dL_law_985 (Nat.le_of_ble_eq_true rfl) rfl ?_
    refine z_aload_n B dL_law_987 rfl 4 rfl ?_
    refine z_aload_n B dL_law_988 rfl 6 rfl ?_
    refine z_iload B dL_law_989 1 rfl ?_
    refine z_iconst (v := 1) B dL_law_991 rfl ?_
    refine z_iadd B dL_law_992 ?_
    refine z_sald B hX hbn (vinL (n := 1) rfl (by omega) hL) dL_law_993 ?_
    refine z_aload_n B dL_law_994 rfl 6 rfl ?_
    refine z_iload B dL_law_995 1 rfl ?_
    refine z_iconst (v := 2) B dL_law_997 rfl ?_
    refine z_iadd B dL_law_998 ?_
    refine z_sald B hX hbn (vinL (n := 2) rfl (by omega) hL) dL_law_999 ?_
    refine z_if_eq (tgt := 1007) B dL_law_1000 rfl (fun _ => ?_) (fun h9 => absurd c_1 h9)
    refine z_iconst (v := 0) B dL_law_1007 rfl ?_
    obtain ⟨⟨rd, le, nx, kn, nu, va, st, th, hM⟩, hg0⟩ := hJ1.2.1
    obtain ⟨fs, hy0⟩ := JM.obj hJ1.2.1
    refine z_callV (As := [.int (xs (nI i + 1).toNatClampNeg), .int 0]) (rest := []) B (r_setSupportC G l Φ1 sz1 y rd (CaQ nC F) (TpQ nT Ft) (TtQ nT Ft) (AtQ sn.2.1) (PtQ 0 (fun _ => 0)) (QlQ qn qL) nC 0 le nx n qn kn co nu va st po (nI tm) aq ob (nI w) r e sm un nT th sn.2.2.1 qd (sn.2.2.2.2.toInt64 &&& 4294967295) sn.2.2.2.1 c sn.1 (xs (nI i + 1).toNatClampNeg) 0 (by have := hD.1; omega) hM  (by decide) hG) (cwV 2 B.1.2.2.2.2 gL_law_X12_setSupport rfl rfl rfl (by decide +kernel) ⟨Nat.le_of_ble_eq_true rfl, Nat.le_of_ble_eq_true rfl⟩) hy0 rfl rfl rfl rfl (Nat.le_of_ble_eq_true rfl) dL_law_1008 (rmL (by omega) (by omega) (by decide) (by decide)) (fun v2 Φ2 sz2 st2 hp2 hs2 => ?_)
    obtain ⟨⟨r2, rfl⟩, hz2, ⟨cf1_, fa1_, th1_, hR2_0, hR2_1, hM2⟩, hF2⟩ := hp2
    obtain ⟨th2, l2_, hth2, hAr2, hbw2, hcw2⟩ := fin_su hR2_0
    have hk9 := AnsR_fun hA1 hAr2 (fun _ _ => rfl)
    have hg2 := (hF2 (y + 25) (fun j q hj => by replace hj : j = 0 ∨ j = 2 ∨ j = 3 := hj; have := hD.1; have := hD.2.1; have := hD.2.2; omega)).trans hg0
    subst sz2
    replace hs2 : st2 = [.int r2] := hs2
    subst st2
    have hJ2 : JK G x y o d (ca) n f co po (tm, r, w, aq, e, ob, sm, un, (nC, F), (nT, Ft)) (a8_, sn.2) (qn, qL, qd) (suW c (xs (nI i + 1).toNatClampNeg) 0) n g co po (tm, r, w, aq, e, ob, sm, un, (nC, F), (nT, Ft)) (a8_, sn.2) (qn, qL, qd) cf1_ Φ2 := ⟨In.eq hJ1.1 (fun k hk => hF2 (x + k) (fun j q hj => by replace hj : j = 0 ∨ j = 2 ∨ j = 3 := hj; have := hD.1; have := hD.2.1; have := hD.2.2; omega)), ⟨⟨_, _, _, _, _, _, _, _, (Im.weak5 hM2 (fun _ q9 => q9) (fun _ q9 => q9) (fun _ q9 => q9) (fun _ q9 => q9) (fun _ q9 => q9) (su_ch hR2_1 hL1) (fun _ q9 => q9) (fun _ q9 => q9) (fun _ q9 => q9))⟩, hg2⟩, ⟨_, (hF2 (o) (fun j q hj => by replace hj : j = 0 ∨ j = 2 ∨ j = 3 := hj; have := hD.1; have := hD.2.1; have := hD.2.2; omega)).trans (Classical.choose_spec hJ1.2.2.1)⟩, ⟨_, (hF2 (d) (fun j q hj => by replace hj : j = 0 ∨ j = 2 ∨ j = 3 := hj; have := hD.1; have := hD.2.1; have := hD.2.2; omega)).trans (Classical.choose_spec hJ1.2.2.2.1)⟩, (hF2 (x + 1) (fun j q hj => by replace hj : j = 0 ∨ j = 2 ∨ j = 3 := hj; have := hD.1; have := hD.2.1; have := hD.2.2; omega)).trans hJ1.2.2.2.2.1, (hF2 (x + 2) (fun j q hj => by replace hj : j = 0 ∨ j = 2 ∨ j = 3 := hj; have := hD.1; have := hD.2.1; have := hD.2.2; omega)).trans hJ1.2.2.2.2.2.1, C24.eq hJ1.2.2.2.2.2.2.1 (hF2 (x + 24) (fun j q hj => by replace hj : j = 0 ∨ j = 2 ∨ j = 3 := hj; have := hD.1; have := hD.2.1; have := hD.2.2; omega)), XC.eq hJ1.2.2.2.2.2.2.2.1 (fun k9 q1 q2 => hF2 (x + k9) (fun j q hj => by replace hj : j = 0 ∨ j = 2 ∨ j = 3 := hj; have := hD.1; have := hD.2.1; have := hD.2.2; omega)), SQ.eq hJ1.2.2.2.2.2.2.2.2.1 (fun k9 q1 q2 => hF2 (x + k9) (fun j q hj => by replace hj : j = 0 ∨ j = 2 ∨ j = 3 := hj; have := hD.1; have := hD.2.1; have := hD.2.2; omega)), CfC.eq hJ1.2.2.2.2.2.2.2.2.2 (fun k9 q1 q2 => hF2 (x + k9) (fun j q hj => by replace hj : j = 0 ∨ j = 2 ∨ j = 3 := hj; have := hD.1; have := hD.2.1; have := hD.2.2; omega))⟩
    have ho2 := (hF2 (o) (fun j q hj => by replace hj : j = 0 ∨ j = 2 ∨ j = 3 := hj; have := hD.1; have := hD.2.1; have := hD.2.2; omega)).trans hv1
    refine z_istore (lv' := [(7, .int r2), (6, .int r1), (5, .int (nI i)), (4, .ref d), (3, .ref o), (2, .ref y), (1, .ref x), (0, .ref b)]) B dL_law_1011 (Nat.le_of_ble_eq_true rfl) rfl ?_
    refine z_goto (tgt := 2001) B dL_law_1013 rfl ?_
    refine z_lv [2, 3, 4, 5, 6, 7] rfl ?_
    refine z_widen (k := cells + 2) (n := slots + 12) (by omega) (by omega) ?_
    exact hT _ hd0 Φ2 sz1 (JJ.of (JK.up hJ2 (by omega)) (suW_G hG) rfl rfl rfl rfl rfl rfl hcw2 hEq)
  · refine z_iconst (v := 1) B dL_law_976 rfl ?_
    refine z_goto (tgt := 981) B dL_law_977 rfl ?_
    refine z_aload_n B dL_law_981 rfl 2 rfl ?_
    obtain ⟨fo, hco⟩ := hJ.2.2.1
    obtain ⟨t0, s0, hCA0⟩ := hJ.2.2.2.2.2.2.2.2.2
    have hS0 := hJ.2.2.2.2.2.2.2.2.1
    have hX0 := hJ.2.2.2.2.2.2.2.1
    refine z_callSW (As := [.ref x, .int (xs (nI i + 1).toNatClampNeg), .int 1, .ref o]) (rest := []) B (w_setSupport G l hl9 Φ sz x ca tm r w aq e ob sm un nC F nT Ft sn qn qL qd t0 s0 c (xs (nI i + 1).toNatClampNeg) 1 o fo hna (by have := hD.1; have := hD.2.1; have := hD.2.2; omega) (fun j hj => by have := hD.1; have := hD.2.1; have := hD.2.2; omega) hJ.1 hco hX0 hS0 hCA0 hG (JK.aq hJ) (by decide)) (vx_cwSW 4 B.1.2.2.2.2 gL_law_L_setSupport rfl rfl rfl (by decide +kernel) ⟨Nat.le_of_ble_eq_true rfl, Nat.le_of_ble_eq_true rfl⟩) rfl rfl (Nat.le_of_ble_eq_true rfl) dL_law_982 (rmL (by omega) (by omega) (by decide) (by decide)) (fun v1 Φ1 sz1 st1 hp1 hs1 => ?_)
    obtain ⟨⟨r1, fo1_, rfl, hv1, hA1, ⟨s8_, hC8_⟩, a8_, hS1, hL1⟩, hI1, ho1, hf1⟩ := hp1
    replace hs1 : st1 = [.int r1] := hs1
    subst st1
    have hJ1 : JK G x y o d (ca) n f co po (tm, r, w, aq, e, ob, sm, un, (nC, F), (nT, Ft)) (a8_, sn.2) (qn, qL, qd) (suW c (xs (nI i + 1).toNatClampNeg) 1) n g co po (tm, r, w, aq, e, ob, sm, un, (nC, F), (nT, Ft)) sn (qn, qL, qd) c Φ1 := ⟨hI1, JM.eq hJ.2.1 (fun k hk => hf1 (y + k) (fun j hj => by replace hj : (3 ≤ j ∧ j < 24) ∨ j = 78 := hj; have := hD.1; have := hD.2.1; have := hD.2.2; omega) (by have := hD.1; have := hD.2.1; have := hD.2.2; omega)), ho1, ⟨_, (hf1 d (fun j hj => by replace hj : (3 ≤ j ∧ j < 24) ∨ j = 78 := hj; have := hD.1; have := hD.2.1; have := hD.2.2; omega) (by have := hD.1; have := hD.2.1; have := hD.2.2; omega)).trans (Classical.choose_spec hJ.2.2.2.1)⟩, (hf1 (x + 1) (fun j hj => by replace hj : (3 ≤ j ∧ j < 24) ∨ j = 78 := hj; have := hD.1; have := hD.2.1; have := hD.2.2; omega) (by have := hD.1; have := hD.2.1; have := hD.2.2; omega)).trans hJ.2.2.2.2.1, (hf1 (x + 2) (fun j hj => by replace hj : (3 ≤ j ∧ j < 24) ∨ j = 78 := hj; have := hD.1; have := hD.2.1; have := hD.2.2; omega) (by have := hD.1; have := hD.2.1; have := hD.2.2; omega)).trans hJ.2.2.2.2.2.1, C24.eq hJ.2.2.2.2.2.2.1 (hf1 (x + 24) (fun j hj => by replace hj : (3 ≤ j ∧ j < 24) ∨ j = 78 := hj; have := hD.1; have := hD.2.1; have := hD.2.2; omega) (by have := hD.1; have := hD.2.1; have := hD.2.2; omega)), XC.eq hJ.2.2.2.2.2.2.2.1 (fun k9 q1 q2 => hf1 (x + k9) (fun j hj => by replace hj : (3 ≤ j ∧ j < 24) ∨ j = 78 := hj; have := hD.1; have := hD.2.1; have := hD.2.2; omega) (by have := hD.1; have := hD.2.1; have := hD.2.2; omega)), hS1, ⟨_, _, hC8_⟩⟩
    refine z_istore (lv' := [(6, .int r1), (5, .int (nI i)), (4, .ref d), (3, .ref o), (2, .ref y), (1, .ref x), (0, .ref b)]) B dL_law_985 (Nat.le_of_ble_eq_true rfl) rfl ?_
    refine z_aload_n B dL_law_987 rfl 4 rfl ?_
    refine z_aload_n B dL_law_988 rfl 6 rfl ?_
    refine z_iload B dL_law_989 1 rfl ?_
    refine z_iconst (v := 1) B dL_law_991 rfl ?_
    refine z_iadd B dL_law_992 ?_
    refine z_sald B hX hbn (vinL (n := 1) rfl (by omega) hL) dL_law_993 ?_
    refine z_aload_n B dL_law_994 rfl 6 rfl ?_
    refine z_iload B dL_law_995 1 rfl ?_
    refine z_iconst (v := 2) B dL_law_997 rfl ?_
    refine z_iadd B dL_law_998 ?_
    refine z_sald B hX hbn (vinL (n := 2) rfl (by omega) hL) dL_law_999 ?_
    refine z_if_eq (tgt := 1007) B dL_law_1000 rfl (fun h9 => absurd h9 c_1) (fun _ => ?_)
    refine z_iconst (v := 1) B dL_law_1003 rfl ?_
    refine z_goto (tgt := 1008) B dL_law_1004 rfl ?_
    obtain ⟨⟨rd, le, nx, kn, nu, va, st, th, hM⟩, hg0⟩ := hJ1.2.1
    obtain ⟨fs, hy0⟩ := JM.obj hJ1.2.1
    refine z_callV (As := [.int (xs (nI i + 1).toNatClampNeg), .int 1]) (rest := []) B (r_setSupportC G l Φ1 sz1 y rd (CaQ nC F) (TpQ nT Ft) (TtQ nT Ft) (AtQ sn.2.1) (PtQ 0 (fun _ => 0)) (QlQ qn qL) nC 0 le nx n qn kn co nu va st po (nI tm) aq ob (nI w) r e sm un nT th sn.2.2.1 qd (sn.2.2.2.2.toInt64 &&& 4294967295) sn.2.2.2.1 c sn.1 (xs (nI i + 1).toNatClampNeg) 1 (by have := hD.1; omega) hM  (by decide) hG) (cwV 2 B.1.2.2.2.2 gL_law_X12_setSupport rfl rfl rfl (by decide +kernel) ⟨Nat.le_of_ble_eq_true rfl, Nat.le_of_ble_eq_true rfl⟩) hy0 rfl rfl rfl rfl (Nat.le_of_ble_eq_true rfl) dL_law_1008 (rmL (by omega) (by omega) (by decide) (by decide)) (fun v2 Φ2 sz2 st2 hp2 hs2 => ?_)
    obtain ⟨⟨r2, rfl⟩, hz2, ⟨cf1_, fa1_, th1_, hR2_0, hR2_1, hM2⟩, hF2⟩ := hp2
    obtain ⟨th2, l2_, hth2, hAr2, hbw2, hcw2⟩ := fin_su hR2_0
    have hk9 := AnsR_fun hA1 hAr2 (fun _ _ => rfl)
    have hg2 := (hF2 (y + 25) (fun j q hj => by replace hj : j = 0 ∨ j = 2 ∨ j = 3 := hj; have := hD.1; have := hD.2.1; have := hD.2.2; omega)).trans hg0
    subst sz2
    replace hs2 : st2 = [.int r2] := hs2
    subst st2
    have hJ2 : JK G x y o d (ca) n f co po (tm, r, w, aq, e, ob, sm, un, (nC, F), (nT, Ft)) (a8_, sn.2) (qn, qL, qd) (suW c (xs (nI i + 1).toNatClampNeg) 1) n g co po (tm, r, w, aq, e, ob, sm, un, (nC, F), (nT, Ft)) (a8_, sn.2) (qn, qL, qd) cf1_ Φ2 := ⟨In.eq hJ1.1 (fun k hk => hF2 (x + k) (fun j q hj => by replace hj : j = 0 ∨ j = 2 ∨ j = 3 := hj; have := hD.1; have := hD.2.1; have := hD.2.2; omega)), ⟨⟨_, _, _, _, _, _, _, _, (Im.weak5 hM2 (fun _ q9 => q9) (fun _ q9 => q9) (fun _ q9 => q9) (fun _ q9 => q9) (fun _ q9 => q9) (su_ch hR2_1 hL1) (fun _ q9 => q9) (fun _ q9 => q9) (fun _ q9 => q9))⟩, hg2⟩, ⟨_, (hF2 (o) (fun j q hj => by replace hj : j = 0 ∨ j = 2 ∨ j = 3 := hj; have := hD.1; have := hD.2.1; have := hD.2.2; omega)).trans (Classical.choose_spec hJ1.2.2.1)⟩, ⟨_, (hF2 (d) (fun j q hj => by replace hj : j = 0 ∨ j = 2 ∨ j = 3 := hj; have := hD.1; have := hD.2.1; have := hD.2.2; omega)).trans (Classical.choose_spec hJ1.2.2.2.1)⟩, (hF2 (x + 1) (fun j q hj => by replace hj : j = 0 ∨ j = 2 ∨ j = 3 := hj; have := hD.1; have := hD.2.1; have := hD.2.2; omega)).trans hJ1.2.2.2.2.1, (hF2 (x + 2) (fun j q hj => by replace hj : j = 0 ∨ j = 2 ∨ j = 3 := hj; have := hD.1; have := hD.2.1; have := hD.2.2; omega)).trans hJ1.2.2.2.2.2.1, C24.eq hJ1.2.2.2.2.2.2.1 (hF2 (x + 24) (fun j q hj => by replace hj : j = 0 ∨ j = 2 ∨ j = 3 := hj; have := hD.1; have := hD.2.1; have := hD.2.2; omega)), XC.eq hJ1.2.2.2.2.2.2.2.1 (fun k9 q1 q2 => hF2 (x + k9) (fun j q hj => by replace hj : j = 0 ∨ j = 2 ∨ j = 3 := hj; have := hD.1; have := hD.2.1; have := hD.2.2; omega)), SQ.eq hJ1.2.2.2.2.2.2.2.2.1 (fun k9 q1 q2 => hF2 (x + k9) (fun j q hj => by replace hj : j = 0 ∨ j = 2 ∨ j = 3 := hj; have := hD.1; have := hD.2.1; have := hD.2.2; omega)), CfC.eq hJ1.2.2.2.2.2.2.2.2.2 (fun k9 q1 q2 => hF2 (x + k9) (fun j q hj => by replace hj : j = 0 ∨ j = 2 ∨ j = 3 := hj; have := hD.1; have := hD.2.1; have := hD.2.2; omega))⟩
    have ho2 := (hF2 (o) (fun j q hj => by replace hj : j = 0 ∨ j = 2 ∨ j = 3 := hj; have := hD.1; have := hD.2.1; have := hD.2.2; omega)).trans hv1
    refine z_istore (lv' := [(7, .int r2), (6, .int r1), (5, .int (nI i)), (4, .ref d), (3, .ref o), (2, .ref y), (1, .ref x), (0, .ref b)]) B dL_law_1011 (Nat.le_of_ble_eq_true rfl) rfl ?_
    refine z_goto (tgt := 2001) B dL_law_1013 rfl ?_
    refine z_lv [2, 3, 4, 5, 6, 7] rfl ?_
    refine z_widen (k := cells + 2) (n := slots + 12) (by omega) (by omega) ?_
    exact hT _ hd0 Φ2 sz1 (JJ.of (JK.up hJ2 (by omega)) (suW_G hG) rfl rfl rfl rfl rfl rfl hcw2 hEq)

set_option maxHeartbeats 4000000 in
set_option maxRecDepth 100000 in
theorem lc_23 {p9 : Program} {e9 : Env} {s9 : State} {m9 : MethodId} {a9 : Array Value} {w9 : List Frame} {t9 : Method} {k9 : Code} {Q9 : State → Prop} {nm9 : String} (G : EnvG) (l : Launch) (hl9 : l.stackTraces = false) {d0 : Drawn} (hd0 : s9.drawn.sameBut d0 lw_cs) (B : Bd p9 (s9.setDrawn d0) m9 a9 t9 k9 G code 9 RL wsL_law ret nm9) (Φ : Hm) (sz b L i : Nat) (xs : Nat → Int32) (hX : va_X b L xs (s9.setDrawn d0) (s9.setDrawn d0).heap) (hbn : b < G.2.2.2) (hL : L ≤ 3584) (hi : i + 7 ≤ L) (x y o d ca cells slots : Nat) (hna : G.2.2.2 ≤ x) (hD : Ds x y o d) (hca : ca ≤ 10000) (hcl : cells ≤ 8000) (hsl : slots ≤ 80000) (hJ : JJ G x y o d ca Φ) (hT : ∀ (d1 : Drawn), s9.drawn.sameBut d1 lw_cs → ∀ (Φ1 : Hm) (sz1 : Nat), JJ G x y o d (ca + 12) Φ1 → Z p9 l e9 room_1 (s9.setDrawn d1) m9 a9 w9 t9 k9 Q9 G 9 2001 [(5, .int (nI i)), (4, .ref d), (3, .ref o), (2, .ref y), (1, .ref x), (0, .ref b)] [] Φ1 sz1 (cells + 2) (slots + 12)) : Z p9 l e9 room_1 (s9.setDrawn d0) m9 a9 w9 t9 k9 Q9 G 9 1016 [(5, .int (nI i)), (4, .ref d), (3, .ref o), (2, .ref y), (1, .ref x), (0, .ref b)] [] Φ sz cells slots := by
  obtain ⟨n, f, g, co, po, ⟨tm, r, w, aq, e, ob, sm, un, ⟨nC, F⟩, nT, Ft⟩, sn, ⟨qn, qL, qd⟩, c, hJ, hG, hEq⟩ := hJ
  have hq12 : qn ≤ 12 := SQ.le hJ.2.2.2.2.2.2.2.2.1
  obtain ⟨t7, s7, hCA7⟩ := hJ.2.2.2.2.2.2.2.2.2
  have hW7 := CfA.W hCA7 hG
  have hR7 := CfA.R hCA7 hG
  refine z_aload_n B dL_law_1016 rfl 4 rfl ?_
  have h0 : Φ x = some (o_ 13 [.ref (x + 1), .ref (x + 3), .ref (x + 24), .ref (x + 46), .ref (x + 74), .ref (x + 80), .ref (x + 132), .ref (x + 121)]) := in0 (k := 0) hJ.1 rfl
  have hSQ0 := hJ.2.2.2.2.2.2.2.2.1
  obtain ⟨hSd0, qp0, hQ0_⟩ := hSQ0
  have hQ0 : QbR G x qn qL qd qp0 Φ := hQ0_
  refine z_callV (As := []) (rest := []) B (s_X11_requestTemplatesX G l Φ sz x ca c sn hna hJ.1 hSd0 ) (cwV 0 B.1.2.2.2.2 gL_law_X11_requestTemplates rfl rfl rfl (by decide +kernel) ⟨Nat.le_of_ble_eq_true rfl, Nat.le_of_ble_eq_true rfl⟩) h0 rfl rfl rfl rfl (Nat.le_of_ble_eq_true rfl) dL_law_1017 (rmL (by omega) (by omega) (by decide) (by decide)) (fun v1 Φ1 sz1 st1 hp1 hs1 => ?_)
  obtain ⟨⟨rfl, hSd1⟩, hz1, hI1, hF1⟩ := hp1
  subst sz1
  replace hs1 : st1 = [] := hs1
  subst st1
  have hJ1 : JK G x y o d (ca) n f co po (tm, r, w, aq, e, ob, sm, un, (nC, F), (nT, Ft)) ((fun _ => 0), sn.2) (qn, qL, qd) c n g co po (tm, r, w, aq, e, ob, sm, un, (nC, F), (nT, Ft)) sn (qn, qL, qd) c Φ1 := ⟨hI1, JM.eq hJ.2.1 (fun k hk => hF1 (y + k) (fun j q hj => by replace hj : j = 78 := hj; have := hD.1; have := hD.2.1; have := hD.2.2; omega)), ⟨_, (hF1 (o) (fun j q hj => by replace hj : j = 78 := hj; have := hD.1; have := hD.2.1; have := hD.2.2; omega)).trans (Classical.choose_spec hJ.2.2.1)⟩, ⟨_, (hF1 (d) (fun j q hj => by replace hj : j = 78 := hj; have := hD.1; have := hD.2.1; have := hD.2.2; omega)).trans (Classical.choose_spec hJ.2.2.2.1)⟩, (hF1 (x + 1) (fun j q hj => by replace hj : j = 78 := hj; have := hD.1; have := hD.2.1; have := hD.2.2; omega)).trans hJ.2.2.2.2.1, (hF1 (x + 2) (fun j q hj => by replace hj : j = 78 := hj; have := hD.1; have := hD.2.1; have := hD.2.2; omega)).trans hJ.2.2.2.2.2.1, C24.eq hJ.2.2.2.2.2.2.1 (hF1 (x + 24) (fun j q hj => by replace hj : j = 78 := hj; have := hD.1; have := hD.2.1; have := hD.2.2; omega)), XC.eq hJ.2.2.2.2.2.2.2.1 (fun k9 q1 q2 => hF1 (x + k9) (fun j q hj => by replace hj : j = 78 := hj; have := hD.1; have := hD.2.1; have := hD.2.2; omega)), (SQ.mq hSd1 hSQ0 (fun j9 q1 q2 => hF1 (x + j9) (fun j q hj => by replace hj : j = 78 := hj; have := hD.1; have := hD.2.1; have := hD.2.2; omega))), CfC.eq hJ.2.2.2.2.2.2.2.2.2 (fun k9 q1 q2 => hF1 (x + k9) (fun j q hj => by replace hj : j = 78 := hj; have := hD.1; have := hD.2.1; have := hD.2.2; omega))⟩
  refine z_aload_n B dL_law_1020 rfl 3 rfl ?_
  obtain ⟨⟨rd, le, nx, kn, nu, va, st, th, hM⟩, hg0⟩ := hJ1.2.1
  obtain ⟨fs, hy0⟩ := JM.obj hJ1.2.1
  refine z_callV (As := []) (rest := []) B (r_requestTemplates G l Φ1 sz y rd (NNq c) (CaQ nC F) (TpQ nT Ft) (TtQ nT Ft) (SiQ sn.1) (AtQ sn.2.1) (PtQ 0 (fun _ => 0)) (QlQ qn qL) nC 0 le nx n qn kn co nu va st po (nI tm) aq ob (nI w) r e sm un nT th sn.2.2.1 qd (sn.2.2.2.2.toInt64 &&& 4294967295) sn.2.2.2.1   (by have := hD.1; omega) hM  (fun f9 h9 => h9.1)) (cwV 0 B.1.2.2.2.2 gL_law_X12_requestTemplates rfl rfl rfl (by decide +kernel) ⟨Nat.le_of_ble_eq_true rfl, Nat.le_of_ble_eq_true rfl⟩) hy0 rfl rfl rfl rfl (Nat.le_of_ble_eq_true rfl) dL_law_1021 (rmL (by omega) (by omega) (by decide) (by decide)) (fun v2 Φ2 sz2 st2 hp2 hs2 => ?_)
  obtain ⟨rfl, hz2, ⟨th1_, hM2⟩, hF2⟩ := hp2
  have hg2 := (hF2 (y + 25) (fun j q hj => by replace hj : j = 0 ∨ j = 3 := hj; have := hD.1; have := hD.2.1; have := hD.2.2; omega)).trans hg0
  subst sz2
  replace hs2 : st2 = [] := hs2
  subst st2
  have hJ2 : JK G x y o d (ca) n f co po (tm, r, w, aq, e, ob, sm, un, (nC, F), (nT, Ft)) ((fun _ => 0), sn.2) (qn, qL, qd) c n g co po (tm, r, w, aq, e, ob, sm, un, (nC, F), (nT, Ft)) ((fun _ => 0), sn.2.1, sn.2.2.1, sn.2.2.2.1, sn.2.2.2.2) (qn, qL, qd) c Φ2 := ⟨In.eq hJ1.1 (fun k hk => hF2 (x + k) (fun j q hj => by replace hj : j = 0 ∨ j = 3 := hj; have := hD.1; have := hD.2.1; have := hD.2.2; omega)), ⟨⟨_, _, _, _, _, _, _, _, hM2⟩, hg2⟩, ⟨_, (hF2 (o) (fun j q hj => by replace hj : j = 0 ∨ j = 3 := hj; have := hD.1; have := hD.2.1; have := hD.2.2; omega)).trans (Classical.choose_spec hJ1.2.2.1)⟩, ⟨_, (hF2 (d) (fun j q hj => by replace hj : j = 0 ∨ j = 3 := hj; have := hD.1; have := hD.2.1; have := hD.2.2; omega)).trans (Classical.choose_spec hJ1.2.2.2.1)⟩, (hF2 (x + 1) (fun j q hj => by replace hj : j = 0 ∨ j = 3 := hj; have := hD.1; have := hD.2.1; have := hD.2.2; omega)).trans hJ1.2.2.2.2.1, (hF2 (x + 2) (fun j q hj => by replace hj : j = 0 ∨ j = 3 := hj; have := hD.1; have := hD.2.1; have := hD.2.2; omega)).trans hJ1.2.2.2.2.2.1, C24.eq hJ1.2.2.2.2.2.2.1 (hF2 (x + 24) (fun j q hj => by replace hj : j = 0 ∨ j = 3 := hj; have := hD.1; have := hD.2.1; have := hD.2.2; omega)), XC.eq hJ1.2.2.2.2.2.2.2.1 (fun k9 q1 q2 => hF2 (x + k9) (fun j q hj => by replace hj : j = 0 ∨ j = 3 := hj; have := hD.1; have := hD.2.1; have := hD.2.2; omega)), SQ.eq hJ1.2.2.2.2.2.2.2.2.1 (fun k9 q1 q2 => hF2 (x + k9) (fun j q hj => by replace hj : j = 0 ∨ j = 3 := hj; have := hD.1; have := hD.2.1; have := hD.2.2; omega)), CfC.eq hJ1.2.2.2.2.2.2.2.2.2 (fun k9 q1 q2 => hF2 (x + k9) (fun j q hj => by replace hj : j = 0 ∨ j = 3 := hj; have := hD.1; have := hD.2.1; have := hD.2.2; omega))⟩
  refine z_goto (tgt := 2001) B dL_law_1024 rfl ?_
  refine z_widen (k := cells + 2) (n := slots + 12) (by omega) (by omega) ?_
  exact hT _ hd0 Φ2 sz (JJ.of (JK.up hJ2 (by omega)) hG rfl rfl rfl rfl rfl rfl rfl hEq)

set_option maxHeartbeats 4000000 in
set_option maxRecDepth 100000 in
theorem lc_24 {p9 : Program} {e9 : Env} {s9 : State} {m9 : MethodId} {a9 : Array Value} {w9 : List Frame} {t9 : Method} {k9 : Code} {Q9 : State → Prop} {nm9 : String} (G : EnvG) (l : Launch) (hl9 : l.stackTraces = false) {d0 : Drawn} (hd0 : s9.drawn.sameBut d0 lw_cs) (B : Bd p9 (s9.setDrawn d0) m9 a9 t9 k9 G code 9 RL wsL_law ret nm9) (Φ : Hm) (sz b L i : Nat) (xs : Nat → Int32) (hX : va_X b L xs (s9.setDrawn d0) (s9.setDrawn d0).heap) (hbn : b < G.2.2.2) (hL : L ≤ 3584) (hi : i + 7 ≤ L) (x y o d ca cells slots : Nat) (hna : G.2.2.2 ≤ x) (hD : Ds x y o d) (hca : ca ≤ 10000) (hcl : cells ≤ 8000) (hsl : slots ≤ 80000) (hJ : JJ G x y o d ca Φ) (hT : ∀ (d1 : Drawn), s9.drawn.sameBut d1 lw_cs → ∀ (Φ1 : Hm) (sz1 : Nat), JJ G x y o d (ca + 12) Φ1 → Z p9 l e9 room_1 (s9.setDrawn d1) m9 a9 w9 t9 k9 Q9 G 9 2001 [(5, .int (nI i)), (4, .ref d), (3, .ref o), (2, .ref y), (1, .ref x), (0, .ref b)] [] Φ1 sz1 (cells + 2) (slots + 12)) : Z p9 l e9 room_1 (s9.setDrawn d0) m9 a9 w9 t9 k9 Q9 G 9 1027 [(5, .int (nI i)), (4, .ref d), (3, .ref o), (2, .ref y), (1, .ref x), (0, .ref b)] [] Φ sz cells slots := by
  obtain ⟨n, f, g, co, po, ⟨tm, r, w, aq, e, ob, sm, un, ⟨nC, F⟩, nT, Ft⟩, sn, ⟨qn, qL, qd⟩, c, hJ, hG, hEq⟩ := hJ
  have hq12 : qn ≤ 12 := SQ.le hJ.2.2.2.2.2.2.2.2.1
  obtain ⟨t7, s7, hCA7⟩ := hJ.2.2.2.2.2.2.2.2.2
  have hW7 := CfA.W hCA7 hG
  have hR7 := CfA.R hCA7 hG
  refine z_aload_n B dL_law_1027 rfl 4 rfl ?_
  refine z_aload_n B dL_law_1028 rfl 5 rfl ?_
  refine z_iload B dL_law_1029 0 rfl ?_
  refine z_iconst (v := 1) B dL_law_1031 rfl ?_
  refine z_iadd B dL_law_1032 ?_
  refine z_sald B hX hbn (vinL (n := 1) rfl (by omega) hL) dL_law_1033 ?_
  refine z_aload_n B dL_law_1034 rfl 2 rfl ?_
  obtain ⟨fo, hco⟩ := hJ.2.2.1
  obtain ⟨t0, s0, hCA0⟩ := hJ.2.2.2.2.2.2.2.2.2
  have hS0 := hJ.2.2.2.2.2.2.2.2.1
  have hX0 := hJ.2.2.2.2.2.2.2.1
  refine z_callSW (As := [.ref x, .int (xs (nI i + 1).toNatClampNeg), .ref o]) (rest := []) B (w_isDue G l hl9 Φ sz x ca tm r w aq e ob sm un nC F nT Ft sn qn qL qd t0 s0 c (xs (nI i + 1).toNatClampNeg) o fo hna (by have := hD.1; have := hD.2.1; have := hD.2.2; omega) (fun j hj => by have := hD.1; have := hD.2.1; have := hD.2.2; omega) hJ.1 hco hX0 hS0 hCA0 hG (JK.aq hJ)) (vx_cwSW 3 B.1.2.2.2.2 gL_law_L_isDue rfl rfl rfl (by decide +kernel) ⟨Nat.le_of_ble_eq_true rfl, Nat.le_of_ble_eq_true rfl⟩) rfl rfl (Nat.le_of_ble_eq_true rfl) dL_law_1035 (rmL (by omega) (by omega) (by decide) (by decide)) (fun v1 Φ1 sz1 st1 hp1 hs1 => ?_)
  obtain ⟨⟨r1, fo1_, rfl, hv1, hA1⟩, hI1, ho1, hf1⟩ := hp1
  replace hs1 : st1 = [.int r1] := hs1
  subst st1
  have hJ1 : JK G x y o d (ca) n f co po (tm, r, w, aq, e, ob, sm, un, (nC, F), (nT, Ft)) sn (qn, qL, qd) c n g co po (tm, r, w, aq, e, ob, sm, un, (nC, F), (nT, Ft)) sn (qn, qL, qd) c Φ1 := ⟨hI1, JM.eq hJ.2.1 (fun k hk => hf1 (y + k) (fun j hj => (show False from hj).elim) (by have := hD.1; have := hD.2.1; have := hD.2.2; omega)), ho1, ⟨_, (hf1 d (fun j hj => (show False from hj).elim) (by have := hD.1; have := hD.2.1; have := hD.2.2; omega)).trans (Classical.choose_spec hJ.2.2.2.1)⟩, (hf1 (x + 1) (fun j hj => (show False from hj).elim) (by have := hD.1; have := hD.2.1; have := hD.2.2; omega)).trans hJ.2.2.2.2.1, (hf1 (x + 2) (fun j hj => (show False from hj).elim) (by have := hD.1; have := hD.2.1; have := hD.2.2; omega)).trans hJ.2.2.2.2.2.1, C24.eq hJ.2.2.2.2.2.2.1 (hf1 (x + 24) (fun j hj => (show False from hj).elim) (by have := hD.1; have := hD.2.1; have := hD.2.2; omega)), XC.eq hJ.2.2.2.2.2.2.2.1 (fun k9 q1 q2 => hf1 (x + k9) (fun j hj => (show False from hj).elim) (by have := hD.1; have := hD.2.1; have := hD.2.2; omega)), SQ.eq hJ.2.2.2.2.2.2.2.2.1 (fun k9 q1 q2 => hf1 (x + k9) (fun j hj => (show False from hj).elim) (by have := hD.1; have := hD.2.1; have := hD.2.2; omega)), CfC.eq hJ.2.2.2.2.2.2.2.2.2 (fun k9 q1 q2 => hf1 (x + k9) (fun j hj => (show False from hj).elim) (by have := hD.1; have := hD.2.1; have := hD.2.2; omega))⟩
  refine z_istore (lv' := [(6, .int r1), (5, .int (nI i)), (4, .ref d), (3, .ref o), (2, .ref y), (1, .ref x), (0, .ref b)]) B dL_law_1038 (Nat.le_of_ble_eq_true rfl) rfl ?_
  refine z_aload_n B dL_law_1040 rfl 4 rfl ?_
  refine z_aload_n B dL_law_1041 rfl 6 rfl ?_
  refine z_iload B dL_law_1042 1 rfl ?_
  refine z_iconst (v := 1) B dL_law_1044 rfl ?_
  refine z_iadd B dL_law_1045 ?_
  refine z_sald B hX hbn (vinL (n := 1) rfl (by omega) hL) dL_law_1046 ?_
  obtain ⟨⟨rd, le, nx, kn, nu, va, st, th, hM⟩, hg0⟩ := hJ1.2.1
  obtain ⟨fs, hy0⟩ := JM.obj hJ1.2.1
  refine z_callV (As := [.int (xs (nI i + 1).toNatClampNeg)]) (rest := []) B (r_isDue G l Φ1 sz1 y rd (CaQ nC F) (TpQ nT Ft) (TtQ nT Ft) (PtQ 0 (fun _ => 0)) (QlQ qn qL) nC 0 le nx n qn kn co nu va st po (nI tm) aq ob (nI w) r e sm un nT th sn.2.2.1 qd (sn.2.2.2.2.toInt64 &&& 4294967295) sn.2.2.2.1 c sn.1 sn.2.1 (xs (nI i + 1).toNatClampNeg) (by have := hD.1; omega) hM  hW7) (cwV 1 B.1.2.2.2.2 gL_law_X12_isDue rfl rfl rfl (by decide +kernel) ⟨Nat.le_of_ble_eq_true rfl, Nat.le_of_ble_eq_true rfl⟩) hy0 rfl rfl rfl rfl (Nat.le_of_ble_eq_true rfl) dL_law_1047 (rmL (by omega) (by omega) (by decide) (by decide)) (fun v2 Φ2 sz2 st2 hp2 hs2 => ?_)
  obtain ⟨⟨r2, th2, l2_, rfl, hth2, hAr2⟩, hz2, ⟨th1_, hM2⟩, hF2⟩ := hp2
  have hk9 := AnsR_fun hA1 hAr2 (fun _ _ => rfl)
  have hg2 := (hF2 (y + 25) (fun j q hj => by replace hj : j = 0 := hj; have := hD.1; have := hD.2.1; have := hD.2.2; omega)).trans hg0
  subst sz2
  replace hs2 : st2 = [.int r2] := hs2
  subst st2
  have hJ2 : JK G x y o d (ca) n f co po (tm, r, w, aq, e, ob, sm, un, (nC, F), (nT, Ft)) sn (qn, qL, qd) c n g co po (tm, r, w, aq, e, ob, sm, un, (nC, F), (nT, Ft)) sn (qn, qL, qd) c Φ2 := ⟨In.eq hJ1.1 (fun k hk => hF2 (x + k) (fun j q hj => by replace hj : j = 0 := hj; have := hD.1; have := hD.2.1; have := hD.2.2; omega)), ⟨⟨_, _, _, _, _, _, _, _, hM2⟩, hg2⟩, ⟨_, (hF2 (o) (fun j q hj => by replace hj : j = 0 := hj; have := hD.1; have := hD.2.1; have := hD.2.2; omega)).trans (Classical.choose_spec hJ1.2.2.1)⟩, ⟨_, (hF2 (d) (fun j q hj => by replace hj : j = 0 := hj; have := hD.1; have := hD.2.1; have := hD.2.2; omega)).trans (Classical.choose_spec hJ1.2.2.2.1)⟩, (hF2 (x + 1) (fun j q hj => by replace hj : j = 0 := hj; have := hD.1; have := hD.2.1; have := hD.2.2; omega)).trans hJ1.2.2.2.2.1, (hF2 (x + 2) (fun j q hj => by replace hj : j = 0 := hj; have := hD.1; have := hD.2.1; have := hD.2.2; omega)).trans hJ1.2.2.2.2.2.1, C24.eq hJ1.2.2.2.2.2.2.1 (hF2 (x + 24) (fun j q hj => by replace hj : j = 0 := hj; have := hD.1; have := hD.2.1; have := hD.2.2; omega)), XC.eq hJ1.2.2.2.2.2.2.2.1 (fun k9 q1 q2 => hF2 (x + k9) (fun j q hj => by replace hj : j = 0 := hj; have := hD.1; have := hD.2.1; have := hD.2.2; omega)), SQ.eq hJ1.2.2.2.2.2.2.2.2.1 (fun k9 q1 q2 => hF2 (x + k9) (fun j q hj => by replace hj : j = 0 := hj; have := hD.1; have := hD.2.1; have := hD.2.2; omega)), CfC.eq hJ1.2.2.2.2.2.2.2.2.2 (fun k9 q1 q2 => hF2 (x + k9) (fun j q hj => by replace hj : j = 0 := hj; have := hD.1; have := hD.2.1; have := hD.2.2; omega))⟩
  have ho2 := (hF2 (o) (fun j q hj => by replace hj : j = 0 := hj; have := hD.1; have := hD.2.1; have := hD.2.2; omega)).trans hv1
  refine z_istore (lv' := [(7, .int r2), (6, .int r1), (5, .int (nI i)), (4, .ref d), (3, .ref o), (2, .ref y), (1, .ref x), (0, .ref b)]) B dL_law_1050 (Nat.le_of_ble_eq_true rfl) rfl ?_
  refine z_aload_n B dL_law_1052 rfl 5 rfl ?_
  refine z_callV (As := []) (rest := []) B (r_thrownT G l Φ2 sz1 y th2 hth2 (fun v9 Φ9 sz9 => v9 = some (.int th2) ∧ sz1 = sz9 ∧ Φ2 = Φ9) ⟨rfl, rfl, rfl⟩) (cwV 0 B.1.2.2.2.2 gL_law_X12_thrown rfl rfl rfl (by decide +kernel) ⟨Nat.le_of_ble_eq_true rfl, Nat.le_of_ble_eq_true rfl⟩) hth2 rfl rfl rfl rfl (Nat.le_of_ble_eq_true rfl) dL_law_1053 (rmL (by omega) (by omega) (by decide) (by decide)) (fun v3 Φ3 sz3 st3 hp3 hs3 => ?_)
  obtain ⟨rfl, rfl, rfl⟩ := hp3
  replace hs3 : st3 = [.int th2] := hs3
  subst st3
  refine z_iload B dL_law_1056 1 rfl ?_
  refine z_icmp_eq (tgt := 1063) B dL_law_1058 rfl (fun _ => ?_) (fun h9 => absurd hk9.1 h9)
  refine z_iload B dL_law_1063 1 rfl ?_
  refine z_if_ne (tgt := 1087) B dL_law_1065 rfl (fun c_1 => ?_) (fun c_1 => ?_)
  · refine z_goto (tgt := 2001) B dL_law_1087 rfl ?_
    refine z_lv [2, 3, 4, 5, 6, 7] rfl ?_
    refine z_widen (k := cells + 2) (n := slots + 12) (by omega) (by omega) ?_
    exact hT _ hd0 Φ2 sz1 (JJ.of (JK.up hJ2 (by omega)) hG rfl rfl rfl rfl rfl rfl rfl hEq)
  · refine z_aload_n B dL_law_1068 rfl 4 rfl ?_
    refine z_iconst (v := 0) B dL_law_1069 rfl ?_
    refine z_lald B ho2 (vin rfl) dL_law_1070 ?_
    refine z_iload B dL_law_1071 0 rfl ?_
    refine z_if_eq (tgt := 1080) B dL_law_1073 rfl (fun c_2 => ?_) (fun c_2 => ?_)
    · refine z_lconst (v := 0) B dL_law_1080 rfl ?_
      refine z_lcmp B dL_law_1081 ?_
      refine z_if_eq (tgt := 1087) B dL_law_1082 rfl (fun _ => ?_) (fun h9 => absurd ((lg_cmp_eq _ _).mpr ((hk9.2 c_1).trans (b2l_0 c_2).symm)) h9)
      refine z_goto (tgt := 2001) B dL_law_1087 rfl ?_
      refine z_lv [2, 3, 4, 5, 6, 7] rfl ?_
      refine z_widen (k := cells + 2) (n := slots + 12) (by omega) (by omega) ?_
      exact hT _ hd0 Φ2 sz1 (JJ.of (JK.up hJ2 (by omega)) hG rfl rfl rfl rfl rfl rfl rfl hEq)
    · refine z_lconst (v := 1) B dL_law_1076 rfl ?_
      refine z_goto (tgt := 1081) B dL_law_1077 rfl ?_
      refine z_lcmp B dL_law_1081 ?_
      refine z_if_eq (tgt := 1087) B dL_law_1082 rfl (fun _ => ?_) (fun h9 => absurd ((lg_cmp_eq _ _).mpr ((hk9.2 c_1).trans (b2l_1 (AnsR_01 hAr2 duV_01 (hk9.1.trans c_1)) c_2).symm)) h9)
      refine z_goto (tgt := 2001) B dL_law_1087 rfl ?_
      refine z_lv [2, 3, 4, 5, 6, 7] rfl ?_
      refine z_widen (k := cells + 2) (n := slots + 12) (by omega) (by omega) ?_
      exact hT _ hd0 Φ2 sz1 (JJ.of (JK.up hJ2 (by omega)) hG rfl rfl rfl rfl rfl rfl rfl hEq)

set_option maxHeartbeats 4000000 in
set_option maxRecDepth 100000 in
theorem lc_25 {p9 : Program} {e9 : Env} {s9 : State} {m9 : MethodId} {a9 : Array Value} {w9 : List Frame} {t9 : Method} {k9 : Code} {Q9 : State → Prop} {nm9 : String} (G : EnvG) (l : Launch) (hl9 : l.stackTraces = false) {d0 : Drawn} (hd0 : s9.drawn.sameBut d0 lw_cs) (B : Bd p9 (s9.setDrawn d0) m9 a9 t9 k9 G code 9 RL wsL_law ret nm9) (Φ : Hm) (sz b L i : Nat) (xs : Nat → Int32) (hX : va_X b L xs (s9.setDrawn d0) (s9.setDrawn d0).heap) (hbn : b < G.2.2.2) (hL : L ≤ 3584) (hi : i + 7 ≤ L) (x y o d ca cells slots : Nat) (hna : G.2.2.2 ≤ x) (hD : Ds x y o d) (hca : ca ≤ 10000) (hcl : cells ≤ 8000) (hsl : slots ≤ 80000) (hJ : JJ G x y o d ca Φ) (hT : ∀ (d1 : Drawn), s9.drawn.sameBut d1 lw_cs → ∀ (Φ1 : Hm) (sz1 : Nat), JJ G x y o d (ca + 12) Φ1 → Z p9 l e9 room_1 (s9.setDrawn d1) m9 a9 w9 t9 k9 Q9 G 9 2001 [(5, .int (nI i)), (4, .ref d), (3, .ref o), (2, .ref y), (1, .ref x), (0, .ref b)] [] Φ1 sz1 (cells + 2) (slots + 12)) : Z p9 l e9 room_1 (s9.setDrawn d0) m9 a9 w9 t9 k9 Q9 G 9 1090 [(5, .int (nI i)), (4, .ref d), (3, .ref o), (2, .ref y), (1, .ref x), (0, .ref b)] [] Φ sz cells slots := by
  obtain ⟨n, f, g, co, po, ⟨tm, r, w, aq, e, ob, sm, un, ⟨nC, F⟩, nT, Ft⟩, sn, ⟨qn, qL, qd⟩, c, hJ, hG, hEq⟩ := hJ
  have hq12 : qn ≤ 12 := SQ.le hJ.2.2.2.2.2.2.2.2.1
  obtain ⟨t7, s7, hCA7⟩ := hJ.2.2.2.2.2.2.2.2.2
  have hW7 := CfA.W hCA7 hG
  have hR7 := CfA.R hCA7 hG
  refine z_aload_n B dL_law_1090 rfl 4 rfl ?_
  have h0 : Φ x = some (o_ 13 [.ref (x + 1), .ref (x + 3), .ref (x + 24), .ref (x + 46), .ref (x + 74), .ref (x + 80), .ref (x + 132), .ref (x + 121)]) := in0 (k := 0) hJ.1 rfl
  obtain ⟨xp0, xb0, pp0, pt0, hxe, hE0, h810, h950, hTC0, hTT0, hb0⟩ := hJ.2.2.2.2.2.2.2.1
  replace hxe : xp0 - xb0 = e := hxe
  have hSQ0 := hJ.2.2.2.2.2.2.2.2.1
  obtain ⟨hSd0, qp0, hQ0_⟩ := hSQ0
  have hQ0 : QbR G x qn qL qd qp0 Φ := hQ0_
  refine z_callV (As := []) (rest := []) B (s_X11_restartExporterS G l Φ sz x ca tm r w aq xp0 xb0 ob sm (un, 0, fun _ => 0) nC F pp0 c sn hna hJ.1 hE0 h810 hTC0 hSd0 (JK.aq hJ)) (cwV 0 B.1.2.2.2.2 gL_law_X11_restartExporter rfl rfl rfl (by decide +kernel) ⟨Nat.le_of_ble_eq_true rfl, Nat.le_of_ble_eq_true rfl⟩) h0 rfl rfl rfl rfl (Nat.le_of_ble_eq_true rfl) dL_law_1091 (rmL (by omega) (by omega) (by decide) (by decide)) (fun v1 Φ1 sz1 st1 hp1 hs1 => ?_)
  obtain ⟨⟨rfl, hE1, h811, hTC1, hSd1⟩, hz1, hI1, hF1⟩ := hp1
  subst sz1
  replace hs1 : st1 = [.int (nI nC)] := hs1
  subst st1
  have hJ1 : JK G x y o d (ca) n f co po (tm, r, w, aq, e, ob, sm, un, (0, F), (nT, Ft)) ((fun _ => 0), sn.2.1, sn.2.2.1, sn.2.2.2.1, (0 : Int32)) (qn, qL, qd) c n g co po (tm, r, w, aq, e, ob, sm, un, (nC, F), (nT, Ft)) sn (qn, qL, qd) c Φ1 := ⟨hI1, JM.eq hJ.2.1 (fun k hk => hF1 (y + k) (fun j q hj => by replace hj : 74 ≤ j ∧ j < 82 := hj; have := hD.1; have := hD.2.1; have := hD.2.2; omega)), ⟨_, (hF1 (o) (fun j q hj => by replace hj : 74 ≤ j ∧ j < 82 := hj; have := hD.1; have := hD.2.1; have := hD.2.2; omega)).trans (Classical.choose_spec hJ.2.2.1)⟩, ⟨_, (hF1 (d) (fun j q hj => by replace hj : 74 ≤ j ∧ j < 82 := hj; have := hD.1; have := hD.2.1; have := hD.2.2; omega)).trans (Classical.choose_spec hJ.2.2.2.1)⟩, (hF1 (x + 1) (fun j q hj => by replace hj : 74 ≤ j ∧ j < 82 := hj; have := hD.1; have := hD.2.1; have := hD.2.2; omega)).trans hJ.2.2.2.2.1, (hF1 (x + 2) (fun j q hj => by replace hj : 74 ≤ j ∧ j < 82 := hj; have := hD.1; have := hD.2.1; have := hD.2.2; omega)).trans hJ.2.2.2.2.2.1, C24.eq hJ.2.2.2.2.2.2.1 (hF1 (x + 24) (fun j q hj => by replace hj : 74 ≤ j ∧ j < 82 := hj; have := hD.1; have := hD.2.1; have := hD.2.2; omega)), (XC_re (T := (nT, Ft)) hxe hb0 hE1 h811 ((hF1 (x + 95) (fun j q hj => by replace hj : 74 ≤ j ∧ j < 82 := hj; have := hD.1; have := hD.2.1; have := hD.2.2; omega)).trans h950) hTC1 (TbR.mv hTT0 (fun j9 q1 q2 _ => hF1 (x + j9) (fun j q hj => by replace hj : 74 ≤ j ∧ j < 82 := hj; have := hD.1; have := hD.2.1; have := hD.2.2; omega)))), (SQ.mq hSd1 hSQ0 (fun j9 q1 q2 => hF1 (x + j9) (fun j q hj => by replace hj : 74 ≤ j ∧ j < 82 := hj; have := hD.1; have := hD.2.1; have := hD.2.2; omega))), CfC.eq hJ.2.2.2.2.2.2.2.2.2 (fun k9 q1 q2 => hF1 (x + k9) (fun j q hj => by replace hj : 74 ≤ j ∧ j < 82 := hj; have := hD.1; have := hD.2.1; have := hD.2.2; omega))⟩
  refine z_pop B dL_law_1094 rfl ?_
  refine z_aload_n B dL_law_1095 rfl 3 rfl ?_
  obtain ⟨⟨rd, le, nx, kn, nu, va, st, th, hM⟩, hg0⟩ := hJ1.2.1
  obtain ⟨fs, hy0⟩ := JM.obj hJ1.2.1
  refine z_callV (As := []) (rest := []) B (r_restartExporterX G l Φ1 sz y rd (NNq c) (TpQ nT Ft) (TtQ nT Ft) (SiQ sn.1) (AtQ sn.2.1) (PtQ 0 (fun _ => 0)) (QlQ qn qL) nC 0 le nx n qn kn co nu va st po (nI tm) aq ob (nI w) r e sm un nT th sn.2.2.1 qd (sn.2.2.2.2.toInt64 &&& 4294967295) sn.2.2.2.1 F  (by have := hD.1; omega) hM  (fun f9 h9 => h9.1)) (cwV 0 B.1.2.2.2.2 gL_law_X12_restartExporter rfl rfl rfl (by decide +kernel) ⟨Nat.le_of_ble_eq_true rfl, Nat.le_of_ble_eq_true rfl⟩) hy0 rfl rfl rfl rfl (Nat.le_of_ble_eq_true rfl) dL_law_1096 (rmL (by omega) (by omega) (by decide) (by decide)) (fun v2 Φ2 sz2 st2 hp2 hs2 => ?_)
  obtain ⟨rfl, hz2, ⟨th1_, hM2⟩, hF2⟩ := hp2
  have hg2 := (hF2 (y + 25) (fun j q hj => by replace hj : j = 0 ∨ j = 3 := hj; have := hD.1; have := hD.2.1; have := hD.2.2; omega)).trans hg0
  have hMr : Im G y (rd, (NNq c), (CaQ 0 F), (TpQ nT Ft), (TtQ nT Ft), (SiQ ((fun _ => 0), sn.2.1, sn.2.2.1, sn.2.2.2.1, (0 : Int32)).1), (AtQ ((fun _ => 0), sn.2.1, sn.2.2.1, sn.2.2.2.1, (0 : Int32)).2.1), (PtQ 0 (fun _ => 0)), (QlQ (qn, qL, qd).1 (qn, qL, qd).2.1), 0, 0, le, nx, n, (qn, qL, qd).1, kn, co, nu, va, st, po, nI tm, aq, ob, nI w, r, e, sm, un, nT, th, ((fun _ => 0), sn.2.1, sn.2.2.1, sn.2.2.2.1, (0 : Int32)).2.2.1, (qn, qL, qd).2.2, ((0 : Int32).toInt64 &&& 4294967295), ((fun _ => 0), sn.2.1, sn.2.2.1, sn.2.2.2.1, (0 : Int32)).2.2.2.1) Φ2 := by
    rw [show (0 : Int32).toInt64 &&& 4294967295 = (0 : Int64) from by decide]
    exact hM2
  subst sz2
  replace hs2 : st2 = [.int (nI nC)] := hs2
  subst st2
  have hJ2 : JK G x y o d (ca) n f co po (tm, r, w, aq, e, ob, sm, un, (0, F), (nT, Ft)) ((fun _ => 0), sn.2.1, sn.2.2.1, sn.2.2.2.1, (0 : Int32)) (qn, qL, qd) c n g co po (tm, r, w, aq, e, ob, sm, un, (0, F), (nT, Ft)) ((fun _ => 0), sn.2.1, sn.2.2.1, sn.2.2.2.1, (0 : Int32)) (qn, qL, qd) c Φ2 := ⟨In.eq hJ1.1 (fun k hk => hF2 (x + k) (fun j q hj => by replace hj : j = 0 ∨ j = 3 := hj; have := hD.1; have := hD.2.1; have := hD.2.2; omega)), ⟨⟨_, _, _, _, _, _, _, _, hMr⟩, hg2⟩, ⟨_, (hF2 (o) (fun j q hj => by replace hj : j = 0 ∨ j = 3 := hj; have := hD.1; have := hD.2.1; have := hD.2.2; omega)).trans (Classical.choose_spec hJ1.2.2.1)⟩, ⟨_, (hF2 (d) (fun j q hj => by replace hj : j = 0 ∨ j = 3 := hj; have := hD.1; have := hD.2.1; have := hD.2.2; omega)).trans (Classical.choose_spec hJ1.2.2.2.1)⟩, (hF2 (x + 1) (fun j q hj => by replace hj : j = 0 ∨ j = 3 := hj; have := hD.1; have := hD.2.1; have := hD.2.2; omega)).trans hJ1.2.2.2.2.1, (hF2 (x + 2) (fun j q hj => by replace hj : j = 0 ∨ j = 3 := hj; have := hD.1; have := hD.2.1; have := hD.2.2; omega)).trans hJ1.2.2.2.2.2.1, C24.eq hJ1.2.2.2.2.2.2.1 (hF2 (x + 24) (fun j q hj => by replace hj : j = 0 ∨ j = 3 := hj; have := hD.1; have := hD.2.1; have := hD.2.2; omega)), XC.eq hJ1.2.2.2.2.2.2.2.1 (fun k9 q1 q2 => hF2 (x + k9) (fun j q hj => by replace hj : j = 0 ∨ j = 3 := hj; have := hD.1; have := hD.2.1; have := hD.2.2; omega)), SQ.eq hJ1.2.2.2.2.2.2.2.2.1 (fun k9 q1 q2 => hF2 (x + k9) (fun j q hj => by replace hj : j = 0 ∨ j = 3 := hj; have := hD.1; have := hD.2.1; have := hD.2.2; omega)), CfC.eq hJ1.2.2.2.2.2.2.2.2.2 (fun k9 q1 q2 => hF2 (x + k9) (fun j q hj => by replace hj : j = 0 ∨ j = 3 := hj; have := hD.1; have := hD.2.1; have := hD.2.2; omega))⟩
  refine z_pop B dL_law_1099 rfl ?_
  refine z_goto (tgt := 2001) B dL_law_1100 rfl ?_
  refine z_widen (k := cells + 2) (n := slots + 12) (by omega) (by omega) ?_
  exact hT _ hd0 Φ2 sz (JJ.of (JK.up hJ2 (by omega)) hG rfl rfl rfl rfl rfl rfl rfl hEq)
