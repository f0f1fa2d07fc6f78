set_option maxHeartbeats 4000000 in
set_option maxRecDepth 100000 in
theorem lc_26 {p9 : Program} {e9 : Env} {s9 : State} {m9 : MethodId} {a9 : Array Value} {w9 : List Frame} {t9 : Method} {k9 : Code} {Q9 : State → Prop} {nm9 : String} (G : EnvG) (l : Launch) (hl9 : l.stackTraces = false) {d0 : Drawn} (hd0 : s9.drawn.sameBut d0 lw_cs) (B : Bd p9 (s9.setDrawn d0) m9 a9 t9 k9 G code 9 RL wsL_law ret nm9) (Φ : Hm) (sz b L i : Nat) (xs : Nat → Int32) (hX : va_X b L xs (s9.setDrawn d0) (s9.setDrawn d0).heap) (hbn : b < G.2.2.2) (hL : L ≤ 3584) (hi : i + 7 ≤ L) (x y o d ca cells slots : Nat) (hna : G.2.2.2 ≤ x) (hD : Ds x y o d) (hca : ca ≤ 10000) (hcl : cells ≤ 8000) (hsl : slots ≤ 80000) (hJ : JJ G x y o d ca Φ) (hT : ∀ (d1 : Drawn), s9.drawn.sameBut d1 lw_cs → ∀ (Φ1 : Hm) (sz1 : Nat), JJ G x y o d (ca + 12) Φ1 → Z p9 l e9 room_1 (s9.setDrawn d1) m9 a9 w9 t9 k9 Q9 G 9 2001 [(5, .int (nI i)), (4, .ref d), (3, .ref o), (2, .ref y), (1, .ref x), (0, .ref b)] [] Φ1 sz1 (cells + 2) (slots + 12)) : Z p9 l e9 room_1 (s9.setDrawn d0) m9 a9 w9 t9 k9 Q9 G 9 1103 [(5, .int (nI i)), (4, .ref d), (3, .ref o), (2, .ref y), (1, .ref x), (0, .ref b)] [] Φ sz cells slots := by
  obtain ⟨n, f, g, co, po, ⟨tm, r, w, aq, e, ob, sm, un, ⟨nC, F⟩, nT, Ft⟩, sn, ⟨qn, qL, qd⟩, c, hJ, hG, hEq⟩ := hJ
  have hq12 : qn ≤ 12 := SQ.le hJ.2.2.2.2.2.2.2.2.1
  obtain ⟨t7, s7, hCA7⟩ := hJ.2.2.2.2.2.2.2.2.2
  have hW7 := CfA.W hCA7 hG
  have hR7 := CfA.R hCA7 hG
  refine z_aload_n B dL_law_1103 rfl 4 rfl ?_
  have h0 : Φ x = some (o_ 13 [.ref (x + 1), .ref (x + 3), .ref (x + 24), .ref (x + 46), .ref (x + 74), .ref (x + 80), .ref (x + 132), .ref (x + 121)]) := in0 (k := 0) hJ.1 rfl
  obtain ⟨xp0, xb0, pp0, pt0, hxe, hE0, h810, h950, hTC0, hTT0, hb0⟩ := hJ.2.2.2.2.2.2.2.1
  replace hxe : xp0 - xb0 = e := hxe
  refine z_callV (As := []) (rest := []) B (s_X11_observed G l Φ sz x ca (nI tm) (nI r) (nI w) aq xp0 xb0 ob sm un hna hJ.1 hE0 (JK.aq hJ)) (cwV 0 B.1.2.2.2.2 gL_law_X11_observed rfl rfl rfl (by decide +kernel) ⟨Nat.le_of_ble_eq_true rfl, Nat.le_of_ble_eq_true rfl⟩) h0 rfl rfl rfl rfl (Nat.le_of_ble_eq_true rfl) dL_law_1104 (rmL (by omega) (by omega) (by decide) (by decide)) (fun v1 Φ1 sz1 st1 hp1 hs1 => ?_)
  obtain ⟨⟨rfl, -⟩, hz1, hI1, hF1⟩ := hp1
  subst sz1
  replace hs1 : st1 = [.long ob] := hs1
  subst st1
  have hJ1 : JK G x y o d (ca) n f co po (tm, r, w, aq, e, ob, sm, un, (nC, F), (nT, Ft)) sn (qn, qL, qd) c n g co po (tm, r, w, aq, e, ob, sm, un, (nC, F), (nT, Ft)) sn (qn, qL, qd) c Φ1 := ⟨hI1, JM.eq hJ.2.1 (fun k hk => hF1 (y + k) (fun j q hj => (show False from hj).elim)), ⟨_, (hF1 (o) (fun j q hj => (show False from hj).elim)).trans (Classical.choose_spec hJ.2.2.1)⟩, ⟨_, (hF1 (d) (fun j q hj => (show False from hj).elim)).trans (Classical.choose_spec hJ.2.2.2.1)⟩, (hF1 (x + 1) (fun j q hj => (show False from hj).elim)).trans hJ.2.2.2.2.1, (hF1 (x + 2) (fun j q hj => (show False from hj).elim)).trans hJ.2.2.2.2.2.1, C24.eq hJ.2.2.2.2.2.2.1 (hF1 (x + 24) (fun j q hj => (show False from hj).elim)), XC.eq hJ.2.2.2.2.2.2.2.1 (fun k9 q1 q2 => hF1 (x + k9) (fun j q hj => (show False from hj).elim)), SQ.eq hJ.2.2.2.2.2.2.2.2.1 (fun k9 q1 q2 => hF1 (x + k9) (fun j q hj => (show False from hj).elim)), CfC.eq hJ.2.2.2.2.2.2.2.2.2 (fun k9 q1 q2 => hF1 (x + k9) (fun j q hj => (show False from hj).elim))⟩
  refine z_pop2_2 B dL_law_1107 rfl ?_
  refine z_aload_n B dL_law_1108 rfl 3 rfl ?_
  obtain ⟨⟨rd, le, nx, kn, nu, va, st, th, hM⟩, hg0⟩ := hJ1.2.1
  obtain ⟨fs, hy0⟩ := JM.obj hJ1.2.1
  refine z_callV (As := []) (rest := []) B (r_observed G l Φ1 sz y rd (NNq c) (CaQ nC F) (TpQ nT Ft) (TtQ nT Ft) (SiQ sn.1) (AtQ sn.2.1) (PtQ 0 (fun _ => 0)) (QlQ qn qL) nC 0 le nx n qn kn co nu va st po (nI tm) aq ob (nI w) r e sm un nT th sn.2.2.1 qd (sn.2.2.2.2.toInt64 &&& 4294967295) sn.2.2.2.1   (by have := hD.1; omega) hM  (fun f9 h9 => h9.1)) (cwV 0 B.1.2.2.2.2 gL_law_X12_observed rfl rfl rfl (by decide +kernel) ⟨Nat.le_of_ble_eq_true rfl, Nat.le_of_ble_eq_true rfl⟩) hy0 rfl rfl rfl rfl (Nat.le_of_ble_eq_true rfl) dL_law_1109 (rmL (by omega) (by omega) (by decide) (by decide)) (fun v2 Φ2 sz2 st2 hp2 hs2 => ?_)
  obtain ⟨rfl, hz2, ⟨th1_, hM2⟩, hF2⟩ := hp2
  have hg2 := (hF2 (y + 25) (fun j q hj => by replace hj : j = 0 := hj; have := hD.1; have := hD.2.1; have := hD.2.2; omega)).trans hg0
  subst sz2
  replace hs2 : st2 = [.long ob] := hs2
  subst st2
  have hJ2 : JK G x y o d (ca) n f co po (tm, r, w, aq, e, ob, sm, un, (nC, F), (nT, Ft)) sn (qn, qL, qd) c n g co po (tm, r, w, aq, e, ob, sm, un, (nC, F), (nT, Ft)) sn (qn, qL, qd) c Φ2 := ⟨In.eq hJ1.1 (fun k hk => hF2 (x + k) (fun j q hj => by replace hj : j = 0 := hj; have := hD.1; have := hD.2.1; have := hD.2.2; omega)), ⟨⟨_, _, _, _, _, _, _, _, hM2⟩, hg2⟩, ⟨_, (hF2 (o) (fun j q hj => by replace hj : j = 0 := hj; have := hD.1; have := hD.2.1; have := hD.2.2; omega)).trans (Classical.choose_spec hJ1.2.2.1)⟩, ⟨_, (hF2 (d) (fun j q hj => by replace hj : j = 0 := hj; have := hD.1; have := hD.2.1; have := hD.2.2; omega)).trans (Classical.choose_spec hJ1.2.2.2.1)⟩, (hF2 (x + 1) (fun j q hj => by replace hj : j = 0 := hj; have := hD.1; have := hD.2.1; have := hD.2.2; omega)).trans hJ1.2.2.2.2.1, (hF2 (x + 2) (fun j q hj => by replace hj : j = 0 := hj; have := hD.1; have := hD.2.1; have := hD.2.2; omega)).trans hJ1.2.2.2.2.2.1, C24.eq hJ1.2.2.2.2.2.2.1 (hF2 (x + 24) (fun j q hj => by replace hj : j = 0 := hj; have := hD.1; have := hD.2.1; have := hD.2.2; omega)), XC.eq hJ1.2.2.2.2.2.2.2.1 (fun k9 q1 q2 => hF2 (x + k9) (fun j q hj => by replace hj : j = 0 := hj; have := hD.1; have := hD.2.1; have := hD.2.2; omega)), SQ.eq hJ1.2.2.2.2.2.2.2.2.1 (fun k9 q1 q2 => hF2 (x + k9) (fun j q hj => by replace hj : j = 0 := hj; have := hD.1; have := hD.2.1; have := hD.2.2; omega)), CfC.eq hJ1.2.2.2.2.2.2.2.2.2 (fun k9 q1 q2 => hF2 (x + k9) (fun j q hj => by replace hj : j = 0 := hj; have := hD.1; have := hD.2.1; have := hD.2.2; omega))⟩
  refine z_pop2_2 B dL_law_1112 rfl ?_
  refine z_goto (tgt := 2001) B dL_law_1113 rfl ?_
  refine z_widen (k := cells + 2) (n := slots + 12) (by omega) (by omega) ?_
  exact hT _ hd0 Φ2 sz (JJ.of (JK.up hJ2 (by omega)) hG rfl rfl rfl rfl rfl rfl rfl hEq)

set_option maxHeartbeats 4000000 in
set_option maxRecDepth 100000 in
theorem lc_27 {p9 : Program} {e9 : Env} {s9 : State} {m9 : MethodId} {a9 : Array Value} {w9 : List Frame} {t9 : Method} {k9 : Code} {Q9 : State → Prop} {nm9 : String} (G : EnvG) (l : Launch) (hl9 : l.stackTraces = false) {d0 : Drawn} (hd0 : s9.drawn.sameBut d0 lw_cs) (B : Bd p9 (s9.setDrawn d0) m9 a9 t9 k9 G code 9 RL wsL_law ret nm9) (Φ : Hm) (sz b L i : Nat) (xs : Nat → Int32) (hX : va_X b L xs (s9.setDrawn d0) (s9.setDrawn d0).heap) (hbn : b < G.2.2.2) (hL : L ≤ 3584) (hi : i + 7 ≤ L) (x y o d ca cells slots : Nat) (hna : G.2.2.2 ≤ x) (hD : Ds x y o d) (hca : ca ≤ 10000) (hcl : cells ≤ 8000) (hsl : slots ≤ 80000) (hJ : JJ G x y o d ca Φ) (hT : ∀ (d1 : Drawn), s9.drawn.sameBut d1 lw_cs → ∀ (Φ1 : Hm) (sz1 : Nat), JJ G x y o d (ca + 12) Φ1 → Z p9 l e9 room_1 (s9.setDrawn d1) m9 a9 w9 t9 k9 Q9 G 9 2001 [(5, .int (nI i)), (4, .ref d), (3, .ref o), (2, .ref y), (1, .ref x), (0, .ref b)] [] Φ1 sz1 (cells + 2) (slots + 12)) : Z p9 l e9 room_1 (s9.setDrawn d0) m9 a9 w9 t9 k9 Q9 G 9 1116 [(5, .int (nI i)), (4, .ref d), (3, .ref o), (2, .ref y), (1, .ref x), (0, .ref b)] [] Φ sz cells slots := by
  obtain ⟨n, f, g, co, po, ⟨tm, r, w, aq, e, ob, sm, un, ⟨nC, F⟩, nT, Ft⟩, sn, ⟨qn, qL, qd⟩, c, hJ, hG, hEq⟩ := hJ
  have hq12 : qn ≤ 12 := SQ.le hJ.2.2.2.2.2.2.2.2.1
  obtain ⟨t7, s7, hCA7⟩ := hJ.2.2.2.2.2.2.2.2.2
  have hW7 := CfA.W hCA7 hG
  have hR7 := CfA.R hCA7 hG
  refine z_aload_n B dL_law_1116 rfl 4 rfl ?_
  have h0 : Φ x = some (o_ 13 [.ref (x + 1), .ref (x + 3), .ref (x + 24), .ref (x + 46), .ref (x + 74), .ref (x + 80), .ref (x + 132), .ref (x + 121)]) := in0 (k := 0) hJ.1 rfl
  obtain ⟨xp0, xb0, pp0, pt0, hxe, hE0, h810, h950, hTC0, hTT0, hb0⟩ := hJ.2.2.2.2.2.2.2.1
  replace hxe : xp0 - xb0 = e := hxe
  refine z_callV (As := []) (rest := []) B (s_X11_sampledX G l Φ sz x ca tm r w aq xp0 xb0 ob sm (un, 0, fun _ => 0) hna hJ.1 hE0 (JK.aq hJ)) (cwV 0 B.1.2.2.2.2 gL_law_X11_sampled rfl rfl rfl (by decide +kernel) ⟨Nat.le_of_ble_eq_true rfl, Nat.le_of_ble_eq_true rfl⟩) h0 rfl rfl rfl rfl (Nat.le_of_ble_eq_true rfl) dL_law_1117 (rmL (by omega) (by omega) (by decide) (by decide)) (fun v1 Φ1 sz1 st1 hp1 hs1 => ?_)
  obtain ⟨rfl, hz1, hI1, hF1⟩ := hp1
  subst sz1
  replace hs1 : st1 = [.long sm] := hs1
  subst st1
  have hJ1 : JK G x y o d (ca) n f co po (tm, r, w, aq, e, ob, sm, un, (nC, F), (nT, Ft)) sn (qn, qL, qd) c n g co po (tm, r, w, aq, e, ob, sm, un, (nC, F), (nT, Ft)) sn (qn, qL, qd) c Φ1 := ⟨hI1, JM.eq hJ.2.1 (fun k hk => hF1 (y + k) (fun j q hj => (show False from hj).elim)), ⟨_, (hF1 (o) (fun j q hj => (show False from hj).elim)).trans (Classical.choose_spec hJ.2.2.1)⟩, ⟨_, (hF1 (d) (fun j q hj => (show False from hj).elim)).trans (Classical.choose_spec hJ.2.2.2.1)⟩, (hF1 (x + 1) (fun j q hj => (show False from hj).elim)).trans hJ.2.2.2.2.1, (hF1 (x + 2) (fun j q hj => (show False from hj).elim)).trans hJ.2.2.2.2.2.1, C24.eq hJ.2.2.2.2.2.2.1 (hF1 (x + 24) (fun j q hj => (show False from hj).elim)), XC.eq hJ.2.2.2.2.2.2.2.1 (fun k9 q1 q2 => hF1 (x + k9) (fun j q hj => (show False from hj).elim)), SQ.eq hJ.2.2.2.2.2.2.2.2.1 (fun k9 q1 q2 => hF1 (x + k9) (fun j q hj => (show False from hj).elim)), CfC.eq hJ.2.2.2.2.2.2.2.2.2 (fun k9 q1 q2 => hF1 (x + k9) (fun j q hj => (show False from hj).elim))⟩
  refine z_pop2_2 B dL_law_1120 rfl ?_
  refine z_aload_n B dL_law_1121 rfl 3 rfl ?_
  obtain ⟨⟨rd, le, nx, kn, nu, va, st, th, hM⟩, hg0⟩ := hJ1.2.1
  obtain ⟨fs, hy0⟩ := JM.obj hJ1.2.1
  refine z_callV (As := []) (rest := []) B (r_sampledX G l Φ1 sz y rd (NNq c) (CaQ nC F) (TpQ nT Ft) (TtQ nT Ft) (SiQ sn.1) (AtQ sn.2.1) (PtQ 0 (fun _ => 0)) (QlQ qn qL) nC 0 le nx n qn kn co nu va st po (nI tm) aq ob (nI w) r e sm un nT th sn.2.2.1 qd (sn.2.2.2.2.toInt64 &&& 4294967295) sn.2.2.2.1   (by have := hD.1; omega) hM  (fun f9 h9 => h9.1)) (cwV 0 B.1.2.2.2.2 gL_law_X12_sampled rfl rfl rfl (by decide +kernel) ⟨Nat.le_of_ble_eq_true rfl, Nat.le_of_ble_eq_true rfl⟩) hy0 rfl rfl rfl rfl (Nat.le_of_ble_eq_true rfl) dL_law_1122 (rmL (by omega) (by omega) (by decide) (by decide)) (fun v2 Φ2 sz2 st2 hp2 hs2 => ?_)
  obtain ⟨rfl, hz2, ⟨th1_, hM2⟩, hF2⟩ := hp2
  have hg2 := (hF2 (y + 25) (fun j q hj => by replace hj : j = 0 := hj; have := hD.1; have := hD.2.1; have := hD.2.2; omega)).trans hg0
  subst sz2
  replace hs2 : st2 = [.long sm] := hs2
  subst st2
  have hJ2 : JK G x y o d (ca) n f co po (tm, r, w, aq, e, ob, sm, un, (nC, F), (nT, Ft)) sn (qn, qL, qd) c n g co po (tm, r, w, aq, e, ob, sm, un, (nC, F), (nT, Ft)) sn (qn, qL, qd) c Φ2 := ⟨In.eq hJ1.1 (fun k hk => hF2 (x + k) (fun j q hj => by replace hj : j = 0 := hj; have := hD.1; have := hD.2.1; have := hD.2.2; omega)), ⟨⟨_, _, _, _, _, _, _, _, hM2⟩, hg2⟩, ⟨_, (hF2 (o) (fun j q hj => by replace hj : j = 0 := hj; have := hD.1; have := hD.2.1; have := hD.2.2; omega)).trans (Classical.choose_spec hJ1.2.2.1)⟩, ⟨_, (hF2 (d) (fun j q hj => by replace hj : j = 0 := hj; have := hD.1; have := hD.2.1; have := hD.2.2; omega)).trans (Classical.choose_spec hJ1.2.2.2.1)⟩, (hF2 (x + 1) (fun j q hj => by replace hj : j = 0 := hj; have := hD.1; have := hD.2.1; have := hD.2.2; omega)).trans hJ1.2.2.2.2.1, (hF2 (x + 2) (fun j q hj => by replace hj : j = 0 := hj; have := hD.1; have := hD.2.1; have := hD.2.2; omega)).trans hJ1.2.2.2.2.2.1, C24.eq hJ1.2.2.2.2.2.2.1 (hF2 (x + 24) (fun j q hj => by replace hj : j = 0 := hj; have := hD.1; have := hD.2.1; have := hD.2.2; omega)), XC.eq hJ1.2.2.2.2.2.2.2.1 (fun k9 q1 q2 => hF2 (x + k9) (fun j q hj => by replace hj : j = 0 := hj; have := hD.1; have := hD.2.1; have := hD.2.2; omega)), SQ.eq hJ1.2.2.2.2.2.2.2.2.1 (fun k9 q1 q2 => hF2 (x + k9) (fun j q hj => by replace hj : j = 0 := hj; have := hD.1; have := hD.2.1; have := hD.2.2; omega)), CfC.eq hJ1.2.2.2.2.2.2.2.2.2 (fun k9 q1 q2 => hF2 (x + k9) (fun j q hj => by replace hj : j = 0 := hj; have := hD.1; have := hD.2.1; have := hD.2.2; omega))⟩
  refine z_pop2_2 B dL_law_1125 rfl ?_
  refine z_goto (tgt := 2001) B dL_law_1126 rfl ?_
  refine z_widen (k := cells + 2) (n := slots + 12) (by omega) (by omega) ?_
  exact hT _ hd0 Φ2 sz (JJ.of (JK.up hJ2 (by omega)) hG rfl rfl rfl rfl rfl rfl rfl hEq)

set_option maxHeartbeats 4000000 in
set_option maxRecDepth 100000 in
theorem lc_28 {p9 : Program} {e9 : Env} {s9 : State} {m9 : MethodId} {a9 : Array Value} {w9 : List Frame} {t9 : Method} {k9 : Code} {Q9 : State → Prop} {nm9 : String} (G : EnvG) (l : Launch) (hl9 : l.stackTraces = false) {d0 : Drawn} (hd0 : s9.drawn.sameBut d0 lw_cs) (B : Bd p9 (s9.setDrawn d0) m9 a9 t9 k9 G code 9 RL wsL_law ret nm9) (Φ : Hm) (sz b L i : Nat) (xs : Nat → Int32) (hX : va_X b L xs (s9.setDrawn d0) (s9.setDrawn d0).heap) (hbn : b < G.2.2.2) (hL : L ≤ 3584) (hi : i + 7 ≤ L) (x y o d ca cells slots : Nat) (hna : G.2.2.2 ≤ x) (hD : Ds x y o d) (hca : ca ≤ 10000) (hcl : cells ≤ 8000) (hsl : slots ≤ 80000) (hJ : JJ G x y o d ca Φ) (hT : ∀ (d1 : Drawn), s9.drawn.sameBut d1 lw_cs → ∀ (Φ1 : Hm) (sz1 : Nat), JJ G x y o d (ca + 12) Φ1 → Z p9 l e9 room_1 (s9.setDrawn d1) m9 a9 w9 t9 k9 Q9 G 9 2001 [(5, .int (nI i)), (4, .ref d), (3, .ref o), (2, .ref y), (1, .ref x), (0, .ref b)] [] Φ1 sz1 (cells + 2) (slots + 12)) : Z p9 l e9 room_1 (s9.setDrawn d0) m9 a9 w9 t9 k9 Q9 G 9 1129 [(5, .int (nI i)), (4, .ref d), (3, .ref o), (2, .ref y), (1, .ref x), (0, .ref b)] [] Φ sz cells slots := by
  obtain ⟨n, f, g, co, po, ⟨tm, r, w, aq, e, ob, sm, un, ⟨nC, F⟩, nT, Ft⟩, sn, ⟨qn, qL, qd⟩, c, hJ, hG, hEq⟩ := hJ
  have hq12 : qn ≤ 12 := SQ.le hJ.2.2.2.2.2.2.2.2.1
  obtain ⟨t7, s7, hCA7⟩ := hJ.2.2.2.2.2.2.2.2.2
  have hW7 := CfA.W hCA7 hG
  have hR7 := CfA.R hCA7 hG
  refine z_aload_n B dL_law_1129 rfl 4 rfl ?_
  have h0 : Φ x = some (o_ 13 [.ref (x + 1), .ref (x + 3), .ref (x + 24), .ref (x + 46), .ref (x + 74), .ref (x + 80), .ref (x + 132), .ref (x + 121)]) := in0 (k := 0) hJ.1 rfl
  have hSQ0 := hJ.2.2.2.2.2.2.2.2.1
  obtain ⟨hSd0, qp0, hQ0_⟩ := hSQ0
  have hQ0 : QbR G x qn qL qd qp0 Φ := hQ0_
  refine z_callV (As := []) (rest := []) B (s_X11_sentX G l Φ sz x ca c sn hna hJ.1 hSd0 ) (cwV 0 B.1.2.2.2.2 gL_law_X11_sent rfl rfl rfl (by decide +kernel) ⟨Nat.le_of_ble_eq_true rfl, Nat.le_of_ble_eq_true rfl⟩) h0 rfl rfl rfl rfl (Nat.le_of_ble_eq_true rfl) dL_law_1130 (rmL (by omega) (by omega) (by decide) (by decide)) (fun v1 Φ1 sz1 st1 hp1 hs1 => ?_)
  obtain ⟨rfl, hz1, hI1, hF1⟩ := hp1
  subst sz1
  replace hs1 : st1 = [.long sn.2.2.2.1] := hs1
  subst st1
  have hJ1 : JK G x y o d (ca) n f co po (tm, r, w, aq, e, ob, sm, un, (nC, F), (nT, Ft)) sn (qn, qL, qd) c n g co po (tm, r, w, aq, e, ob, sm, un, (nC, F), (nT, Ft)) sn (qn, qL, qd) c Φ1 := ⟨hI1, JM.eq hJ.2.1 (fun k hk => hF1 (y + k) (fun j q hj => (show False from hj).elim)), ⟨_, (hF1 (o) (fun j q hj => (show False from hj).elim)).trans (Classical.choose_spec hJ.2.2.1)⟩, ⟨_, (hF1 (d) (fun j q hj => (show False from hj).elim)).trans (Classical.choose_spec hJ.2.2.2.1)⟩, (hF1 (x + 1) (fun j q hj => (show False from hj).elim)).trans hJ.2.2.2.2.1, (hF1 (x + 2) (fun j q hj => (show False from hj).elim)).trans hJ.2.2.2.2.2.1, C24.eq hJ.2.2.2.2.2.2.1 (hF1 (x + 24) (fun j q hj => (show False from hj).elim)), XC.eq hJ.2.2.2.2.2.2.2.1 (fun k9 q1 q2 => hF1 (x + k9) (fun j q hj => (show False from hj).elim)), SQ.eq hJ.2.2.2.2.2.2.2.2.1 (fun k9 q1 q2 => hF1 (x + k9) (fun j q hj => (show False from hj).elim)), CfC.eq hJ.2.2.2.2.2.2.2.2.2 (fun k9 q1 q2 => hF1 (x + k9) (fun j q hj => (show False from hj).elim))⟩
  refine z_pop2_2 B dL_law_1133 rfl ?_
  refine z_aload_n B dL_law_1134 rfl 3 rfl ?_
  obtain ⟨⟨rd, le, nx, kn, nu, va, st, th, hM⟩, hg0⟩ := hJ1.2.1
  obtain ⟨fs, hy0⟩ := JM.obj hJ1.2.1
  refine z_callV (As := []) (rest := []) B (r_sent G l Φ1 sz y rd (NNq c) (CaQ nC F) (TpQ nT Ft) (TtQ nT Ft) (SiQ sn.1) (AtQ sn.2.1) (PtQ 0 (fun _ => 0)) (QlQ qn qL) nC 0 le nx n qn kn co nu va st po (nI tm) aq ob (nI w) r e sm un nT th sn.2.2.1 qd (sn.2.2.2.2.toInt64 &&& 4294967295) sn.2.2.2.1   (by have := hD.1; omega) hM  (fun f9 h9 => h9.1)) (cwV 0 B.1.2.2.2.2 gL_law_X12_sent rfl rfl rfl (by decide +kernel) ⟨Nat.le_of_ble_eq_true rfl, Nat.le_of_ble_eq_true rfl⟩) hy0 rfl rfl rfl rfl (Nat.le_of_ble_eq_true rfl) dL_law_1135 (rmL (by omega) (by omega) (by decide) (by decide)) (fun v2 Φ2 sz2 st2 hp2 hs2 => ?_)
  obtain ⟨rfl, hz2, ⟨th1_, hM2⟩, hF2⟩ := hp2
  have hg2 := (hF2 (y + 25) (fun j q hj => by replace hj : j = 0 := hj; have := hD.1; have := hD.2.1; have := hD.2.2; omega)).trans hg0
  subst sz2
  replace hs2 : st2 = [.long sn.2.2.2.1] := hs2
  subst st2
  have hJ2 : JK G x y o d (ca) n f co po (tm, r, w, aq, e, ob, sm, un, (nC, F), (nT, Ft)) sn (qn, qL, qd) c n g co po (tm, r, w, aq, e, ob, sm, un, (nC, F), (nT, Ft)) sn (qn, qL, qd) c Φ2 := ⟨In.eq hJ1.1 (fun k hk => hF2 (x + k) (fun j q hj => by replace hj : j = 0 := hj; have := hD.1; have := hD.2.1; have := hD.2.2; omega)), ⟨⟨_, _, _, _, _, _, _, _, hM2⟩, hg2⟩, ⟨_, (hF2 (o) (fun j q hj => by replace hj : j = 0 := hj; have := hD.1; have := hD.2.1; have := hD.2.2; omega)).trans (Classical.choose_spec hJ1.2.2.1)⟩, ⟨_, (hF2 (d) (fun j q hj => by replace hj : j = 0 := hj; have := hD.1; have := hD.2.1; have := hD.2.2; omega)).trans (Classical.choose_spec hJ1.2.2.2.1)⟩, (hF2 (x + 1) (fun j q hj => by replace hj : j = 0 := hj; have := hD.1; have := hD.2.1; have := hD.2.2; omega)).trans hJ1.2.2.2.2.1, (hF2 (x + 2) (fun j q hj => by replace hj : j = 0 := hj; have := hD.1; have := hD.2.1; have := hD.2.2; omega)).trans hJ1.2.2.2.2.2.1, C24.eq hJ1.2.2.2.2.2.2.1 (hF2 (x + 24) (fun j q hj => by replace hj : j = 0 := hj; have := hD.1; have := hD.2.1; have := hD.2.2; omega)), XC.eq hJ1.2.2.2.2.2.2.2.1 (fun k9 q1 q2 => hF2 (x + k9) (fun j q hj => by replace hj : j = 0 := hj; have := hD.1; have := hD.2.1; have := hD.2.2; omega)), SQ.eq hJ1.2.2.2.2.2.2.2.2.1 (fun k9 q1 q2 => hF2 (x + k9) (fun j q hj => by replace hj : j = 0 := hj; have := hD.1; have := hD.2.1; have := hD.2.2; omega)), CfC.eq hJ1.2.2.2.2.2.2.2.2.2 (fun k9 q1 q2 => hF2 (x + k9) (fun j q hj => by replace hj : j = 0 := hj; have := hD.1; have := hD.2.1; have := hD.2.2; omega))⟩
  refine z_pop2_2 B dL_law_1138 rfl ?_
  refine z_goto (tgt := 2001) B dL_law_1139 rfl ?_
  refine z_widen (k := cells + 2) (n := slots + 12) (by omega) (by omega) ?_
  exact hT _ hd0 Φ2 sz (JJ.of (JK.up hJ2 (by omega)) hG rfl rfl rfl rfl rfl rfl rfl hEq)

set_option maxHeartbeats 4000000 in
set_option maxRecDepth 100000 in
theorem lc_29 {p9 : Program} {e9 : Env} {s9 : State} {m9 : MethodId} {a9 : Array Value} {w9 : List Frame} {t9 : Method} {k9 : Code} {Q9 : State → Prop} {nm9 : String} (G : EnvG) (l : Launch) (hl9 : l.stackTraces = false) {d0 : Drawn} (hd0 : s9.drawn.sameBut d0 lw_cs) (B : Bd p9 (s9.setDrawn d0) m9 a9 t9 k9 G code 9 RL wsL_law ret nm9) (Φ : Hm) (sz b L i : Nat) (xs : Nat → Int32) (hX : va_X b L xs (s9.setDrawn d0) (s9.setDrawn d0).heap) (hbn : b < G.2.2.2) (hL : L ≤ 3584) (hi : i + 7 ≤ L) (x y o d ca cells slots : Nat) (hna : G.2.2.2 ≤ x) (hD : Ds x y o d) (hca : ca ≤ 10000) (hcl : cells ≤ 8000) (hsl : slots ≤ 80000) (hJ : JJ G x y o d ca Φ) (hT : ∀ (d1 : Drawn), s9.drawn.sameBut d1 lw_cs → ∀ (Φ1 : Hm) (sz1 : Nat), JJ G x y o d (ca + 12) Φ1 → Z p9 l e9 room_1 (s9.setDrawn d1) m9 a9 w9 t9 k9 Q9 G 9 2001 [(5, .int (nI i)), (4, .ref d), (3, .ref o), (2, .ref y), (1, .ref x), (0, .ref b)] [] Φ1 sz1 (cells + 2) (slots + 12)) : Z p9 l e9 room_1 (s9.setDrawn d0) m9 a9 w9 t9 k9 Q9 G 9 1142 [(5, .int (nI i)), (4, .ref d), (3, .ref o), (2, .ref y), (1, .ref x), (0, .ref b)] [] Φ sz cells slots := by
  obtain ⟨n, f, g, co, po, ⟨tm, r, w, aq, e, ob, sm, un, ⟨nC, F⟩, nT, Ft⟩, sn, ⟨qn, qL, qd⟩, c, hJ, hG, hEq⟩ := hJ
  have hq12 : qn ≤ 12 := SQ.le hJ.2.2.2.2.2.2.2.2.1
  obtain ⟨t7, s7, hCA7⟩ := hJ.2.2.2.2.2.2.2.2.2
  have hW7 := CfA.W hCA7 hG
  have hR7 := CfA.R hCA7 hG
  refine z_aload_n B dL_law_1142 rfl 4 rfl ?_
  have h0 : Φ x = some (o_ 13 [.ref (x + 1), .ref (x + 3), .ref (x + 24), .ref (x + 46), .ref (x + 74), .ref (x + 80), .ref (x + 132), .ref (x + 121)]) := in0 (k := 0) hJ.1 rfl
  obtain ⟨xp0, xb0, pp0, pt0, hxe, hE0, h810, h950, hTC0, hTT0, hb0⟩ := hJ.2.2.2.2.2.2.2.1
  replace hxe : xp0 - xb0 = e := hxe
  refine z_callV (As := []) (rest := []) B (s_X11_unsentX G l Φ sz x ca tm r w aq xp0 xb0 ob sm (un, 0, fun _ => 0) hna hJ.1 hE0 (JK.aq hJ)) (cwV 0 B.1.2.2.2.2 gL_law_X11_unsent rfl rfl rfl (by decide +kernel) ⟨Nat.le_of_ble_eq_true rfl, Nat.le_of_ble_eq_true rfl⟩) h0 rfl rfl rfl rfl (Nat.le_of_ble_eq_true rfl) dL_law_1143 (rmL (by omega) (by omega) (by decide) (by decide)) (fun v1 Φ1 sz1 st1 hp1 hs1 => ?_)
  obtain ⟨rfl, hz1, hI1, hF1⟩ := hp1
  subst sz1
  replace hs1 : st1 = [.long un] := hs1
  subst st1
  have hJ1 : JK G x y o d (ca) n f co po (tm, r, w, aq, e, ob, sm, un, (nC, F), (nT, Ft)) sn (qn, qL, qd) c n g co po (tm, r, w, aq, e, ob, sm, un, (nC, F), (nT, Ft)) sn (qn, qL, qd) c Φ1 := ⟨hI1, JM.eq hJ.2.1 (fun k hk => hF1 (y + k) (fun j q hj => (show False from hj).elim)), ⟨_, (hF1 (o) (fun j q hj => (show False from hj).elim)).trans (Classical.choose_spec hJ.2.2.1)⟩, ⟨_, (hF1 (d) (fun j q hj => (show False from hj).elim)).trans (Classical.choose_spec hJ.2.2.2.1)⟩, (hF1 (x + 1) (fun j q hj => (show False from hj).elim)).trans hJ.2.2.2.2.1, (hF1 (x + 2) (fun j q hj => (show False from hj).elim)).trans hJ.2.2.2.2.2.1, C24.eq hJ.2.2.2.2.2.2.1 (hF1 (x + 24) (fun j q hj => (show False from hj).elim)), XC.eq hJ.2.2.2.2.2.2.2.1 (fun k9 q1 q2 => hF1 (x + k9) (fun j q hj => (show False from hj).elim)), SQ.eq hJ.2.2.2.2.2.2.2.2.1 (fun k9 q1 q2 => hF1 (x + k9) (fun j q hj => (show False from hj).elim)), CfC.eq hJ.2.2.2.2.2.2.2.2.2 (fun k9 q1 q2 => hF1 (x + k9) (fun j q hj => (show False from hj).elim))⟩
  refine z_pop2_2 B dL_law_1146 rfl ?_
  refine z_aload_n B dL_law_1147 rfl 3 rfl ?_
  obtain ⟨⟨rd, le, nx, kn, nu, va, st, th, hM⟩, hg0⟩ := hJ1.2.1
  obtain ⟨fs, hy0⟩ := JM.obj hJ1.2.1
  refine z_callV (As := []) (rest := []) B (r_unsentX G l Φ1 sz y rd (NNq c) (CaQ nC F) (TpQ nT Ft) (TtQ nT Ft) (SiQ sn.1) (AtQ sn.2.1) (PtQ 0 (fun _ => 0)) (QlQ qn qL) nC 0 le nx n qn kn co nu va st po (nI tm) aq ob (nI w) r e sm un nT th sn.2.2.1 qd (sn.2.2.2.2.toInt64 &&& 4294967295) sn.2.2.2.1   (by have := hD.1; omega) hM  (fun f9 h9 => h9.1)) (cwV 0 B.1.2.2.2.2 gL_law_X12_unsent rfl rfl rfl (by decide +kernel) ⟨Nat.le_of_ble_eq_true rfl, Nat.le_of_ble_eq_true rfl⟩) hy0 rfl rfl rfl rfl (Nat.le_of_ble_eq_true rfl) dL_law_1148 (rmL (by omega) (by omega) (by decide) (by decide)) (fun v2 Φ2 sz2 st2 hp2 hs2 => ?_)
  obtain ⟨rfl, hz2, ⟨th1_, hM2⟩, hF2⟩ := hp2
  have hg2 := (hF2 (y + 25) (fun j q hj => by replace hj : j = 0 := hj; have := hD.1; have := hD.2.1; have := hD.2.2; omega)).trans hg0
  subst sz2
  replace hs2 : st2 = [.long un] := hs2
  subst st2
  have hJ2 : JK G x y o d (ca) n f co po (tm, r, w, aq, e, ob, sm, un, (nC, F), (nT, Ft)) sn (qn, qL, qd) c n g co po (tm, r, w, aq, e, ob, sm, un, (nC, F), (nT, Ft)) sn (qn, qL, qd) c Φ2 := ⟨In.eq hJ1.1 (fun k hk => hF2 (x + k) (fun j q hj => by replace hj : j = 0 := hj; have := hD.1; have := hD.2.1; have := hD.2.2; omega)), ⟨⟨_, _, _, _, _, _, _, _, hM2⟩, hg2⟩, ⟨_, (hF2 (o) (fun j q hj => by replace hj : j = 0 := hj; have := hD.1; have := hD.2.1; have := hD.2.2; omega)).trans (Classical.choose_spec hJ1.2.2.1)⟩, ⟨_, (hF2 (d) (fun j q hj => by replace hj : j = 0 := hj; have := hD.1; have := hD.2.1; have := hD.2.2; omega)).trans (Classical.choose_spec hJ1.2.2.2.1)⟩, (hF2 (x + 1) (fun j q hj => by replace hj : j = 0 := hj; have := hD.1; have := hD.2.1; have := hD.2.2; omega)).trans hJ1.2.2.2.2.1, (hF2 (x + 2) (fun j q hj => by replace hj : j = 0 := hj; have := hD.1; have := hD.2.1; have := hD.2.2; omega)).trans hJ1.2.2.2.2.2.1, C24.eq hJ1.2.2.2.2.2.2.1 (hF2 (x + 24) (fun j q hj => by replace hj : j = 0 := hj; have := hD.1; have := hD.2.1; have := hD.2.2; omega)), XC.eq hJ1.2.2.2.2.2.2.2.1 (fun k9 q1 q2 => hF2 (x + k9) (fun j q hj => by replace hj : j = 0 := hj; have := hD.1; have := hD.2.1; have := hD.2.2; omega)), SQ.eq hJ1.2.2.2.2.2.2.2.2.1 (fun k9 q1 q2 => hF2 (x + k9) (fun j q hj => by replace hj : j = 0 := hj; have := hD.1; have := hD.2.1; have := hD.2.2; omega)), CfC.eq hJ1.2.2.2.2.2.2.2.2.2 (fun k9 q1 q2 => hF2 (x + k9) (fun j q hj => by replace hj : j = 0 := hj; have := hD.1; have := hD.2.1; have := hD.2.2; omega))⟩
  refine z_pop2_2 B dL_law_1151 rfl ?_
  refine z_goto (tgt := 2001) B dL_law_1152 rfl ?_
  refine z_widen (k := cells + 2) (n := slots + 12) (by omega) (by omega) ?_
  exact hT _ hd0 Φ2 sz (JJ.of (JK.up hJ2 (by omega)) hG rfl rfl rfl rfl rfl rfl rfl hEq)

set_option maxHeartbeats 4000000 in
set_option maxRecDepth 100000 in
theorem lc_30 {p9 : Program} {e9 : Env} {s9 : State} {m9 : MethodId} {a9 : Array Value} {w9 : List Frame} {t9 : Method} {k9 : Code} {Q9 : State → Prop} {nm9 : String} (G : EnvG) (l : Launch) (hl9 : l.stackTraces = false) {d0 : Drawn} (hd0 : s9.drawn.sameBut d0 lw_cs) (B : Bd p9 (s9.setDrawn d0) m9 a9 t9 k9 G code 9 RL wsL_law ret nm9) (Φ : Hm) (sz b L i : Nat) (xs : Nat → Int32) (hX : va_X b L xs (s9.setDrawn d0) (s9.setDrawn d0).heap) (hbn : b < G.2.2.2) (hL : L ≤ 3584) (hi : i + 7 ≤ L) (x y o d ca cells slots : Nat) (hna : G.2.2.2 ≤ x) (hD : Ds x y o d) (hca : ca ≤ 10000) (hcl : cells ≤ 8000) (hsl : slots ≤ 80000) (hJ : JJ G x y o d ca Φ) (hT : ∀ (d1 : Drawn), s9.drawn.sameBut d1 lw_cs → ∀ (Φ1 : Hm) (sz1 : Nat), JJ G x y o d (ca + 12) Φ1 → Z p9 l e9 room_1 (s9.setDrawn d1) m9 a9 w9 t9 k9 Q9 G 9 2001 [(5, .int (nI i)), (4, .ref d), (3, .ref o), (2, .ref y), (1, .ref x), (0, .ref b)] [] Φ1 sz1 (cells + 2) (slots + 12)) : Z p9 l e9 room_1 (s9.setDrawn d0) m9 a9 w9 t9 k9 Q9 G 9 1155 [(5, .int (nI i)), (4, .ref d), (3, .ref o), (2, .ref y), (1, .ref x), (0, .ref b)] [] Φ sz cells slots := by
  obtain ⟨n, f, g, co, po, ⟨tm, r, w, aq, e, ob, sm, un, ⟨nC, F⟩, nT, Ft⟩, sn, ⟨qn, qL, qd⟩, c, hJ, hG, hEq⟩ := hJ
  have hq12 : qn ≤ 12 := SQ.le hJ.2.2.2.2.2.2.2.2.1
  obtain ⟨t7, s7, hCA7⟩ := hJ.2.2.2.2.2.2.2.2.2
  have hW7 := CfA.W hCA7 hG
  have hR7 := CfA.R hCA7 hG
  refine z_aload_n B dL_law_1155 rfl 4 rfl ?_
  have h0 : Φ x = some (o_ 13 [.ref (x + 1), .ref (x + 3), .ref (x + 24), .ref (x + 46), .ref (x + 74), .ref (x + 80), .ref (x + 132), .ref (x + 121)]) := in0 (k := 0) hJ.1 rfl
  have hSQ0 := hJ.2.2.2.2.2.2.2.2.1
  obtain ⟨hSd0, qp0, hQ0_⟩ := hSQ0
  have hQ0 : QbR G x qn qL qd qp0 Φ := hQ0_
  refine z_callV (As := []) (rest := []) B (s_X11_droppedX G l Φ sz x ca qn qL qd qp0 hna hJ.1 hQ0 ) (cwV 0 B.1.2.2.2.2 gL_law_X11_dropped rfl rfl rfl (by decide +kernel) ⟨Nat.le_of_ble_eq_true rfl, Nat.le_of_ble_eq_true rfl⟩) h0 rfl rfl rfl rfl (Nat.le_of_ble_eq_true rfl) dL_law_1156 (rmL (by omega) (by omega) (by decide) (by decide)) (fun v1 Φ1 sz1 st1 hp1 hs1 => ?_)
  obtain ⟨rfl, hz1, hI1, hF1⟩ := hp1
  subst sz1
  replace hs1 : st1 = [.int qd] := hs1
  subst st1
  have hJ1 : JK G x y o d (ca) n f co po (tm, r, w, aq, e, ob, sm, un, (nC, F), (nT, Ft)) sn (qn, qL, qd) c n g co po (tm, r, w, aq, e, ob, sm, un, (nC, F), (nT, Ft)) sn (qn, qL, qd) c Φ1 := ⟨hI1, JM.eq hJ.2.1 (fun k hk => hF1 (y + k) (fun j q hj => (show False from hj).elim)), ⟨_, (hF1 (o) (fun j q hj => (show False from hj).elim)).trans (Classical.choose_spec hJ.2.2.1)⟩, ⟨_, (hF1 (d) (fun j q hj => (show False from hj).elim)).trans (Classical.choose_spec hJ.2.2.2.1)⟩, (hF1 (x + 1) (fun j q hj => (show False from hj).elim)).trans hJ.2.2.2.2.1, (hF1 (x + 2) (fun j q hj => (show False from hj).elim)).trans hJ.2.2.2.2.2.1, C24.eq hJ.2.2.2.2.2.2.1 (hF1 (x + 24) (fun j q hj => (show False from hj).elim)), XC.eq hJ.2.2.2.2.2.2.2.1 (fun k9 q1 q2 => hF1 (x + k9) (fun j q hj => (show False from hj).elim)), SQ.eq hJ.2.2.2.2.2.2.2.2.1 (fun k9 q1 q2 => hF1 (x + k9) (fun j q hj => (show False from hj).elim)), CfC.eq hJ.2.2.2.2.2.2.2.2.2 (fun k9 q1 q2 => hF1 (x + k9) (fun j q hj => (show False from hj).elim))⟩
  refine z_pop B dL_law_1159 rfl ?_
  refine z_aload_n B dL_law_1160 rfl 3 rfl ?_
  obtain ⟨⟨rd, le, nx, kn, nu, va, st, th, hM⟩, hg0⟩ := hJ1.2.1
  obtain ⟨fs, hy0⟩ := JM.obj hJ1.2.1
  refine z_callV (As := []) (rest := []) B (r_dropped G l Φ1 sz y rd (NNq c) (CaQ nC F) (TpQ nT Ft) (TtQ nT Ft) (SiQ sn.1) (AtQ sn.2.1) (PtQ 0 (fun _ => 0)) (QlQ qn qL) nC 0 le nx n qn kn co nu va st po (nI tm) aq ob (nI w) r e sm un nT th sn.2.2.1 qd (sn.2.2.2.2.toInt64 &&& 4294967295) sn.2.2.2.1   (by have := hD.1; omega) hM  (fun f9 h9 => h9.1)) (cwV 0 B.1.2.2.2.2 gL_law_X12_dropped rfl rfl rfl (by decide +kernel) ⟨Nat.le_of_ble_eq_true rfl, Nat.le_of_ble_eq_true rfl⟩) hy0 rfl rfl rfl rfl (Nat.le_of_ble_eq_true rfl) dL_law_1161 (rmL (by omega) (by omega) (by decide) (by decide)) (fun v2 Φ2 sz2 st2 hp2 hs2 => ?_)
  obtain ⟨rfl, hz2, ⟨th1_, hM2⟩, hF2⟩ := hp2
  have hg2 := (hF2 (y + 25) (fun j q hj => by replace hj : j = 0 := hj; have := hD.1; have := hD.2.1; have := hD.2.2; omega)).trans hg0
  subst sz2
  replace hs2 : st2 = [.int qd] := hs2
  subst st2
  have hJ2 : JK G x y o d (ca) n f co po (tm, r, w, aq, e, ob, sm, un, (nC, F), (nT, Ft)) sn (qn, qL, qd) c n g co po (tm, r, w, aq, e, ob, sm, un, (nC, F), (nT, Ft)) sn (qn, qL, qd) c Φ2 := ⟨In.eq hJ1.1 (fun k hk => hF2 (x + k) (fun j q hj => by replace hj : j = 0 := hj; have := hD.1; have := hD.2.1; have := hD.2.2; omega)), ⟨⟨_, _, _, _, _, _, _, _, hM2⟩, hg2⟩, ⟨_, (hF2 (o) (fun j q hj => by replace hj : j = 0 := hj; have := hD.1; have := hD.2.1; have := hD.2.2; omega)).trans (Classical.choose_spec hJ1.2.2.1)⟩, ⟨_, (hF2 (d) (fun j q hj => by replace hj : j = 0 := hj; have := hD.1; have := hD.2.1; have := hD.2.2; omega)).trans (Classical.choose_spec hJ1.2.2.2.1)⟩, (hF2 (x + 1) (fun j q hj => by replace hj : j = 0 := hj; have := hD.1; have := hD.2.1; have := hD.2.2; omega)).trans hJ1.2.2.2.2.1, (hF2 (x + 2) (fun j q hj => by replace hj : j = 0 := hj; have := hD.1; have := hD.2.1; have := hD.2.2; omega)).trans hJ1.2.2.2.2.2.1, C24.eq hJ1.2.2.2.2.2.2.1 (hF2 (x + 24) (fun j q hj => by replace hj : j = 0 := hj; have := hD.1; have := hD.2.1; have := hD.2.2; omega)), XC.eq hJ1.2.2.2.2.2.2.2.1 (fun k9 q1 q2 => hF2 (x + k9) (fun j q hj => by replace hj : j = 0 := hj; have := hD.1; have := hD.2.1; have := hD.2.2; omega)), SQ.eq hJ1.2.2.2.2.2.2.2.2.1 (fun k9 q1 q2 => hF2 (x + k9) (fun j q hj => by replace hj : j = 0 := hj; have := hD.1; have := hD.2.1; have := hD.2.2; omega)), CfC.eq hJ1.2.2.2.2.2.2.2.2.2 (fun k9 q1 q2 => hF2 (x + k9) (fun j q hj => by replace hj : j = 0 := hj; have := hD.1; have := hD.2.1; have := hD.2.2; omega))⟩
  refine z_pop B dL_law_1164 rfl ?_
  refine z_goto (tgt := 2001) B dL_law_1165 rfl ?_
  refine z_widen (k := cells + 2) (n := slots + 12) (by omega) (by omega) ?_
  exact hT _ hd0 Φ2 sz (JJ.of (JK.up hJ2 (by omega)) hG rfl rfl rfl rfl rfl rfl rfl hEq)

set_option maxHeartbeats 4000000 in
set_option maxRecDepth 100000 in
theorem lc_31 {p9 : Program} {e9 : Env} {s9 : State} {m9 : MethodId} {a9 : Array Value} {w9 : List Frame} {t9 : Method} {k9 : Code} {Q9 : State → Prop} {nm9 : String} (G : EnvG) (l : Launch) (hl9 : l.stackTraces = false) {d0 : Drawn} (hd0 : s9.drawn.sameBut d0 lw_cs) (B : Bd p9 (s9.setDrawn d0) m9 a9 t9 k9 G code 9 RL wsL_law ret nm9) (Φ : Hm) (sz b L i : Nat) (xs : Nat → Int32) (hX : va_X b L xs (s9.setDrawn d0) (s9.setDrawn d0).heap) (hbn : b < G.2.2.2) (hL : L ≤ 3584) (hi : i + 7 ≤ L) (x y o d ca cells slots : Nat) (hna : G.2.2.2 ≤ x) (hD : Ds x y o d) (hca : ca ≤ 10000) (hcl : cells ≤ 8000) (hsl : slots ≤ 80000) (hJ : JJ G x y o d ca Φ) (hT : ∀ (d1 : Drawn), s9.drawn.sameBut d1 lw_cs → ∀ (Φ1 : Hm) (sz1 : Nat), JJ G x y o d (ca + 12) Φ1 → Z p9 l e9 room_1 (s9.setDrawn d1) m9 a9 w9 t9 k9 Q9 G 9 2001 [(5, .int (nI i)), (4, .ref d), (3, .ref o), (2, .ref y), (1, .ref x), (0, .ref b)] [] Φ1 sz1 (cells + 2) (slots + 12)) : Z p9 l e9 room_1 (s9.setDrawn d0) m9 a9 w9 t9 k9 Q9 G 9 1168 [(5, .int (nI i)), (4, .ref d), (3, .ref o), (2, .ref y), (1, .ref x), (0, .ref b)] [] Φ sz cells slots := by
  obtain ⟨n, f, g, co, po, ⟨tm, r, w, aq, e, ob, sm, un, ⟨nC, F⟩, nT, Ft⟩, sn, ⟨qn, qL, qd⟩, c, hJ, hG, hEq⟩ := hJ
  have hq12 : qn ≤ 12 := SQ.le hJ.2.2.2.2.2.2.2.2.1
  obtain ⟨t7, s7, hCA7⟩ := hJ.2.2.2.2.2.2.2.2.2
  have hW7 := CfA.W hCA7 hG
  have hR7 := CfA.R hCA7 hG
  refine z_aload_n B dL_law_1168 rfl 4 rfl ?_
  have h0 : Φ x = some (o_ 13 [.ref (x + 1), .ref (x + 3), .ref (x + 24), .ref (x + 46), .ref (x + 74), .ref (x + 80), .ref (x + 132), .ref (x + 121)]) := in0 (k := 0) hJ.1 rfl
  have hSQ0 := hJ.2.2.2.2.2.2.2.2.1
  obtain ⟨hSd0, qp0, hQ0_⟩ := hSQ0
  have hQ0 : QbR G x qn qL qd qp0 Φ := hQ0_
  refine z_callV (As := []) (rest := []) B (s_X11_sequenceX G l Φ sz x ca c sn hna hJ.1 hSd0 ) (cwV 0 B.1.2.2.2.2 gL_law_X11_sequence rfl rfl rfl (by decide +kernel) ⟨Nat.le_of_ble_eq_true rfl, Nat.le_of_ble_eq_true rfl⟩) h0 rfl rfl rfl rfl (Nat.le_of_ble_eq_true rfl) dL_law_1169 (rmL (by omega) (by omega) (by decide) (by decide)) (fun v1 Φ1 sz1 st1 hp1 hs1 => ?_)
  obtain ⟨rfl, hz1, hI1, hF1⟩ := hp1
  subst sz1
  replace hs1 : st1 = [.long (sn.2.2.2.2.toInt64 &&& 4294967295)] := hs1
  subst st1
  have hJ1 : JK G x y o d (ca) n f co po (tm, r, w, aq, e, ob, sm, un, (nC, F), (nT, Ft)) sn (qn, qL, qd) c n g co po (tm, r, w, aq, e, ob, sm, un, (nC, F), (nT, Ft)) sn (qn, qL, qd) c Φ1 := ⟨hI1, JM.eq hJ.2.1 (fun k hk => hF1 (y + k) (fun j q hj => (show False from hj).elim)), ⟨_, (hF1 (o) (fun j q hj => (show False from hj).elim)).trans (Classical.choose_spec hJ.2.2.1)⟩, ⟨_, (hF1 (d) (fun j q hj => (show False from hj).elim)).trans (Classical.choose_spec hJ.2.2.2.1)⟩, (hF1 (x + 1) (fun j q hj => (show False from hj).elim)).trans hJ.2.2.2.2.1, (hF1 (x + 2) (fun j q hj => (show False from hj).elim)).trans hJ.2.2.2.2.2.1, C24.eq hJ.2.2.2.2.2.2.1 (hF1 (x + 24) (fun j q hj => (show False from hj).elim)), XC.eq hJ.2.2.2.2.2.2.2.1 (fun k9 q1 q2 => hF1 (x + k9) (fun j q hj => (show False from hj).elim)), SQ.eq hJ.2.2.2.2.2.2.2.2.1 (fun k9 q1 q2 => hF1 (x + k9) (fun j q hj => (show False from hj).elim)), CfC.eq hJ.2.2.2.2.2.2.2.2.2 (fun k9 q1 q2 => hF1 (x + k9) (fun j q hj => (show False from hj).elim))⟩
  refine z_pop2_2 B dL_law_1172 rfl ?_
  refine z_aload_n B dL_law_1173 rfl 3 rfl ?_
  obtain ⟨⟨rd, le, nx, kn, nu, va, st, th, hM⟩, hg0⟩ := hJ1.2.1
  obtain ⟨fs, hy0⟩ := JM.obj hJ1.2.1
  refine z_callV (As := []) (rest := []) B (r_sequence G l Φ1 sz y rd (NNq c) (CaQ nC F) (TpQ nT Ft) (TtQ nT Ft) (SiQ sn.1) (AtQ sn.2.1) (PtQ 0 (fun _ => 0)) (QlQ qn qL) nC 0 le nx n qn kn co nu va st po (nI tm) aq ob (nI w) r e sm un nT th sn.2.2.1 qd (sn.2.2.2.2.toInt64 &&& 4294967295) sn.2.2.2.1   (by have := hD.1; omega) hM  (fun f9 h9 => h9.1)) (cwV 0 B.1.2.2.2.2 gL_law_X12_sequence rfl rfl rfl (by decide +kernel) ⟨Nat.le_of_ble_eq_true rfl, Nat.le_of_ble_eq_true rfl⟩) hy0 rfl rfl rfl rfl (Nat.le_of_ble_eq_true rfl) dL_law_1174 (rmL (by omega) (by omega) (by decide) (by decide)) (fun v2 Φ2 sz2 st2 hp2 hs2 => ?_)
  obtain ⟨rfl, hz2, ⟨th1_, hM2⟩, hF2⟩ := hp2
  have hg2 := (hF2 (y + 25) (fun j q hj => by replace hj : j = 0 := hj; have := hD.1; have := hD.2.1; have := hD.2.2; omega)).trans hg0
  subst sz2
  replace hs2 : st2 = [.long (sn.2.2.2.2.toInt64 &&& 4294967295)] := hs2
  subst st2
  have hJ2 : JK G x y o d (ca) n f co po (tm, r, w, aq, e, ob, sm, un, (nC, F), (nT, Ft)) sn (qn, qL, qd) c n g co po (tm, r, w, aq, e, ob, sm, un, (nC, F), (nT, Ft)) sn (qn, qL, qd) c Φ2 := ⟨In.eq hJ1.1 (fun k hk => hF2 (x + k) (fun j q hj => by replace hj : j = 0 := hj; have := hD.1; have := hD.2.1; have := hD.2.2; omega)), ⟨⟨_, _, _, _, _, _, _, _, hM2⟩, hg2⟩, ⟨_, (hF2 (o) (fun j q hj => by replace hj : j = 0 := hj; have := hD.1; have := hD.2.1; have := hD.2.2; omega)).trans (Classical.choose_spec hJ1.2.2.1)⟩, ⟨_, (hF2 (d) (fun j q hj => by replace hj : j = 0 := hj; have := hD.1; have := hD.2.1; have := hD.2.2; omega)).trans (Classical.choose_spec hJ1.2.2.2.1)⟩, (hF2 (x + 1) (fun j q hj => by replace hj : j = 0 := hj; have := hD.1; have := hD.2.1; have := hD.2.2; omega)).trans hJ1.2.2.2.2.1, (hF2 (x + 2) (fun j q hj => by replace hj : j = 0 := hj; have := hD.1; have := hD.2.1; have := hD.2.2; omega)).trans hJ1.2.2.2.2.2.1, C24.eq hJ1.2.2.2.2.2.2.1 (hF2 (x + 24) (fun j q hj => by replace hj : j = 0 := hj; have := hD.1; have := hD.2.1; have := hD.2.2; omega)), XC.eq hJ1.2.2.2.2.2.2.2.1 (fun k9 q1 q2 => hF2 (x + k9) (fun j q hj => by replace hj : j = 0 := hj; have := hD.1; have := hD.2.1; have := hD.2.2; omega)), SQ.eq hJ1.2.2.2.2.2.2.2.2.1 (fun k9 q1 q2 => hF2 (x + k9) (fun j q hj => by replace hj : j = 0 := hj; have := hD.1; have := hD.2.1; have := hD.2.2; omega)), CfC.eq hJ1.2.2.2.2.2.2.2.2.2 (fun k9 q1 q2 => hF2 (x + k9) (fun j q hj => by replace hj : j = 0 := hj; have := hD.1; have := hD.2.1; have := hD.2.2; omega))⟩
  refine z_pop2_2 B dL_law_1177 rfl ?_
  refine z_goto (tgt := 2001) B dL_law_1178 rfl ?_
  refine z_widen (k := cells + 2) (n := slots + 12) (by omega) (by omega) ?_
  exact hT _ hd0 Φ2 sz (JJ.of (JK.up hJ2 (by omega)) hG rfl rfl rfl rfl rfl rfl rfl hEq)

set_option maxHeartbeats 4000000 in
set_option maxRecDepth 100000 in
theorem lc_32 {p9 : Program} {e9 : Env} {s9 : State} {m9 : MethodId} {a9 : Array Value} {w9 : List Frame} {t9 : Method} {k9 : Code} {Q9 : State → Prop} {nm9 : String} (G : EnvG) (l : Launch) (hl9 : l.stackTraces = false) {d0 : Drawn} (hd0 : s9.drawn.sameBut d0 lw_cs) (B : Bd p9 (s9.setDrawn d0) m9 a9 t9 k9 G code 9 RL wsL_law ret nm9) (Φ : Hm) (sz b L i : Nat) (xs : Nat → Int32) (hX : va_X b L xs (s9.setDrawn d0) (s9.setDrawn d0).heap) (hbn : b < G.2.2.2) (hL : L ≤ 3584) (hi : i + 7 ≤ L) (x y o d ca cells slots : Nat) (hna : G.2.2.2 ≤ x) (hD : Ds x y o d) (hca : ca ≤ 10000) (hcl : cells ≤ 8000) (hsl : slots ≤ 80000) (hJ : JJ G x y o d ca Φ) (hT : ∀ (d1 : Drawn), s9.drawn.sameBut d1 lw_cs → ∀ (Φ1 : Hm) (sz1 : Nat), JJ G x y o d (ca + 12) Φ1 → Z p9 l e9 room_1 (s9.setDrawn d1) m9 a9 w9 t9 k9 Q9 G 9 2001 [(5, .int (nI i)), (4, .ref d), (3, .ref o), (2, .ref y), (1, .ref x), (0, .ref b)] [] Φ1 sz1 (cells + 2) (slots + 12)) : Z p9 l e9 room_1 (s9.setDrawn d0) m9 a9 w9 t9 k9 Q9 G 9 1181 [(5, .int (nI i)), (4, .ref d), (3, .ref o), (2, .ref y), (1, .ref x), (0, .ref b)] [] Φ sz cells slots := by
  obtain ⟨n, f, g, co, po, ⟨tm, r, w, aq, e, ob, sm, un, ⟨nC, F⟩, nT, Ft⟩, sn, ⟨qn, qL, qd⟩, c, hJ, hG, hEq⟩ := hJ
  have hq12 : qn ≤ 12 := SQ.le hJ.2.2.2.2.2.2.2.2.1
  obtain ⟨t7, s7, hCA7⟩ := hJ.2.2.2.2.2.2.2.2.2
  have hW7 := CfA.W hCA7 hG
  have hR7 := CfA.R hCA7 hG
  refine z_aload_n B dL_law_1181 rfl 4 rfl ?_
  have h0 : Φ x = some (o_ 13 [.ref (x + 1), .ref (x + 3), .ref (x + 24), .ref (x + 46), .ref (x + 74), .ref (x + 80), .ref (x + 132), .ref (x + 121)]) := in0 (k := 0) hJ.1 rfl
  have hSQ0 := hJ.2.2.2.2.2.2.2.2.1
  obtain ⟨hSd0, qp0, hQ0_⟩ := hSQ0
  have hQ0 : QbR G x qn qL qd qp0 Φ := hQ0_
  refine z_callV (As := []) (rest := []) B (s_X11_queueLengthX G l Φ sz x ca qn qL qd qp0 hna hJ.1 hQ0 ) (cwV 0 B.1.2.2.2.2 gL_law_X11_queueLength rfl rfl rfl (by decide +kernel) ⟨Nat.le_of_ble_eq_true rfl, Nat.le_of_ble_eq_true rfl⟩) h0 rfl rfl rfl rfl (Nat.le_of_ble_eq_true rfl) dL_law_1182 (rmL (by omega) (by omega) (by decide) (by decide)) (fun v1 Φ1 sz1 st1 hp1 hs1 => ?_)
  obtain ⟨rfl, hz1, hI1, hF1⟩ := hp1
  subst sz1
  replace hs1 : st1 = [.int (nI qn)] := hs1
  subst st1
  have hJ1 : JK G x y o d (ca) n f co po (tm, r, w, aq, e, ob, sm, un, (nC, F), (nT, Ft)) sn (qn, qL, qd) c n g co po (tm, r, w, aq, e, ob, sm, un, (nC, F), (nT, Ft)) sn (qn, qL, qd) c Φ1 := ⟨hI1, JM.eq hJ.2.1 (fun k hk => hF1 (y + k) (fun j q hj => (show False from hj).elim)), ⟨_, (hF1 (o) (fun j q hj => (show False from hj).elim)).trans (Classical.choose_spec hJ.2.2.1)⟩, ⟨_, (hF1 (d) (fun j q hj => (show False from hj).elim)).trans (Classical.choose_spec hJ.2.2.2.1)⟩, (hF1 (x + 1) (fun j q hj => (show False from hj).elim)).trans hJ.2.2.2.2.1, (hF1 (x + 2) (fun j q hj => (show False from hj).elim)).trans hJ.2.2.2.2.2.1, C24.eq hJ.2.2.2.2.2.2.1 (hF1 (x + 24) (fun j q hj => (show False from hj).elim)), XC.eq hJ.2.2.2.2.2.2.2.1 (fun k9 q1 q2 => hF1 (x + k9) (fun j q hj => (show False from hj).elim)), SQ.eq hJ.2.2.2.2.2.2.2.2.1 (fun k9 q1 q2 => hF1 (x + k9) (fun j q hj => (show False from hj).elim)), CfC.eq hJ.2.2.2.2.2.2.2.2.2 (fun k9 q1 q2 => hF1 (x + k9) (fun j q hj => (show False from hj).elim))⟩
  refine z_pop B dL_law_1185 rfl ?_
  refine z_aload_n B dL_law_1186 rfl 3 rfl ?_
  obtain ⟨⟨rd, le, nx, kn, nu, va, st, th, hM⟩, hg0⟩ := hJ1.2.1
  obtain ⟨fs, hy0⟩ := JM.obj hJ1.2.1
  refine z_callV (As := []) (rest := []) B (r_queueLength G l Φ1 sz y rd (NNq c) (CaQ nC F) (TpQ nT Ft) (TtQ nT Ft) (SiQ sn.1) (AtQ sn.2.1) (PtQ 0 (fun _ => 0)) (QlQ qn qL) nC 0 le nx n qn kn co nu va st po (nI tm) aq ob (nI w) r e sm un nT th sn.2.2.1 qd (sn.2.2.2.2.toInt64 &&& 4294967295) sn.2.2.2.1   (by have := hD.1; omega) hM  (fun f9 h9 => h9.1)) (cwV 0 B.1.2.2.2.2 gL_law_X12_queueLength rfl rfl rfl (by decide +kernel) ⟨Nat.le_of_ble_eq_true rfl, Nat.le_of_ble_eq_true rfl⟩) hy0 rfl rfl rfl rfl (Nat.le_of_ble_eq_true rfl) dL_law_1187 (rmL (by omega) (by omega) (by decide) (by decide)) (fun v2 Φ2 sz2 st2 hp2 hs2 => ?_)
  obtain ⟨rfl, hz2, ⟨th1_, hM2⟩, hF2⟩ := hp2
  have hg2 := (hF2 (y + 25) (fun j q hj => by replace hj : j = 0 := hj; have := hD.1; have := hD.2.1; have := hD.2.2; omega)).trans hg0
  subst sz2
  replace hs2 : st2 = [.int (nI qn)] := hs2
  subst st2
  have hJ2 : JK G x y o d (ca) n f co po (tm, r, w, aq, e, ob, sm, un, (nC, F), (nT, Ft)) sn (qn, qL, qd) c n g co po (tm, r, w, aq, e, ob, sm, un, (nC, F), (nT, Ft)) sn (qn, qL, qd) c Φ2 := ⟨In.eq hJ1.1 (fun k hk => hF2 (x + k) (fun j q hj => by replace hj : j = 0 := hj; have := hD.1; have := hD.2.1; have := hD.2.2; omega)), ⟨⟨_, _, _, _, _, _, _, _, hM2⟩, hg2⟩, ⟨_, (hF2 (o) (fun j q hj => by replace hj : j = 0 := hj; have := hD.1; have := hD.2.1; have := hD.2.2; omega)).trans (Classical.choose_spec hJ1.2.2.1)⟩, ⟨_, (hF2 (d) (fun j q hj => by replace hj : j = 0 := hj; have := hD.1; have := hD.2.1; have := hD.2.2; omega)).trans (Classical.choose_spec hJ1.2.2.2.1)⟩, (hF2 (x + 1) (fun j q hj => by replace hj : j = 0 := hj; have := hD.1; have := hD.2.1; have := hD.2.2; omega)).trans hJ1.2.2.2.2.1, (hF2 (x + 2) (fun j q hj => by replace hj : j = 0 := hj; have := hD.1; have := hD.2.1; have := hD.2.2; omega)).trans hJ1.2.2.2.2.2.1, C24.eq hJ1.2.2.2.2.2.2.1 (hF2 (x + 24) (fun j q hj => by replace hj : j = 0 := hj; have := hD.1; have := hD.2.1; have := hD.2.2; omega)), XC.eq hJ1.2.2.2.2.2.2.2.1 (fun k9 q1 q2 => hF2 (x + k9) (fun j q hj => by replace hj : j = 0 := hj; have := hD.1; have := hD.2.1; have := hD.2.2; omega)), SQ.eq hJ1.2.2.2.2.2.2.2.2.1 (fun k9 q1 q2 => hF2 (x + k9) (fun j q hj => by replace hj : j = 0 := hj; have := hD.1; have := hD.2.1; have := hD.2.2; omega)), CfC.eq hJ1.2.2.2.2.2.2.2.2.2 (fun k9 q1 q2 => hF2 (x + k9) (fun j q hj => by replace hj : j = 0 := hj; have := hD.1; have := hD.2.1; have := hD.2.2; omega))⟩
  refine z_pop B dL_law_1190 rfl ?_
  refine z_goto (tgt := 2001) B dL_law_1191 rfl ?_
  refine z_widen (k := cells + 2) (n := slots + 12) (by omega) (by omega) ?_
  exact hT _ hd0 Φ2 sz (JJ.of (JK.up hJ2 (by omega)) hG rfl rfl rfl rfl rfl rfl rfl hEq)

set_option maxHeartbeats 4000000 in
set_option maxRecDepth 100000 in
theorem lc_33 {p9 : Program} {e9 : Env} {s9 : State} {m9 : MethodId} {a9 : Array Value} {w9 : List Frame} {t9 : Method} {k9 : Code} {Q9 : State → Prop} {nm9 : String} (G : EnvG) (l : Launch) (hl9 : l.stackTraces = false) {d0 : Drawn} (hd0 : s9.drawn.sameBut d0 lw_cs) (B : Bd p9 (s9.setDrawn d0) m9 a9 t9 k9 G code 9 RL wsL_law ret nm9) (Φ : Hm) (sz b L i : Nat) (xs : Nat → Int32) (hX : va_X b L xs (s9.setDrawn d0) (s9.setDrawn d0).heap) (hbn : b < G.2.2.2) (hL : L ≤ 3584) (hi : i + 7 ≤ L) (x y o d ca cells slots : Nat) (hna : G.2.2.2 ≤ x) (hD : Ds x y o d) (hca : ca ≤ 10000) (hcl : cells ≤ 8000) (hsl : slots ≤ 80000) (hJ : JJ G x y o d ca Φ) (hT : ∀ (d1 : Drawn), s9.drawn.sameBut d1 lw_cs → ∀ (Φ1 : Hm) (sz1 : Nat), JJ G x y o d (ca + 12) Φ1 → Z p9 l e9 room_1 (s9.setDrawn d1) m9 a9 w9 t9 k9 Q9 G 9 2001 [(5, .int (nI i)), (4, .ref d), (3, .ref o), (2, .ref y), (1, .ref x), (0, .ref b)] [] Φ1 sz1 (cells + 2) (slots + 12)) : Z p9 l e9 room_1 (s9.setDrawn d0) m9 a9 w9 t9 k9 Q9 G 9 1194 [(5, .int (nI i)), (4, .ref d), (3, .ref o), (2, .ref y), (1, .ref x), (0, .ref b)] [] Φ sz cells slots := by
  obtain ⟨n, f, g, co, po, ⟨tm, r, w, aq, e, ob, sm, un, ⟨nC, F⟩, nT, Ft⟩, sn, ⟨qn, qL, qd⟩, c, hJ, hG, hEq⟩ := hJ
  have hq12 : qn ≤ 12 := SQ.le hJ.2.2.2.2.2.2.2.2.1
  obtain ⟨t7, s7, hCA7⟩ := hJ.2.2.2.2.2.2.2.2.2
  have hW7 := CfA.W hCA7 hG
  have hR7 := CfA.R hCA7 hG
  refine z_aload_n B dL_law_1194 rfl 4 rfl ?_
  refine z_aload_n B dL_law_1195 rfl 5 rfl ?_
  refine z_iload B dL_law_1196 0 rfl ?_
  refine z_iconst (v := 1) B dL_law_1198 rfl ?_
  refine z_iadd B dL_law_1199 ?_
  refine z_sald B hX hbn (vinL (n := 1) rfl (by omega) hL) dL_law_1200 ?_
  refine z_aload_n B dL_law_1201 rfl 2 rfl ?_
  obtain ⟨fo, hco⟩ := hJ.2.2.1
  obtain ⟨t0, s0, hCA0⟩ := hJ.2.2.2.2.2.2.2.2.2
  have hS0 := hJ.2.2.2.2.2.2.2.2.1
  have hX0 := hJ.2.2.2.2.2.2.2.1
  refine z_callSW (As := [.ref x, .int (xs (nI i + 1).toNatClampNeg), .ref o]) (rest := []) B (w_messageLength G l hl9 Φ sz x ca tm r w aq e ob sm un nC F nT Ft sn qn qL qd t0 s0 c (xs (nI i + 1).toNatClampNeg) o fo hna (by have := hD.1; have := hD.2.1; have := hD.2.2; omega) (fun j hj => by have := hD.1; have := hD.2.1; have := hD.2.2; omega) hJ.1 hco hX0 hS0 hCA0 hG (JK.aq hJ)) (vx_cwSW 3 B.1.2.2.2.2 gL_law_L_messageLength rfl rfl rfl (by decide +kernel) ⟨Nat.le_of_ble_eq_true rfl, Nat.le_of_ble_eq_true rfl⟩) rfl rfl (Nat.le_of_ble_eq_true rfl) dL_law_1202 (rmL (by omega) (by omega) (by decide) (by decide)) (fun v1 Φ1 sz1 st1 hp1 hs1 => ?_)
  obtain ⟨⟨r1, fo1_, rfl, hv1, hA1⟩, hI1, ho1, hf1⟩ := hp1
  replace hs1 : st1 = [.int r1] := hs1
  subst st1
  have hJ1 : JK G x y o d (ca) n f co po (tm, r, w, aq, e, ob, sm, un, (nC, F), (nT, Ft)) sn (qn, qL, qd) c n g co po (tm, r, w, aq, e, ob, sm, un, (nC, F), (nT, Ft)) sn (qn, qL, qd) c Φ1 := ⟨hI1, JM.eq hJ.2.1 (fun k hk => hf1 (y + k) (fun j hj => (show False from hj).elim) (by have := hD.1; have := hD.2.1; have := hD.2.2; omega)), ho1, ⟨_, (hf1 d (fun j hj => (show False from hj).elim) (by have := hD.1; have := hD.2.1; have := hD.2.2; omega)).trans (Classical.choose_spec hJ.2.2.2.1)⟩, (hf1 (x + 1) (fun j hj => (show False from hj).elim) (by have := hD.1; have := hD.2.1; have := hD.2.2; omega)).trans hJ.2.2.2.2.1, (hf1 (x + 2) (fun j hj => (show False from hj).elim) (by have := hD.1; have := hD.2.1; have := hD.2.2; omega)).trans hJ.2.2.2.2.2.1, C24.eq hJ.2.2.2.2.2.2.1 (hf1 (x + 24) (fun j hj => (show False from hj).elim) (by have := hD.1; have := hD.2.1; have := hD.2.2; omega)), XC.eq hJ.2.2.2.2.2.2.2.1 (fun k9 q1 q2 => hf1 (x + k9) (fun j hj => (show False from hj).elim) (by have := hD.1; have := hD.2.1; have := hD.2.2; omega)), SQ.eq hJ.2.2.2.2.2.2.2.2.1 (fun k9 q1 q2 => hf1 (x + k9) (fun j hj => (show False from hj).elim) (by have := hD.1; have := hD.2.1; have := hD.2.2; omega)), CfC.eq hJ.2.2.2.2.2.2.2.2.2 (fun k9 q1 q2 => hf1 (x + k9) (fun j hj => (show False from hj).elim) (by have := hD.1; have := hD.2.1; have := hD.2.2; omega))⟩
  refine z_istore (lv' := [(6, .int r1), (5, .int (nI i)), (4, .ref d), (3, .ref o), (2, .ref y), (1, .ref x), (0, .ref b)]) B dL_law_1205 (Nat.le_of_ble_eq_true rfl) rfl ?_
  refine z_aload_n B dL_law_1207 rfl 4 rfl ?_
  refine z_aload_n B dL_law_1208 rfl 6 rfl ?_
  refine z_iload B dL_law_1209 1 rfl ?_
  refine z_iconst (v := 1) B dL_law_1211 rfl ?_
  refine z_iadd B dL_law_1212 ?_
  refine z_sald B hX hbn (vinL (n := 1) rfl (by omega) hL) dL_law_1213 ?_
  obtain ⟨⟨rd, le, nx, kn, nu, va, st, th, hM⟩, hg0⟩ := hJ1.2.1
  obtain ⟨fs, hy0⟩ := JM.obj hJ1.2.1
  refine z_callV (As := [.int (xs (nI i + 1).toNatClampNeg)]) (rest := []) B (r_messageLength G l Φ1 sz1 y rd (NNq c) (CaQ nC F) (TpQ nT Ft) (TtQ nT Ft) (SiQ sn.1) (AtQ sn.2.1) (PtQ 0 (fun _ => 0)) nC 0 le nx n qn kn co nu va st po (nI tm) aq ob (nI w) r e sm un nT th sn.2.2.1 qd (sn.2.2.2.2.toInt64 &&& 4294967295) sn.2.2.2.1 qL (xs (nI i + 1).toNatClampNeg) (by have := hD.1; omega) hM  (fun f9 h9 => h9.1)) (cwV 1 B.1.2.2.2.2 gL_law_X12_messageLength rfl rfl rfl (by decide +kernel) ⟨Nat.le_of_ble_eq_true rfl, Nat.le_of_ble_eq_true rfl⟩) hy0 rfl rfl rfl rfl (Nat.le_of_ble_eq_true rfl) dL_law_1214 (rmL (by omega) (by omega) (by decide) (by decide)) (fun v2 Φ2 sz2 st2 hp2 hs2 => ?_)
  obtain ⟨⟨r2, th2, l2_, rfl, hth2, hAr2⟩, hz2, ⟨th1_, hM2⟩, hF2⟩ := hp2
  have hk9 := AnsR_fun hA1 hAr2 (fun _ _ => rfl)
  have hg2 := (hF2 (y + 25) (fun j q hj => by replace hj : j = 0 := hj; have := hD.1; have := hD.2.1; have := hD.2.2; omega)).trans hg0
  subst sz2
  replace hs2 : st2 = [.int r2] := hs2
  subst st2
  have hJ2 : JK G x y o d (ca) n f co po (tm, r, w, aq, e, ob, sm, un, (nC, F), (nT, Ft)) sn (qn, qL, qd) c n g co po (tm, r, w, aq, e, ob, sm, un, (nC, F), (nT, Ft)) sn (qn, qL, qd) c Φ2 := ⟨In.eq hJ1.1 (fun k hk => hF2 (x + k) (fun j q hj => by replace hj : j = 0 := hj; have := hD.1; have := hD.2.1; have := hD.2.2; omega)), ⟨⟨_, _, _, _, _, _, _, _, hM2⟩, hg2⟩, ⟨_, (hF2 (o) (fun j q hj => by replace hj : j = 0 := hj; have := hD.1; have := hD.2.1; have := hD.2.2; omega)).trans (Classical.choose_spec hJ1.2.2.1)⟩, ⟨_, (hF2 (d) (fun j q hj => by replace hj : j = 0 := hj; have := hD.1; have := hD.2.1; have := hD.2.2; omega)).trans (Classical.choose_spec hJ1.2.2.2.1)⟩, (hF2 (x + 1) (fun j q hj => by replace hj : j = 0 := hj; have := hD.1; have := hD.2.1; have := hD.2.2; omega)).trans hJ1.2.2.2.2.1, (hF2 (x + 2) (fun j q hj => by replace hj : j = 0 := hj; have := hD.1; have := hD.2.1; have := hD.2.2; omega)).trans hJ1.2.2.2.2.2.1, C24.eq hJ1.2.2.2.2.2.2.1 (hF2 (x + 24) (fun j q hj => by replace hj : j = 0 := hj; have := hD.1; have := hD.2.1; have := hD.2.2; omega)), XC.eq hJ1.2.2.2.2.2.2.2.1 (fun k9 q1 q2 => hF2 (x + k9) (fun j q hj => by replace hj : j = 0 := hj; have := hD.1; have := hD.2.1; have := hD.2.2; omega)), SQ.eq hJ1.2.2.2.2.2.2.2.2.1 (fun k9 q1 q2 => hF2 (x + k9) (fun j q hj => by replace hj : j = 0 := hj; have := hD.1; have := hD.2.1; have := hD.2.2; omega)), CfC.eq hJ1.2.2.2.2.2.2.2.2.2 (fun k9 q1 q2 => hF2 (x + k9) (fun j q hj => by replace hj : j = 0 := hj; have := hD.1; have := hD.2.1; have := hD.2.2; omega))⟩
  have ho2 := (hF2 (o) (fun j q hj => by replace hj : j = 0 := hj; have := hD.1; have := hD.2.1; have := hD.2.2; omega)).trans hv1
  refine z_istore (lv' := [(7, .int r2), (6, .int r1), (5, .int (nI i)), (4, .ref d), (3, .ref o), (2, .ref y), (1, .ref x), (0, .ref b)]) B dL_law_1217 (Nat.le_of_ble_eq_true rfl) rfl ?_
  refine z_goto (tgt := 2001) B dL_law_1219 rfl ?_
  refine z_lv [2, 3, 4, 5, 6, 7] rfl ?_
  refine z_widen (k := cells + 2) (n := slots + 12) (by omega) (by omega) ?_
  exact hT _ hd0 Φ2 sz1 (JJ.of (JK.up hJ2 (by omega)) hG rfl rfl rfl rfl rfl rfl rfl hEq)

set_option maxHeartbeats 4000000 in
set_option maxRecDepth 100000 in
theorem lc_34 {p9 : Program} {e9 : Env} {s9 : State} {m9 : MethodId} {a9 : Array Value} {w9 : List Frame} {t9 : Method} {k9 : Code} {Q9 : State → Prop} {nm9 : String} (G : EnvG) (l : Launch) (hl9 : l.stackTraces = false) {d0 : Drawn} (hd0 : s9.drawn.sameBut d0 lw_cs) (B : Bd p9 (s9.setDrawn d0) m9 a9 t9 k9 G code 9 RL wsL_law ret nm9) (Φ : Hm) (sz b L i : Nat) (xs : Nat → Int32) (hX : va_X b L xs (s9.setDrawn d0) (s9.setDrawn d0).heap) (hbn : b < G.2.2.2) (hL : L ≤ 3584) (hi : i + 7 ≤ L) (x y o d ca cells slots : Nat) (hna : G.2.2.2 ≤ x) (hD : Ds x y o d) (hca : ca ≤ 10000) (hcl : cells ≤ 8000) (hsl : slots ≤ 80000) (hJ : JJ G x y o d ca Φ) (hT : ∀ (d1 : Drawn), s9.drawn.sameBut d1 lw_cs → ∀ (Φ1 : Hm) (sz1 : Nat), JJ G x y o d (ca + 12) Φ1 → Z p9 l e9 room_1 (s9.setDrawn d1) m9 a9 w9 t9 k9 Q9 G 9 2001 [(5, .int (nI i)), (4, .ref d), (3, .ref o), (2, .ref y), (1, .ref x), (0, .ref b)] [] Φ1 sz1 (cells + 2) (slots + 12)) : Z p9 l e9 room_1 (s9.setDrawn d0) m9 a9 w9 t9 k9 Q9 G 9 1222 [(5, .int (nI i)), (4, .ref d), (3, .ref o), (2, .ref y), (1, .ref x), (0, .ref b)] [] Φ sz cells slots := by
  obtain ⟨n, f, g, co, po, ⟨tm, r, w, aq, e, ob, sm, un, ⟨nC, F⟩, nT, Ft⟩, sn, ⟨qn, qL, qd⟩, c, hJ, hG, hEq⟩ := hJ
  have hq12 : qn ≤ 12 := SQ.le hJ.2.2.2.2.2.2.2.2.1
  obtain ⟨t7, s7, hCA7⟩ := hJ.2.2.2.2.2.2.2.2.2
  have hW7 := CfA.W hCA7 hG
  have hR7 := CfA.R hCA7 hG
  refine z_aload_n B dL_law_1222 rfl 4 rfl ?_
  refine z_aload_n B dL_law_1223 rfl 5 rfl ?_
  refine z_iload B dL_law_1224 0 rfl ?_
  refine z_iconst (v := 1) B dL_law_1226 rfl ?_
  refine z_iadd B dL_law_1227 ?_
  refine z_sald B hX hbn (vinL (n := 1) rfl (by omega) hL) dL_law_1228 ?_
  refine z_aload_n B dL_law_1229 rfl 5 rfl ?_
  refine z_iload B dL_law_1230 0 rfl ?_
  refine z_iconst (v := 2) B dL_law_1232 rfl ?_
  refine z_iadd B dL_law_1233 ?_
  refine z_sald B hX hbn (vinL (n := 2) rfl (by omega) hL) dL_law_1234 ?_
  refine z_aload_n B dL_law_1235 rfl 2 rfl ?_
  obtain ⟨fo, hco⟩ := hJ.2.2.1
  refine z_callSW (As := [.ref x, .int (xs (nI i + 1).toNatClampNeg), .int (xs (nI i + 2).toNatClampNeg), .ref o]) (rest := []) B (w_messageByte G l hl9 Φ sz x ca (xs (nI i + 1).toNatClampNeg) (xs (nI i + 2).toNatClampNeg) o fo hna (by have := hD.1; have := hD.2.1; have := hD.2.2; omega) (fun j hj => by have := hD.1; have := hD.2.1; have := hD.2.2; omega) hJ.1 hco ) (vx_cwSW 4 B.1.2.2.2.2 gL_law_L_messageByte rfl rfl rfl (by decide +kernel) ⟨Nat.le_of_ble_eq_true rfl, Nat.le_of_ble_eq_true rfl⟩) rfl rfl (Nat.le_of_ble_eq_true rfl) dL_law_1236 (rmL (by omega) (by omega) (by decide) (by decide)) (fun v1 Φ1 sz1 st1 hp1 hs1 => ?_)
  obtain ⟨⟨r1, rfl⟩, hI1, ho1, hf1⟩ := hp1
  replace hs1 : st1 = [.int r1] := hs1
  subst st1
  have hJ1 : JK G x y o d (ca) n f co po (tm, r, w, aq, e, ob, sm, un, (nC, F), (nT, Ft)) sn (qn, qL, qd) c n g co po (tm, r, w, aq, e, ob, sm, un, (nC, F), (nT, Ft)) sn (qn, qL, qd) c Φ1 := ⟨hI1, JM.eq hJ.2.1 (fun k hk => hf1 (y + k) (fun j hj => (show False from hj).elim) (by have := hD.1; have := hD.2.1; have := hD.2.2; omega)), ho1, ⟨_, (hf1 d (fun j hj => (show False from hj).elim) (by have := hD.1; have := hD.2.1; have := hD.2.2; omega)).trans (Classical.choose_spec hJ.2.2.2.1)⟩, (hf1 (x + 1) (fun j hj => (show False from hj).elim) (by have := hD.1; have := hD.2.1; have := hD.2.2; omega)).trans hJ.2.2.2.2.1, (hf1 (x + 2) (fun j hj => (show False from hj).elim) (by have := hD.1; have := hD.2.1; have := hD.2.2; omega)).trans hJ.2.2.2.2.2.1, C24.eq hJ.2.2.2.2.2.2.1 (hf1 (x + 24) (fun j hj => (show False from hj).elim) (by have := hD.1; have := hD.2.1; have := hD.2.2; omega)), XC.eq hJ.2.2.2.2.2.2.2.1 (fun k9 q1 q2 => hf1 (x + k9) (fun j hj => (show False from hj).elim) (by have := hD.1; have := hD.2.1; have := hD.2.2; omega)), SQ.eq hJ.2.2.2.2.2.2.2.2.1 (fun k9 q1 q2 => hf1 (x + k9) (fun j hj => (show False from hj).elim) (by have := hD.1; have := hD.2.1; have := hD.2.2; omega)), CfC.eq hJ.2.2.2.2.2.2.2.2.2 (fun k9 q1 q2 => hf1 (x + k9) (fun j hj => (show False from hj).elim) (by have := hD.1; have := hD.2.1; have := hD.2.2; omega))⟩
  refine z_istore (lv' := [(6, .int r1), (5, .int (nI i)), (4, .ref d), (3, .ref o), (2, .ref y), (1, .ref x), (0, .ref b)]) B dL_law_1239 (Nat.le_of_ble_eq_true rfl) rfl ?_
  refine z_aload_n B dL_law_1241 rfl 4 rfl ?_
  refine z_aload_n B dL_law_1242 rfl 6 rfl ?_
  refine z_iload B dL_law_1243 1 rfl ?_
  refine z_iconst (v := 1) B dL_law_1245 rfl ?_
  refine z_iadd B dL_law_1246 ?_
  refine z_sald B hX hbn (vinL (n := 1) rfl (by omega) hL) dL_law_1247 ?_
  refine z_aload_n B dL_law_1248 rfl 6 rfl ?_
  refine z_iload B dL_law_1249 1 rfl ?_
  refine z_iconst (v := 2) B dL_law_1251 rfl ?_
  refine z_iadd B dL_law_1252 ?_
  refine z_sald B hX hbn (vinL (n := 2) rfl (by omega) hL) dL_law_1253 ?_
  obtain ⟨⟨rd, le, nx, kn, nu, va, st, th, hM⟩, hg0⟩ := hJ1.2.1
  obtain ⟨fs, hy0⟩ := JM.obj hJ1.2.1
  refine z_callV (As := [.int (xs (nI i + 1).toNatClampNeg), .int (xs (nI i + 2).toNatClampNeg)]) (rest := []) B (r_messageByte G l Φ1 sz1 y rd (NNq c) (CaQ nC F) (TpQ nT Ft) (TtQ nT Ft) (SiQ sn.1) (AtQ sn.2.1) (PtQ 0 (fun _ => 0)) (QlQ qn qL) nC 0 le nx n qn kn co nu va st po (nI tm) aq ob (nI w) r e sm un nT th sn.2.2.1 qd (sn.2.2.2.2.toInt64 &&& 4294967295) sn.2.2.2.1  (xs (nI i + 1).toNatClampNeg) (xs (nI i + 2).toNatClampNeg) (by have := hD.1; omega) hM  (fun f9 h9 => h9.1)) (cwV 2 B.1.2.2.2.2 gL_law_X12_messageByte rfl rfl rfl (by decide +kernel) ⟨Nat.le_of_ble_eq_true rfl, Nat.le_of_ble_eq_true rfl⟩) hy0 rfl rfl rfl rfl (Nat.le_of_ble_eq_true rfl) dL_law_1254 (rmL (by omega) (by omega) (by decide) (by decide)) (fun v2 Φ2 sz2 st2 hp2 hs2 => ?_)
  obtain ⟨⟨r2, rfl⟩, hz2, ⟨th1_, hM2⟩, hF2⟩ := hp2
  have hg2 := (hF2 (y + 25) (fun j q hj => by replace hj : j = 0 := hj; have := hD.1; have := hD.2.1; have := hD.2.2; omega)).trans hg0
  subst sz2
  replace hs2 : st2 = [.int r2] := hs2
  subst st2
  have hJ2 : JK G x y o d (ca) n f co po (tm, r, w, aq, e, ob, sm, un, (nC, F), (nT, Ft)) sn (qn, qL, qd) c n g co po (tm, r, w, aq, e, ob, sm, un, (nC, F), (nT, Ft)) sn (qn, qL, qd) c Φ2 := ⟨In.eq hJ1.1 (fun k hk => hF2 (x + k) (fun j q hj => by replace hj : j = 0 := hj; have := hD.1; have := hD.2.1; have := hD.2.2; omega)), ⟨⟨_, _, _, _, _, _, _, _, hM2⟩, hg2⟩, ⟨_, (hF2 (o) (fun j q hj => by replace hj : j = 0 := hj; have := hD.1; have := hD.2.1; have := hD.2.2; omega)).trans (Classical.choose_spec hJ1.2.2.1)⟩, ⟨_, (hF2 (d) (fun j q hj => by replace hj : j = 0 := hj; have := hD.1; have := hD.2.1; have := hD.2.2; omega)).trans (Classical.choose_spec hJ1.2.2.2.1)⟩, (hF2 (x + 1) (fun j q hj => by replace hj : j = 0 := hj; have := hD.1; have := hD.2.1; have := hD.2.2; omega)).trans hJ1.2.2.2.2.1, (hF2 (x + 2) (fun j q hj => by replace hj : j = 0 := hj; have := hD.1; have := hD.2.1; have := hD.2.2; omega)).trans hJ1.2.2.2.2.2.1, C24.eq hJ1.2.2.2.2.2.2.1 (hF2 (x + 24) (fun j q hj => by replace hj : j = 0 := hj; have := hD.1; have := hD.2.1; have := hD.2.2; omega)), XC.eq hJ1.2.2.2.2.2.2.2.1 (fun k9 q1 q2 => hF2 (x + k9) (fun j q hj => by replace hj : j = 0 := hj; have := hD.1; have := hD.2.1; have := hD.2.2; omega)), SQ.eq hJ1.2.2.2.2.2.2.2.2.1 (fun k9 q1 q2 => hF2 (x + k9) (fun j q hj => by replace hj : j = 0 := hj; have := hD.1; have := hD.2.1; have := hD.2.2; omega)), CfC.eq hJ1.2.2.2.2.2.2.2.2.2 (fun k9 q1 q2 => hF2 (x + k9) (fun j q hj => by replace hj : j = 0 := hj; have := hD.1; have := hD.2.1; have := hD.2.2; omega))⟩
  refine z_istore (lv' := [(7, .int r2), (6, .int r1), (5, .int (nI i)), (4, .ref d), (3, .ref o), (2, .ref y), (1, .ref x), (0, .ref b)]) B dL_law_1257 (Nat.le_of_ble_eq_true rfl) rfl ?_
  refine z_goto (tgt := 2001) B dL_law_1259 rfl ?_
  refine z_lv [2, 3, 4, 5, 6, 7] rfl ?_
  refine z_widen (k := cells + 2) (n := slots + 12) (by omega) (by omega) ?_
  exact hT _ hd0 Φ2 sz1 (JJ.of (JK.up hJ2 (by omega)) hG rfl rfl rfl rfl rfl rfl rfl hEq)
