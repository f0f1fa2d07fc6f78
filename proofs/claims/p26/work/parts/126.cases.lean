set_option maxHeartbeats 4000000 in
set_option maxRecDepth 100000 in
theorem lc_14 {p9 : Program} {e9 : Env} {s9 : State} {m9 : MethodId} {a9 : Array Value} {w9 : List Frame} {t9 : Method} {k9 : Code} {Q9 : State → Prop} {nm9 : String} (G : EnvG) (l : Launch) (hl9 : l.stackTraces = false) {d0 : Drawn} (hd0 : s9.drawn.sameBut d0 lw_cs) (B : Bd p9 (s9.setDrawn d0) m9 a9 t9 k9 G code 9 RL wsL_law ret nm9) (Φ : Hm) (sz b L i : Nat) (xs : Nat → Int32) (hX : va_X b L xs (s9.setDrawn d0) (s9.setDrawn d0).heap) (hbn : b < G.2.2.2) (hL : L ≤ 3584) (hi : i + 7 ≤ L) (x y o d ca cells slots : Nat) (hna : G.2.2.2 ≤ x) (hD : Ds x y o d) (hca : ca ≤ 10000) (hcl : cells ≤ 8000) (hsl : slots ≤ 80000) (hJ : JJ G x y o d ca Φ) (hT : ∀ (d1 : Drawn), s9.drawn.sameBut d1 lw_cs → ∀ (Φ1 : Hm) (sz1 : Nat), JJ G x y o d (ca + 12) Φ1 → Z p9 l e9 room_1 (s9.setDrawn d1) m9 a9 w9 t9 k9 Q9 G 9 2001 [(5, .int (nI i)), (4, .ref d), (3, .ref o), (2, .ref y), (1, .ref x), (0, .ref b)] [] Φ1 sz1 (cells + 2) (slots + 12)) : Z p9 l e9 room_1 (s9.setDrawn d0) m9 a9 w9 t9 k9 Q9 G 9 732 [(5, .int (nI i)), (4, .ref d), (3, .ref o), (2, .ref y), (1, .ref x), (0, .ref b)] [] Φ sz cells slots := by
  obtain ⟨n, f, g, co, po, ⟨tm, r, w, aq, e, ob, sm, un, ⟨nC, F⟩, nT, Ft⟩, sn, ⟨qn, qL, qd⟩, c, hJ, hG, hEq⟩ := hJ
  have hq12 : qn ≤ 12 := SQ.le hJ.2.2.2.2.2.2.2.2.1
  obtain ⟨t7, s7, hCA7⟩ := hJ.2.2.2.2.2.2.2.2.2
  have hW7 := CfA.W hCA7 hG
  have hR7 := CfA.R hCA7 hG
  refine z_aload_n B dL_law_732 rfl 4 rfl ?_
  refine z_aload_n B dL_law_733 rfl 5 rfl ?_
  refine z_iload B dL_law_734 0 rfl ?_
  refine z_iconst (v := 1) B dL_law_736 rfl ?_
  refine z_iadd B dL_law_737 ?_
  refine z_sald B hX hbn (vinL (n := 1) rfl (by omega) hL) dL_law_738 ?_
  have h0 : Φ x = some (o_ 13 [.ref (x + 1), .ref (x + 3), .ref (x + 24), .ref (x + 46), .ref (x + 74), .ref (x + 80), .ref (x + 132), .ref (x + 121)]) := in0 (k := 0) hJ.1 rfl
  obtain ⟨xp0, xb0, pp0, pt0, hxe, hE0, h810, h950, hTC0, hTT0, hb0⟩ := hJ.2.2.2.2.2.2.2.1
  replace hxe : xp0 - xb0 = e := hxe
  have hSQ0 := hJ.2.2.2.2.2.2.2.2.1
  obtain ⟨hSd0, qp0, hQ0_⟩ := hSQ0
  have hQ0 : QbR G x qn qL qd qp0 Φ := hQ0_
  obtain ⟨t0, s0, hCA0⟩ := hJ.2.2.2.2.2.2.2.2.2
  refine z_callV (As := [.int (xs (nI i + 1).toNatClampNeg)]) (rest := []) B (s_X11_setRateX G l Φ sz x ca tm r w aq xp0 xb0 ob sm (un, 0, fun _ => 0) nC F pp0 t0 s0 c sn qn qL qd qp0 (xs (nI i + 1).toNatClampNeg) hna hJ.1 hE0 h810 hTC0 hCA0 (SdP.eq0 rfl hSd0) hQ0 (TbR.le hTC0) ⟨hb0.2.1, hb0.2.2.1⟩ hG (JK.aq hJ) rfl) (cwV 1 B.1.2.2.2.2 gL_law_X11_setRate rfl rfl rfl (by decide +kernel) ⟨Nat.le_of_ble_eq_true rfl, Nat.le_of_ble_eq_true rfl⟩) h0 rfl rfl rfl rfl (Nat.le_of_ble_eq_true rfl) dL_law_739 (rmL (by omega) (by omega) (by decide) (by decide)) (fun v1 Φ1 sz1 st1 hp1 hs1 => ?_)
  obtain ⟨⟨r1, n8_, F8_, u8_, r8_, d8_, p8_, s8_, qn8_, qL8_, qd8_, rfl, hE1, h811, hTC1, hSd1, hQ1, hf1, hf2, hf3, hsp⟩, hz1, hI1, hF1⟩ := hp1
  obtain ⟨y1, hX1, hS1, hZ9⟩ := XY_sr (T := (nT, Ft)) hxe hb0 hf3 hE1 h811 ((hF1 (x + 95) (fun j q hj => by replace hj : 46 ≤ j ∧ j < 95 := hj; have := hD.1; have := hD.2.1; have := hD.2.2; omega)).trans h950) hTC1 (TbR.mv hTT0 (fun j9 q1 q2 _ => hF1 (x + j9) (fun j q hj => by replace hj : 46 ≤ j ∧ j < 95 := hj; have := hD.1; have := hD.2.1; have := hD.2.2; omega))) (SdP.z0 hSd1) hQ1 hf1 hsp
  subst sz1
  replace hs1 : st1 = [.int r1] := hs1
  subst st1
  have hJ1 : JK G x y o d (ca) n f co po y1.1 y1.2.1 y1.2.2 c n g co po (tm, r, w, aq, e, ob, sm, un, (nC, F), (nT, Ft)) sn (qn, qL, qd) c Φ1 := ⟨hI1, JM.eq hJ.2.1 (fun k hk => hF1 (y + k) (fun j q hj => by replace hj : 46 ≤ j ∧ j < 95 := hj; have := hD.1; have := hD.2.1; have := hD.2.2; omega)), ⟨_, (hF1 (o) (fun j q hj => by replace hj : 46 ≤ j ∧ j < 95 := hj; have := hD.1; have := hD.2.1; have := hD.2.2; omega)).trans (Classical.choose_spec hJ.2.2.1)⟩, ⟨_, (hF1 (d) (fun j q hj => by replace hj : 46 ≤ j ∧ j < 95 := hj; have := hD.1; have := hD.2.1; have := hD.2.2; omega)).trans (Classical.choose_spec hJ.2.2.2.1)⟩, (hF1 (x + 1) (fun j q hj => by replace hj : 46 ≤ j ∧ j < 95 := hj; have := hD.1; have := hD.2.1; have := hD.2.2; omega)).trans hJ.2.2.2.2.1, (hF1 (x + 2) (fun j q hj => by replace hj : 46 ≤ j ∧ j < 95 := hj; have := hD.1; have := hD.2.1; have := hD.2.2; omega)).trans hJ.2.2.2.2.2.1, C24.eq hJ.2.2.2.2.2.2.1 (hF1 (x + 24) (fun j q hj => by replace hj : 46 ≤ j ∧ j < 95 := hj; have := hD.1; have := hD.2.1; have := hD.2.2; omega)), hX1, hS1, CfC.eq hJ.2.2.2.2.2.2.2.2.2 (fun k9 q1 q2 => hF1 (x + k9) (fun j q hj => by replace hj : 46 ≤ j ∧ j < 95 := hj; have := hD.1; have := hD.2.1; have := hD.2.2; omega))⟩
  refine z_pop B dL_law_742 rfl ?_
  refine z_aload_n B dL_law_743 rfl 3 rfl ?_
  refine z_aload_n B dL_law_744 rfl 5 rfl ?_
  refine z_iload B dL_law_745 0 rfl ?_
  refine z_iconst (v := 1) B dL_law_747 rfl ?_
  refine z_iadd B dL_law_748 ?_
  refine z_sald B hX hbn (vinL (n := 1) rfl (by omega) hL) dL_law_749 ?_
  obtain ⟨⟨rd, le, nx, kn, nu, va, st, th, hM⟩, hg0⟩ := hJ1.2.1
  obtain ⟨fs, hy0⟩ := JM.obj hJ1.2.1
  refine z_callV (As := [.int (xs (nI i + 1).toNatClampNeg)]) (rest := []) B (r_setRate G l Φ1 sz y rd (TpQ nT Ft) (TtQ nT Ft) nC le nx n qn kn co nu va st po (nI tm) aq ob (nI w) r e sm un nT th sn.2.2.1 qd (sn.2.2.2.2.toInt64 &&& 4294967295) sn.2.2.2.1 c F sn.1 sn.2.1 qL sn.2.2.2.2 (xs (nI i + 1).toNatClampNeg) (by have := hD.1; omega) hM  hW7 hG hR7 rfl) (cwV 1 B.1.2.2.2.2 gL_law_X12_setRate rfl rfl rfl (by decide +kernel) ⟨Nat.le_of_ble_eq_true rfl, Nat.le_of_ble_eq_true rfl⟩) hy0 rfl rfl rfl rfl (Nat.le_of_ble_eq_true rfl) dL_law_750 (rmL (by omega) (by omega) (by decide) (by decide)) (fun v2 Φ2 sz2 st2 hp2 hs2 => ?_)
  obtain ⟨⟨r2, rfl⟩, hz2, ⟨u1_, fl1_, ex1_, F1_, fa1_, fb1_, L1_, me1_, dr1_, se1_, sn1_, sq1_, le1_, qu1_, rt1_, v1_, k1_, th1_, pt1_, hR2_0, hR2_1, hR2_2, hR2_3, hM2⟩, hF2⟩ := hp2
  subst hR2_3
  have hg2 := (hF2 (y + 25) (fun j q hj => by replace hj : j = 0 ∨ j = 3 ∨ j = 4 ∨ j = 5 ∨ j = 6 ∨ j = 7 ∨ j = 8 ∨ j = 9 ∨ j = 10 := hj; have := hD.1; have := hD.2.1; have := hD.2.2; omega)).trans hg0
  have hq := SrY_fun hZ9 (fin_sr (T := (nT, Ft)) (tm := tm) (w := w) (aq := aq) (ob := ob) (sm := sm) (s := sn) (q := (qn, qL, qd)) hR2_1 hR2_2)
  subst sz2
  replace hs2 : st2 = [.int r2] := hs2
  subst st2
  have hJ2 : JK G x y o d (ca) n f co po y1.1 y1.2.1 y1.2.2 c n g co po (tm, rt1_, w, aq, ex1_, ob, sm, u1_.1, (fl1_, F1_), (nT, Ft)) (fa1_, fb1_, me1_, sn1_, sq1_) (qu1_, L1_, dr1_) c Φ2 := ⟨In.eq hJ1.1 (fun k hk => hF2 (x + k) (fun j q hj => by replace hj : j = 0 ∨ j = 3 ∨ j = 4 ∨ j = 5 ∨ j = 6 ∨ j = 7 ∨ j = 8 ∨ j = 9 ∨ j = 10 := hj; have := hD.1; have := hD.2.1; have := hD.2.2; omega)), ⟨⟨_, _, _, _, _, _, _, _, hM2⟩, hg2⟩, ⟨_, (hF2 (o) (fun j q hj => by replace hj : j = 0 ∨ j = 3 ∨ j = 4 ∨ j = 5 ∨ j = 6 ∨ j = 7 ∨ j = 8 ∨ j = 9 ∨ j = 10 := hj; have := hD.1; have := hD.2.1; have := hD.2.2; omega)).trans (Classical.choose_spec hJ1.2.2.1)⟩, ⟨_, (hF2 (d) (fun j q hj => by replace hj : j = 0 ∨ j = 3 ∨ j = 4 ∨ j = 5 ∨ j = 6 ∨ j = 7 ∨ j = 8 ∨ j = 9 ∨ j = 10 := hj; have := hD.1; have := hD.2.1; have := hD.2.2; omega)).trans (Classical.choose_spec hJ1.2.2.2.1)⟩, (hF2 (x + 1) (fun j q hj => by replace hj : j = 0 ∨ j = 3 ∨ j = 4 ∨ j = 5 ∨ j = 6 ∨ j = 7 ∨ j = 8 ∨ j = 9 ∨ j = 10 := hj; have := hD.1; have := hD.2.1; have := hD.2.2; omega)).trans hJ1.2.2.2.2.1, (hF2 (x + 2) (fun j q hj => by replace hj : j = 0 ∨ j = 3 ∨ j = 4 ∨ j = 5 ∨ j = 6 ∨ j = 7 ∨ j = 8 ∨ j = 9 ∨ j = 10 := hj; have := hD.1; have := hD.2.1; have := hD.2.2; omega)).trans hJ1.2.2.2.2.2.1, C24.eq hJ1.2.2.2.2.2.2.1 (hF2 (x + 24) (fun j q hj => by replace hj : j = 0 ∨ j = 3 ∨ j = 4 ∨ j = 5 ∨ j = 6 ∨ j = 7 ∨ j = 8 ∨ j = 9 ∨ j = 10 := hj; have := hD.1; have := hD.2.1; have := hD.2.2; omega)), XC.eq hJ1.2.2.2.2.2.2.2.1 (fun k9 q1 q2 => hF2 (x + k9) (fun j q hj => by replace hj : j = 0 ∨ j = 3 ∨ j = 4 ∨ j = 5 ∨ j = 6 ∨ j = 7 ∨ j = 8 ∨ j = 9 ∨ j = 10 := hj; have := hD.1; have := hD.2.1; have := hD.2.2; omega)), SQ.eq hJ1.2.2.2.2.2.2.2.2.1 (fun k9 q1 q2 => hF2 (x + k9) (fun j q hj => by replace hj : j = 0 ∨ j = 3 ∨ j = 4 ∨ j = 5 ∨ j = 6 ∨ j = 7 ∨ j = 8 ∨ j = 9 ∨ j = 10 := hj; have := hD.1; have := hD.2.1; have := hD.2.2; omega)), CfC.eq hJ1.2.2.2.2.2.2.2.2.2 (fun k9 q1 q2 => hF2 (x + k9) (fun j q hj => by replace hj : j = 0 ∨ j = 3 ∨ j = 4 ∨ j = 5 ∨ j = 6 ∨ j = 7 ∨ j = 8 ∨ j = 9 ∨ j = 10 := hj; have := hD.1; have := hD.2.1; have := hD.2.2; omega))⟩
  refine z_pop B dL_law_753 rfl ?_
  refine z_goto (tgt := 2001) B dL_law_754 rfl ?_
  refine z_widen (k := cells + 2) (n := slots + 12) (by omega) (by omega) ?_
  exact hT _ hd0 Φ2 sz (JJ.of (JK.up hJ2 (by omega)) hG rfl rfl rfl (congrArg (fun w9 : YZ => w9.1) hq.1) (congrArg (fun w9 : YZ => w9.2.1) hq.1) (congrArg (fun w9 : YZ => w9.2.2) hq.1) rfl hEq)

set_option maxHeartbeats 4000000 in
set_option maxRecDepth 100000 in
theorem lc_15 {p9 : Program} {e9 : Env} {s9 : State} {m9 : MethodId} {a9 : Array Value} {w9 : List Frame} {t9 : Method} {k9 : Code} {Q9 : State → Prop} {nm9 : String} (G : EnvG) (l : Launch) (hl9 : l.stackTraces = false) {d0 : Drawn} (hd0 : s9.drawn.sameBut d0 lw_cs) (B : Bd p9 (s9.setDrawn d0) m9 a9 t9 k9 G code 9 RL wsL_law ret nm9) (Φ : Hm) (sz b L i : Nat) (xs : Nat → Int32) (hX : va_X b L xs (s9.setDrawn d0) (s9.setDrawn d0).heap) (hbn : b < G.2.2.2) (hL : L ≤ 3584) (hi : i + 7 ≤ L) (x y o d ca cells slots : Nat) (hna : G.2.2.2 ≤ x) (hD : Ds x y o d) (hca : ca ≤ 10000) (hcl : cells ≤ 8000) (hsl : slots ≤ 80000) (hJ : JJ G x y o d ca Φ) (hT : ∀ (d1 : Drawn), s9.drawn.sameBut d1 lw_cs → ∀ (Φ1 : Hm) (sz1 : Nat), JJ G x y o d (ca + 12) Φ1 → Z p9 l e9 room_1 (s9.setDrawn d1) m9 a9 w9 t9 k9 Q9 G 9 2001 [(5, .int (nI i)), (4, .ref d), (3, .ref o), (2, .ref y), (1, .ref x), (0, .ref b)] [] Φ1 sz1 (cells + 2) (slots + 12)) : Z p9 l e9 room_1 (s9.setDrawn d0) m9 a9 w9 t9 k9 Q9 G 9 757 [(5, .int (nI i)), (4, .ref d), (3, .ref o), (2, .ref y), (1, .ref x), (0, .ref b)] [] Φ sz cells slots := by
  obtain ⟨n, f, g, co, po, ⟨tm, r, w, aq, e, ob, sm, un, ⟨nC, F⟩, nT, Ft⟩, sn, ⟨qn, qL, qd⟩, c, hJ, hG, hEq⟩ := hJ
  have hq12 : qn ≤ 12 := SQ.le hJ.2.2.2.2.2.2.2.2.1
  obtain ⟨t7, s7, hCA7⟩ := hJ.2.2.2.2.2.2.2.2.2
  have hW7 := CfA.W hCA7 hG
  have hR7 := CfA.R hCA7 hG
  refine z_aload_n B dL_law_757 rfl 4 rfl ?_
  refine z_aload_n B dL_law_758 rfl 5 rfl ?_
  refine z_iload B dL_law_759 0 rfl ?_
  refine z_iconst (v := 1) B dL_law_761 rfl ?_
  refine z_iadd B dL_law_762 ?_
  refine z_sald B hX hbn (vinL (n := 1) rfl (by omega) hL) dL_law_763 ?_
  refine z_if_eq (tgt := 771) B dL_law_764 rfl (fun c_1 => ?_) (fun c_1 => ?_)
  · refine z_iconst (v := 0) B dL_law_771 rfl ?_
    have h0 : Φ x = some (o_ 13 [.ref (x + 1), .ref (x + 3), .ref (x + 24), .ref (x + 46), .ref (x + 74), .ref (x + 80), .ref (x + 132), .ref (x + 121)]) := in0 (k := 0) hJ.1 rfl
    obtain ⟨xp0, xb0, pp0, pt0, hxe, hE0, h810, h950, hTC0, hTT0, hb0⟩ := hJ.2.2.2.2.2.2.2.1
    replace hxe : xp0 - xb0 = e := hxe
    refine z_callV (As := [.int 0]) (rest := []) B (s_X11_setAdaptive G l Φ sz x ca (nI tm) (nI r) (nI w) aq xp0 xb0 ob sm un 0 hna hJ.1 hE0 (by decide) (JK.aq hJ)) (cwV 1 B.1.2.2.2.2 gL_law_X11_setAdaptive rfl rfl rfl (by decide +kernel) ⟨Nat.le_of_ble_eq_true rfl, Nat.le_of_ble_eq_true rfl⟩) h0 rfl rfl rfl rfl (Nat.le_of_ble_eq_true rfl) dL_law_772 (rmL (by omega) (by omega) (by decide) (by decide)) (fun v1 Φ1 sz1 st1 hp1 hs1 => ?_)
    obtain ⟨⟨rfl, hE1⟩, hz1, hI1, hF1⟩ := hp1
    subst sz1
    replace hs1 : st1 = [.int aq] := hs1
    subst st1
    have hJ1 : JK G x y o d (ca) n f co po (tm, r, w, 0, e, ob, sm, un, (nC, F), (nT, Ft)) sn (qn, qL, qd) c n g co po (tm, r, w, aq, e, ob, sm, un, (nC, F), (nT, Ft)) sn (qn, qL, qd) c Φ1 := ⟨hI1, JM.eq hJ.2.1 (fun k hk => hF1 (y + k) (fun j q hj => by replace hj : j = 80 := hj; have := hD.1; have := hD.2.1; have := hD.2.2; omega)), ⟨_, (hF1 (o) (fun j q hj => by replace hj : j = 80 := hj; have := hD.1; have := hD.2.1; have := hD.2.2; omega)).trans (Classical.choose_spec hJ.2.2.1)⟩, ⟨_, (hF1 (d) (fun j q hj => by replace hj : j = 80 := hj; have := hD.1; have := hD.2.1; have := hD.2.2; omega)).trans (Classical.choose_spec hJ.2.2.2.1)⟩, (hF1 (x + 1) (fun j q hj => by replace hj : j = 80 := hj; have := hD.1; have := hD.2.1; have := hD.2.2; omega)).trans hJ.2.2.2.2.1, (hF1 (x + 2) (fun j q hj => by replace hj : j = 80 := hj; have := hD.1; have := hD.2.1; have := hD.2.2; omega)).trans hJ.2.2.2.2.2.1, C24.eq hJ.2.2.2.2.2.2.1 (hF1 (x + 24) (fun j q hj => by replace hj : j = 80 := hj; have := hD.1; have := hD.2.1; have := hD.2.2; omega)), (XC_aq (T := (nT, Ft)) (C := (nC, F)) hxe hb0 hE1 ((hF1 (x + 81) (fun j q hj => by replace hj : j = 80 := hj; have := hD.1; have := hD.2.1; have := hD.2.2; omega)).trans h810) ((hF1 (x + 95) (fun j q hj => by replace hj : j = 80 := hj; have := hD.1; have := hD.2.1; have := hD.2.2; omega)).trans h950) (TbR.mv hTC0 (fun j9 q1 q2 _ => hF1 (x + j9) (fun j q hj => by replace hj : j = 80 := hj; have := hD.1; have := hD.2.1; have := hD.2.2; omega))) (TbR.mv hTT0 (fun j9 q1 q2 _ => hF1 (x + j9) (fun j q hj => by replace hj : j = 80 := hj; have := hD.1; have := hD.2.1; have := hD.2.2; omega)))), SQ.eq hJ.2.2.2.2.2.2.2.2.1 (fun k9 q1 q2 => hF1 (x + k9) (fun j q hj => by replace hj : j = 80 := hj; have := hD.1; have := hD.2.1; have := hD.2.2; omega)), CfC.eq hJ.2.2.2.2.2.2.2.2.2 (fun k9 q1 q2 => hF1 (x + k9) (fun j q hj => by replace hj : j = 80 := hj; have := hD.1; have := hD.2.1; have := hD.2.2; omega))⟩
    refine z_pop B dL_law_775 rfl ?_
    refine z_aload_n B dL_law_776 rfl 3 rfl ?_
    refine z_aload_n B dL_law_777 rfl 5 rfl ?_
    refine z_iload B dL_law_778 0 rfl ?_
    refine z_iconst (v := 1) B dL_law_780 rfl ?_
    refine z_iadd B dL_law_781 ?_
    refine z_sald B hX hbn (vinL (n := 1) rfl (by omega) hL) dL_law_782 ?_
    refine z_if_eq (tgt := 790) B dL_law_783 rfl (fun _ => ?_) (fun h9 => absurd c_1 h9)
    refine z_iconst (v := 0) B dL_law_790 rfl ?_
    obtain ⟨⟨rd, le, nx, kn, nu, va, st, th, hM⟩, hg0⟩ := hJ1.2.1
    obtain ⟨fs, hy0⟩ := JM.obj hJ1.2.1
    refine z_callV (As := [.int 0]) (rest := []) B (r_setAdaptive G l Φ1 sz y rd (NNq c) (CaQ nC F) (TpQ nT Ft) (TtQ nT Ft) (SiQ sn.1) (AtQ sn.2.1) (PtQ 0 (fun _ => 0)) (QlQ qn qL) nC 0 le nx n qn kn co nu va st po (nI tm) aq ob (nI w) r e sm un nT th sn.2.2.1 qd (sn.2.2.2.2.toInt64 &&& 4294967295) sn.2.2.2.1  0 (by have := hD.1; omega) hM  (by decide) (fun f9 h9 => h9.1)) (cwV 1 B.1.2.2.2.2 gL_law_X12_setAdaptive rfl rfl rfl (by decide +kernel) ⟨Nat.le_of_ble_eq_true rfl, Nat.le_of_ble_eq_true rfl⟩) hy0 rfl rfl rfl rfl (Nat.le_of_ble_eq_true rfl) dL_law_791 (rmL (by omega) (by omega) (by decide) (by decide)) (fun v2 Φ2 sz2 st2 hp2 hs2 => ?_)
    obtain ⟨rfl, hz2, ⟨th1_, hM2⟩, hF2⟩ := hp2
    have hg2 := (hF2 (y + 25) (fun j q hj => by replace hj : j = 0 := hj; have := hD.1; have := hD.2.1; have := hD.2.2; omega)).trans hg0
    subst sz2
    replace hs2 : st2 = [.int aq] := hs2
    subst st2
    have hJ2 : JK G x y o d (ca) n f co po (tm, r, w, 0, e, ob, sm, un, (nC, F), (nT, Ft)) sn (qn, qL, qd) c n g co po (tm, r, w, 0, e, ob, sm, un, (nC, F), (nT, Ft)) sn (qn, qL, qd) c Φ2 := ⟨In.eq hJ1.1 (fun k hk => hF2 (x + k) (fun j q hj => by replace hj : j = 0 := hj; have := hD.1; have := hD.2.1; have := hD.2.2; omega)), ⟨⟨_, _, _, _, _, _, _, _, hM2⟩, hg2⟩, ⟨_, (hF2 (o) (fun j q hj => by replace hj : j = 0 := hj; have := hD.1; have := hD.2.1; have := hD.2.2; omega)).trans (Classical.choose_spec hJ1.2.2.1)⟩, ⟨_, (hF2 (d) (fun j q hj => by replace hj : j = 0 := hj; have := hD.1; have := hD.2.1; have := hD.2.2; omega)).trans (Classical.choose_spec hJ1.2.2.2.1)⟩, (hF2 (x + 1) (fun j q hj => by replace hj : j = 0 := hj; have := hD.1; have := hD.2.1; have := hD.2.2; omega)).trans hJ1.2.2.2.2.1, (hF2 (x + 2) (fun j q hj => by replace hj : j = 0 := hj; have := hD.1; have := hD.2.1; have := hD.2.2; omega)).trans hJ1.2.2.2.2.2.1, C24.eq hJ1.2.2.2.2.2.2.1 (hF2 (x + 24) (fun j q hj => by replace hj : j = 0 := hj; have := hD.1; have := hD.2.1; have := hD.2.2; omega)), XC.eq hJ1.2.2.2.2.2.2.2.1 (fun k9 q1 q2 => hF2 (x + k9) (fun j q hj => by replace hj : j = 0 := hj; have := hD.1; have := hD.2.1; have := hD.2.2; omega)), SQ.eq hJ1.2.2.2.2.2.2.2.2.1 (fun k9 q1 q2 => hF2 (x + k9) (fun j q hj => by replace hj : j = 0 := hj; have := hD.1; have := hD.2.1; have := hD.2.2; omega)), CfC.eq hJ1.2.2.2.2.2.2.2.2.2 (fun k9 q1 q2 => hF2 (x + k9) (fun j q hj => by replace hj : j = 0 := hj; have := hD.1; have := hD.2.1; have := hD.2.2; omega))⟩
    refine z_pop B dL_law_794 rfl ?_
    refine z_goto (tgt := 2001) B dL_law_795 rfl ?_
    refine z_widen (k := cells + 2) (n := slots + 12) (by omega) (by omega) ?_
    exact hT _ hd0 Φ2 sz (JJ.of (JK.up hJ2 (by omega)) hG rfl rfl rfl rfl rfl rfl rfl hEq)
  · refine z_iconst (v := 1) B dL_law_767 rfl ?_
    refine z_goto (tgt := 772) B dL_law_768 rfl ?_
    have h0 : Φ x = some (o_ 13 [.ref (x + 1), .ref (x + 3), .ref (x + 24), .ref (x + 46), .ref (x + 74), .ref (x + 80), .ref (x + 132), .ref (x + 121)]) := in0 (k := 0) hJ.1 rfl
    obtain ⟨xp0, xb0, pp0, pt0, hxe, hE0, h810, h950, hTC0, hTT0, hb0⟩ := hJ.2.2.2.2.2.2.2.1
    replace hxe : xp0 - xb0 = e := hxe
    refine z_callV (As := [.int 1]) (rest := []) B (s_X11_setAdaptive G l Φ sz x ca (nI tm) (nI r) (nI w) aq xp0 xb0 ob sm un 1 hna hJ.1 hE0 (by decide) (JK.aq hJ)) (cwV 1 B.1.2.2.2.2 gL_law_X11_setAdaptive rfl rfl rfl (by decide +kernel) ⟨Nat.le_of_ble_eq_true rfl, Nat.le_of_ble_eq_true rfl⟩) h0 rfl rfl rfl rfl (Nat.le_of_ble_eq_true rfl) dL_law_772 (rmL (by omega) (by omega) (by decide) (by decide)) (fun v1 Φ1 sz1 st1 hp1 hs1 => ?_)
    obtain ⟨⟨rfl, hE1⟩, hz1, hI1, hF1⟩ := hp1
    subst sz1
    replace hs1 : st1 = [.int aq] := hs1
    subst st1
    have hJ1 : JK G x y o d (ca) n f co po (tm, r, w, 1, e, ob, sm, un, (nC, F), (nT, Ft)) sn (qn, qL, qd) c n g co po (tm, r, w, aq, e, ob, sm, un, (nC, F), (nT, Ft)) sn (qn, qL, qd) c Φ1 := ⟨hI1, JM.eq hJ.2.1 (fun k hk => hF1 (y + k) (fun j q hj => by replace hj : j = 80 := hj; have := hD.1; have := hD.2.1; have := hD.2.2; omega)), ⟨_, (hF1 (o) (fun j q hj => by replace hj : j = 80 := hj; have := hD.1; have := hD.2.1; have := hD.2.2; omega)).trans (Classical.choose_spec hJ.2.2.1)⟩, ⟨_, (hF1 (d) (fun j q hj => by replace hj : j = 80 := hj; have := hD.1; have := hD.2.1; have := hD.2.2; omega)).trans (Classical.choose_spec hJ.2.2.2.1)⟩, (hF1 (x + 1) (fun j q hj => by replace hj : j = 80 := hj; have := hD.1; have := hD.2.1; have := hD.2.2; omega)).trans hJ.2.2.2.2.1, (hF1 (x + 2) (fun j q hj => by replace hj : j = 80 := hj; have := hD.1; have := hD.2.1; have := hD.2.2; omega)).trans hJ.2.2.2.2.2.1, C24.eq hJ.2.2.2.2.2.2.1 (hF1 (x + 24) (fun j q hj => by replace hj : j = 80 := hj; have := hD.1; have := hD.2.1; have := hD.2.2; omega)), (XC_aq (T := (nT, Ft)) (C := (nC, F)) hxe hb0 hE1 ((hF1 (x + 81) (fun j q hj => by replace hj : j = 80 := hj; have := hD.1; have := hD.2.1; have := hD.2.2; omega)).trans h810) ((hF1 (x + 95) (fun j q hj => by replace hj : j = 80 := hj; have := hD.1; have := hD.2.1; have := hD.2.2; omega)).trans h950) (TbR.mv hTC0 (fun j9 q1 q2 _ => hF1 (x + j9) (fun j q hj => by replace hj : j = 80 := hj; have := hD.1; have := hD.2.1; have := hD.2.2; omega))) (TbR.mv hTT0 (fun j9 q1 q2 _ => hF1 (x + j9) (fun j q hj => by replace hj : j = 80 := hj; have := hD.1; have := hD.2.1; have := hD.2.2; omega)))), SQ.eq hJ.2.2.2.2.2.2.2.2.1 (fun k9 q1 q2 => hF1 (x + k9) (fun j q hj => by replace hj : j = 80 := hj; have := hD.1; have := hD.2.1; have := hD.2.2; omega)), CfC.eq hJ.2.2.2.2.2.2.2.2.2 (fun k9 q1 q2 => hF1 (x + k9) (fun j q hj => by replace hj : j = 80 := hj; have := hD.1; have := hD.2.1; have := hD.2.2; omega))⟩
    refine z_pop B dL_law_775 rfl ?_
    refine z_aload_n B dL_law_776 rfl 3 rfl ?_
    refine z_aload_n B dL_law_777 rfl 5 rfl ?_
    refine z_iload B dL_law_778 0 rfl ?_
    refine z_iconst (v := 1) B dL_law_780 rfl ?_
    refine z_iadd B dL_law_781 ?_
    refine z_sald B hX hbn (vinL (n := 1) rfl (by omega) hL) dL_law_782 ?_
    refine z_if_eq (tgt := 790) B dL_law_783 rfl (fun h9 => absurd h9 c_1) (fun _ => ?_)
    refine z_iconst (v := 1) B dL_law_786 rfl ?_
    refine z_goto (tgt := 791) B dL_law_787 rfl ?_
    obtain ⟨⟨rd, le, nx, kn, nu, va, st, th, hM⟩, hg0⟩ := hJ1.2.1
    obtain ⟨fs, hy0⟩ := JM.obj hJ1.2.1
    refine z_callV (As := [.int 1]) (rest := []) B (r_setAdaptive G l Φ1 sz y rd (NNq c) (CaQ nC F) (TpQ nT Ft) (TtQ nT Ft) (SiQ sn.1) (AtQ sn.2.1) (PtQ 0 (fun _ => 0)) (QlQ qn qL) nC 0 le nx n qn kn co nu va st po (nI tm) aq ob (nI w) r e sm un nT th sn.2.2.1 qd (sn.2.2.2.2.toInt64 &&& 4294967295) sn.2.2.2.1  1 (by have := hD.1; omega) hM  (by decide) (fun f9 h9 => h9.1)) (cwV 1 B.1.2.2.2.2 gL_law_X12_setAdaptive rfl rfl rfl (by decide +kernel) ⟨Nat.le_of_ble_eq_true rfl, Nat.le_of_ble_eq_true rfl⟩) hy0 rfl rfl rfl rfl (Nat.le_of_ble_eq_true rfl) dL_law_791 (rmL (by omega) (by omega) (by decide) (by decide)) (fun v2 Φ2 sz2 st2 hp2 hs2 => ?_)
    obtain ⟨rfl, hz2, ⟨th1_, hM2⟩, hF2⟩ := hp2
    have hg2 := (hF2 (y + 25) (fun j q hj => by replace hj : j = 0 := hj; have := hD.1; have := hD.2.1; have := hD.2.2; omega)).trans hg0
    subst sz2
    replace hs2 : st2 = [.int aq] := hs2
    subst st2
    have hJ2 : JK G x y o d (ca) n f co po (tm, r, w, 1, e, ob, sm, un, (nC, F), (nT, Ft)) sn (qn, qL, qd) c n g co po (tm, r, w, 1, e, ob, sm, un, (nC, F), (nT, Ft)) sn (qn, qL, qd) c Φ2 := ⟨In.eq hJ1.1 (fun k hk => hF2 (x + k) (fun j q hj => by replace hj : j = 0 := hj; have := hD.1; have := hD.2.1; have := hD.2.2; omega)), ⟨⟨_, _, _, _, _, _, _, _, hM2⟩, hg2⟩, ⟨_, (hF2 (o) (fun j q hj => by replace hj : j = 0 := hj; have := hD.1; have := hD.2.1; have := hD.2.2; omega)).trans (Classical.choose_spec hJ1.2.2.1)⟩, ⟨_, (hF2 (d) (fun j q hj => by replace hj : j = 0 := hj; have := hD.1; have := hD.2.1; have := hD.2.2; omega)).trans (Classical.choose_spec hJ1.2.2.2.1)⟩, (hF2 (x + 1) (fun j q hj => by replace hj : j = 0 := hj; have := hD.1; have := hD.2.1; have := hD.2.2; omega)).trans hJ1.2.2.2.2.1, (hF2 (x + 2) (fun j q hj => by replace hj : j = 0 := hj; have := hD.1; have := hD.2.1; have := hD.2.2; omega)).trans hJ1.2.2.2.2.2.1, C24.eq hJ1.2.2.2.2.2.2.1 (hF2 (x + 24) (fun j q hj => by replace hj : j = 0 := hj; have := hD.1; have := hD.2.1; have := hD.2.2; omega)), XC.eq hJ1.2.2.2.2.2.2.2.1 (fun k9 q1 q2 => hF2 (x + k9) (fun j q hj => by replace hj : j = 0 := hj; have := hD.1; have := hD.2.1; have := hD.2.2; omega)), SQ.eq hJ1.2.2.2.2.2.2.2.2.1 (fun k9 q1 q2 => hF2 (x + k9) (fun j q hj => by replace hj : j = 0 := hj; have := hD.1; have := hD.2.1; have := hD.2.2; omega)), CfC.eq hJ1.2.2.2.2.2.2.2.2.2 (fun k9 q1 q2 => hF2 (x + k9) (fun j q hj => by replace hj : j = 0 := hj; have := hD.1; have := hD.2.1; have := hD.2.2; omega))⟩
    refine z_pop B dL_law_794 rfl ?_
    refine z_goto (tgt := 2001) B dL_law_795 rfl ?_
    refine z_widen (k := cells + 2) (n := slots + 12) (by omega) (by omega) ?_
    exact hT _ hd0 Φ2 sz (JJ.of (JK.up hJ2 (by omega)) hG rfl rfl rfl rfl rfl rfl rfl hEq)

set_option maxHeartbeats 4000000 in
set_option maxRecDepth 100000 in
theorem lc_16 {p9 : Program} {e9 : Env} {s9 : State} {m9 : MethodId} {a9 : Array Value} {w9 : List Frame} {t9 : Method} {k9 : Code} {Q9 : State → Prop} {nm9 : String} (G : EnvG) (l : Launch) (hl9 : l.stackTraces = false) {d0 : Drawn} (hd0 : s9.drawn.sameBut d0 lw_cs) (B : Bd p9 (s9.setDrawn d0) m9 a9 t9 k9 G code 9 RL wsL_law ret nm9) (Φ : Hm) (sz b L i : Nat) (xs : Nat → Int32) (hX : va_X b L xs (s9.setDrawn d0) (s9.setDrawn d0).heap) (hbn : b < G.2.2.2) (hL : L ≤ 3584) (hi : i + 7 ≤ L) (x y o d ca cells slots : Nat) (hna : G.2.2.2 ≤ x) (hD : Ds x y o d) (hca : ca ≤ 10000) (hcl : cells ≤ 8000) (hsl : slots ≤ 80000) (hJ : JJ G x y o d ca Φ) (hT : ∀ (d1 : Drawn), s9.drawn.sameBut d1 lw_cs → ∀ (Φ1 : Hm) (sz1 : Nat), JJ G x y o d (ca + 12) Φ1 → Z p9 l e9 room_1 (s9.setDrawn d1) m9 a9 w9 t9 k9 Q9 G 9 2001 [(5, .int (nI i)), (4, .ref d), (3, .ref o), (2, .ref y), (1, .ref x), (0, .ref b)] [] Φ1 sz1 (cells + 2) (slots + 12)) : Z p9 l e9 room_1 (s9.setDrawn d0) m9 a9 w9 t9 k9 Q9 G 9 798 [(5, .int (nI i)), (4, .ref d), (3, .ref o), (2, .ref y), (1, .ref x), (0, .ref b)] [] Φ sz cells slots := by
  obtain ⟨n, f, g, co, po, ⟨tm, r, w, aq, e, ob, sm, un, ⟨nC, F⟩, nT, Ft⟩, sn, ⟨qn, qL, qd⟩, c, hJ, hG, hEq⟩ := hJ
  have hq12 : qn ≤ 12 := SQ.le hJ.2.2.2.2.2.2.2.2.1
  obtain ⟨t7, s7, hCA7⟩ := hJ.2.2.2.2.2.2.2.2.2
  have hW7 := CfA.W hCA7 hG
  have hR7 := CfA.R hCA7 hG
  refine z_aload_n B dL_law_798 rfl 4 rfl ?_
  refine z_aload_n B dL_law_799 rfl 5 rfl ?_
  refine z_iload B dL_law_800 0 rfl ?_
  refine z_iconst (v := 1) B dL_law_802 rfl ?_
  refine z_iadd B dL_law_803 ?_
  refine z_sald B hX hbn (vinL (n := 1) rfl (by omega) hL) dL_law_804 ?_
  have h0 : Φ x = some (o_ 13 [.ref (x + 1), .ref (x + 3), .ref (x + 24), .ref (x + 46), .ref (x + 74), .ref (x + 80), .ref (x + 132), .ref (x + 121)]) := in0 (k := 0) hJ.1 rfl
  obtain ⟨xp0, xb0, pp0, pt0, hxe, hE0, h810, h950, hTC0, hTT0, hb0⟩ := hJ.2.2.2.2.2.2.2.1
  replace hxe : xp0 - xb0 = e := hxe
  refine z_callV (As := [.int (xs (nI i + 1).toNatClampNeg)]) (rest := []) B (s_X11_setSeedX G l Φ sz x ca tm r w aq xp0 xb0 ob sm (un, 0, fun _ => 0) (xs (nI i + 1).toNatClampNeg) hna hJ.1 hE0 hb0.2.2.2 (JK.aq hJ)) (cwV 1 B.1.2.2.2.2 gL_law_X11_setSeed rfl rfl rfl (by decide +kernel) ⟨Nat.le_of_ble_eq_true rfl, Nat.le_of_ble_eq_true rfl⟩) h0 rfl rfl rfl rfl (Nat.le_of_ble_eq_true rfl) dL_law_805 (rmL (by omega) (by omega) (by decide) (by decide)) (fun v1 Φ1 sz1 st1 hp1 hs1 => ?_)
  obtain ⟨⟨r1, rfl, hb1, hE1⟩, hz1, hI1, hF1⟩ := hp1
  subst sz1
  replace hs1 : st1 = [.int r1] := hs1
  subst st1
  have hJ1 : JK G x y o d (ca) n f co po (tm, r, sdN (xs (nI i + 1).toNatClampNeg) w, aq, e, ob, sm, un, (nC, F), (nT, Ft)) sn (qn, qL, qd) c n g co po (tm, r, w, aq, e, ob, sm, un, (nC, F), (nT, Ft)) sn (qn, qL, qd) c Φ1 := ⟨hI1, JM.eq hJ.2.1 (fun k hk => hF1 (y + k) (fun j q hj => by replace hj : j = 80 := hj; have := hD.1; have := hD.2.1; have := hD.2.2; omega)), ⟨_, (hF1 (o) (fun j q hj => by replace hj : j = 80 := hj; have := hD.1; have := hD.2.1; have := hD.2.2; omega)).trans (Classical.choose_spec hJ.2.2.1)⟩, ⟨_, (hF1 (d) (fun j q hj => by replace hj : j = 80 := hj; have := hD.1; have := hD.2.1; have := hD.2.2; omega)).trans (Classical.choose_spec hJ.2.2.2.1)⟩, (hF1 (x + 1) (fun j q hj => by replace hj : j = 80 := hj; have := hD.1; have := hD.2.1; have := hD.2.2; omega)).trans hJ.2.2.2.2.1, (hF1 (x + 2) (fun j q hj => by replace hj : j = 80 := hj; have := hD.1; have := hD.2.1; have := hD.2.2; omega)).trans hJ.2.2.2.2.2.1, C24.eq hJ.2.2.2.2.2.2.1 (hF1 (x + 24) (fun j q hj => by replace hj : j = 80 := hj; have := hD.1; have := hD.2.1; have := hD.2.2; omega)), (XC_sd (T := (nT, Ft)) (C := (nC, F)) hxe hb0 (sdN_lt hb0.2.2.2) hE1 ((hF1 (x + 81) (fun j q hj => by replace hj : j = 80 := hj; have := hD.1; have := hD.2.1; have := hD.2.2; omega)).trans h810) ((hF1 (x + 95) (fun j q hj => by replace hj : j = 80 := hj; have := hD.1; have := hD.2.1; have := hD.2.2; omega)).trans h950) (TbR.mv hTC0 (fun j9 q1 q2 _ => hF1 (x + j9) (fun j q hj => by replace hj : j = 80 := hj; have := hD.1; have := hD.2.1; have := hD.2.2; omega))) (TbR.mv hTT0 (fun j9 q1 q2 _ => hF1 (x + j9) (fun j q hj => by replace hj : j = 80 := hj; have := hD.1; have := hD.2.1; have := hD.2.2; omega)))), SQ.eq hJ.2.2.2.2.2.2.2.2.1 (fun k9 q1 q2 => hF1 (x + k9) (fun j q hj => by replace hj : j = 80 := hj; have := hD.1; have := hD.2.1; have := hD.2.2; omega)), CfC.eq hJ.2.2.2.2.2.2.2.2.2 (fun k9 q1 q2 => hF1 (x + k9) (fun j q hj => by replace hj : j = 80 := hj; have := hD.1; have := hD.2.1; have := hD.2.2; omega))⟩
  refine z_pop B dL_law_808 rfl ?_
  refine z_aload_n B dL_law_809 rfl 3 rfl ?_
  refine z_aload_n B dL_law_810 rfl 5 rfl ?_
  refine z_iload B dL_law_811 0 rfl ?_
  refine z_iconst (v := 1) B dL_law_813 rfl ?_
  refine z_iadd B dL_law_814 ?_
  refine z_sald B hX hbn (vinL (n := 1) rfl (by omega) hL) dL_law_815 ?_
  obtain ⟨⟨rd, le, nx, kn, nu, va, st, th, hM⟩, hg0⟩ := hJ1.2.1
  obtain ⟨fs, hy0⟩ := JM.obj hJ1.2.1
  refine z_callV (As := [.int (xs (nI i + 1).toNatClampNeg)]) (rest := []) B (r_setSeed G l Φ1 sz y rd (NNq c) (CaQ nC F) (TpQ nT Ft) (TtQ nT Ft) (SiQ sn.1) (AtQ sn.2.1) (PtQ 0 (fun _ => 0)) (QlQ qn qL) nC 0 le nx n qn kn co nu va st po (nI tm) aq ob r e sm un nT th sn.2.2.1 qd (sn.2.2.2.2.toInt64 &&& 4294967295) sn.2.2.2.1 w (xs (nI i + 1).toNatClampNeg) (by have := hD.1; omega) hM  hb0.2.2.2 (fun f9 h9 => h9.1)) (cwV 1 B.1.2.2.2.2 gL_law_X12_setSeed rfl rfl rfl (by decide +kernel) ⟨Nat.le_of_ble_eq_true rfl, Nat.le_of_ble_eq_true rfl⟩) hy0 rfl rfl rfl rfl (Nat.le_of_ble_eq_true rfl) dL_law_816 (rmL (by omega) (by omega) (by decide) (by decide)) (fun v2 Φ2 sz2 st2 hp2 hs2 => ?_)
  obtain ⟨⟨r2, rfl, hb2⟩, hz2, ⟨th1_, hM2⟩, hF2⟩ := hp2
  have hg2 := (hF2 (y + 25) (fun j q hj => by replace hj : j = 0 := hj; have := hD.1; have := hD.2.1; have := hD.2.2; omega)).trans hg0
  subst sz2
  replace hs2 : st2 = [.int r2] := hs2
  subst st2
  have hJ2 : JK G x y o d (ca) n f co po (tm, r, sdN (xs (nI i + 1).toNatClampNeg) w, aq, e, ob, sm, un, (nC, F), (nT, Ft)) sn (qn, qL, qd) c n g co po (tm, r, (sdN (xs (nI i + 1).toNatClampNeg) w), aq, e, ob, sm, un, (nC, F), (nT, Ft)) sn (qn, qL, qd) c Φ2 := ⟨In.eq hJ1.1 (fun k hk => hF2 (x + k) (fun j q hj => by replace hj : j = 0 := hj; have := hD.1; have := hD.2.1; have := hD.2.2; omega)), ⟨⟨_, _, _, _, _, _, _, _, hM2⟩, hg2⟩, ⟨_, (hF2 (o) (fun j q hj => by replace hj : j = 0 := hj; have := hD.1; have := hD.2.1; have := hD.2.2; omega)).trans (Classical.choose_spec hJ1.2.2.1)⟩, ⟨_, (hF2 (d) (fun j q hj => by replace hj : j = 0 := hj; have := hD.1; have := hD.2.1; have := hD.2.2; omega)).trans (Classical.choose_spec hJ1.2.2.2.1)⟩, (hF2 (x + 1) (fun j q hj => by replace hj : j = 0 := hj; have := hD.1; have := hD.2.1; have := hD.2.2; omega)).trans hJ1.2.2.2.2.1, (hF2 (x + 2) (fun j q hj => by replace hj : j = 0 := hj; have := hD.1; have := hD.2.1; have := hD.2.2; omega)).trans hJ1.2.2.2.2.2.1, C24.eq hJ1.2.2.2.2.2.2.1 (hF2 (x + 24) (fun j q hj => by replace hj : j = 0 := hj; have := hD.1; have := hD.2.1; have := hD.2.2; omega)), XC.eq hJ1.2.2.2.2.2.2.2.1 (fun k9 q1 q2 => hF2 (x + k9) (fun j q hj => by replace hj : j = 0 := hj; have := hD.1; have := hD.2.1; have := hD.2.2; omega)), SQ.eq hJ1.2.2.2.2.2.2.2.2.1 (fun k9 q1 q2 => hF2 (x + k9) (fun j q hj => by replace hj : j = 0 := hj; have := hD.1; have := hD.2.1; have := hD.2.2; omega)), CfC.eq hJ1.2.2.2.2.2.2.2.2.2 (fun k9 q1 q2 => hF2 (x + k9) (fun j q hj => by replace hj : j = 0 := hj; have := hD.1; have := hD.2.1; have := hD.2.2; omega))⟩
  refine z_pop B dL_law_819 rfl ?_
  refine z_goto (tgt := 2001) B dL_law_820 rfl ?_
  refine z_widen (k := cells + 2) (n := slots + 12) (by omega) (by omega) ?_
  exact hT _ hd0 Φ2 sz (JJ.of (JK.up hJ2 (by omega)) hG rfl rfl rfl rfl rfl rfl rfl hEq)

set_option maxHeartbeats 4000000 in
set_option maxRecDepth 100000 in
theorem lc_17 {p9 : Program} {e9 : Env} {s9 : State} {m9 : MethodId} {a9 : Array Value} {w9 : List Frame} {t9 : Method} {k9 : Code} {Q9 : State → Prop} {nm9 : String} (G : EnvG) (l : Launch) (hl9 : l.stackTraces = false) {d0 : Drawn} (hd0 : s9.drawn.sameBut d0 lw_cs) (B : Bd p9 (s9.setDrawn d0) m9 a9 t9 k9 G code 9 RL wsL_law ret nm9) (Φ : Hm) (sz b L i : Nat) (xs : Nat → Int32) (hX : va_X b L xs (s9.setDrawn d0) (s9.setDrawn d0).heap) (hbn : b < G.2.2.2) (hL : L ≤ 3584) (hi : i + 7 ≤ L) (x y o d ca cells slots : Nat) (hna : G.2.2.2 ≤ x) (hD : Ds x y o d) (hca : ca ≤ 10000) (hcl : cells ≤ 8000) (hsl : slots ≤ 80000) (hJ : JJ G x y o d ca Φ) (hT : ∀ (d1 : Drawn), s9.drawn.sameBut d1 lw_cs → ∀ (Φ1 : Hm) (sz1 : Nat), JJ G x y o d (ca + 12) Φ1 → Z p9 l e9 room_1 (s9.setDrawn d1) m9 a9 w9 t9 k9 Q9 G 9 2001 [(5, .int (nI i)), (4, .ref d), (3, .ref o), (2, .ref y), (1, .ref x), (0, .ref b)] [] Φ1 sz1 (cells + 2) (slots + 12)) : Z p9 l e9 room_1 (s9.setDrawn d0) m9 a9 w9 t9 k9 Q9 G 9 823 [(5, .int (nI i)), (4, .ref d), (3, .ref o), (2, .ref y), (1, .ref x), (0, .ref b)] [] Φ sz cells slots := by
  obtain ⟨n, f, g, co, po, ⟨tm, r, w, aq, e, ob, sm, un, ⟨nC, F⟩, nT, Ft⟩, sn, ⟨qn, qL, qd⟩, c, hJ, hG, hEq⟩ := hJ
  have hq12 : qn ≤ 12 := SQ.le hJ.2.2.2.2.2.2.2.2.1
  obtain ⟨t7, s7, hCA7⟩ := hJ.2.2.2.2.2.2.2.2.2
  have hW7 := CfA.W hCA7 hG
  have hR7 := CfA.R hCA7 hG
  refine z_aload_n B dL_law_823 rfl 4 rfl ?_
  have h0 : Φ x = some (o_ 13 [.ref (x + 1), .ref (x + 3), .ref (x + 24), .ref (x + 46), .ref (x + 74), .ref (x + 80), .ref (x + 132), .ref (x + 121)]) := in0 (k := 0) hJ.1 rfl
  obtain ⟨t0, s0, hCA0⟩ := hJ.2.2.2.2.2.2.2.2.2
  refine z_callV (As := []) (rest := []) B (s_X11_templateCountC G l Φ sz x ca t0 s0 c hna hJ.1 hCA0 ) (cwV 0 B.1.2.2.2.2 gL_law_X11_templateCount rfl rfl rfl (by decide +kernel) ⟨Nat.le_of_ble_eq_true rfl, Nat.le_of_ble_eq_true rfl⟩) h0 rfl rfl rfl rfl (Nat.le_of_ble_eq_true rfl) dL_law_824 (rmL (by omega) (by omega) (by decide) (by decide)) (fun v1 Φ1 sz1 st1 hp1 hs1 => ?_)
  obtain ⟨rfl, hz1, hI1, hF1⟩ := hp1
  subst sz1
  replace hs1 : st1 = [.int (c 10)] := hs1
  subst st1
  have hJ1 : JK G x y o d (ca) n f co po (tm, r, w, aq, e, ob, sm, un, (nC, F), (nT, Ft)) sn (qn, qL, qd) c n g co po (tm, r, w, aq, e, ob, sm, un, (nC, F), (nT, Ft)) sn (qn, qL, qd) c Φ1 := ⟨hI1, JM.eq hJ.2.1 (fun k hk => hF1 (y + k) (fun j q hj => (show False from hj).elim)), ⟨_, (hF1 (o) (fun j q hj => (show False from hj).elim)).trans (Classical.choose_spec hJ.2.2.1)⟩, ⟨_, (hF1 (d) (fun j q hj => (show False from hj).elim)).trans (Classical.choose_spec hJ.2.2.2.1)⟩, (hF1 (x + 1) (fun j q hj => (show False from hj).elim)).trans hJ.2.2.2.2.1, (hF1 (x + 2) (fun j q hj => (show False from hj).elim)).trans hJ.2.2.2.2.2.1, C24.eq hJ.2.2.2.2.2.2.1 (hF1 (x + 24) (fun j q hj => (show False from hj).elim)), XC.eq hJ.2.2.2.2.2.2.2.1 (fun k9 q1 q2 => hF1 (x + k9) (fun j q hj => (show False from hj).elim)), SQ.eq hJ.2.2.2.2.2.2.2.2.1 (fun k9 q1 q2 => hF1 (x + k9) (fun j q hj => (show False from hj).elim)), CfC.eq hJ.2.2.2.2.2.2.2.2.2 (fun k9 q1 q2 => hF1 (x + k9) (fun j q hj => (show False from hj).elim))⟩
  refine z_pop B dL_law_827 rfl ?_
  refine z_aload_n B dL_law_828 rfl 3 rfl ?_
  obtain ⟨⟨rd, le, nx, kn, nu, va, st, th, hM⟩, hg0⟩ := hJ1.2.1
  obtain ⟨fs, hy0⟩ := JM.obj hJ1.2.1
  refine z_callV (As := []) (rest := []) B (r_templateCountC G l Φ1 sz y rd (CaQ nC F) (TpQ nT Ft) (TtQ nT Ft) (SiQ sn.1) (AtQ sn.2.1) (PtQ 0 (fun _ => 0)) (QlQ qn qL) nC 0 le nx n qn kn co nu va st po (nI tm) aq ob (nI w) r e sm un nT th sn.2.2.1 qd (sn.2.2.2.2.toInt64 &&& 4294967295) sn.2.2.2.1 c  (by have := hD.1; omega) hM  ) (cwV 0 B.1.2.2.2.2 gL_law_X12_templateCount rfl rfl rfl (by decide +kernel) ⟨Nat.le_of_ble_eq_true rfl, Nat.le_of_ble_eq_true rfl⟩) hy0 rfl rfl rfl rfl (Nat.le_of_ble_eq_true rfl) dL_law_829 (rmL (by omega) (by omega) (by decide) (by decide)) (fun v2 Φ2 sz2 st2 hp2 hs2 => ?_)
  obtain ⟨rfl, hz2, ⟨th1_, hM2⟩, hF2⟩ := hp2
  have hg2 := (hF2 (y + 25) (fun j q hj => by replace hj : j = 0 := hj; have := hD.1; have := hD.2.1; have := hD.2.2; omega)).trans hg0
  subst sz2
  replace hs2 : st2 = [.int (c 10)] := hs2
  subst st2
  have hJ2 : JK G x y o d (ca) n f co po (tm, r, w, aq, e, ob, sm, un, (nC, F), (nT, Ft)) sn (qn, qL, qd) c n g co po (tm, r, w, aq, e, ob, sm, un, (nC, F), (nT, Ft)) sn (qn, qL, qd) c Φ2 := ⟨In.eq hJ1.1 (fun k hk => hF2 (x + k) (fun j q hj => by replace hj : j = 0 := hj; have := hD.1; have := hD.2.1; have := hD.2.2; omega)), ⟨⟨_, _, _, _, _, _, _, _, hM2⟩, hg2⟩, ⟨_, (hF2 (o) (fun j q hj => by replace hj : j = 0 := hj; have := hD.1; have := hD.2.1; have := hD.2.2; omega)).trans (Classical.choose_spec hJ1.2.2.1)⟩, ⟨_, (hF2 (d) (fun j q hj => by replace hj : j = 0 := hj; have := hD.1; have := hD.2.1; have := hD.2.2; omega)).trans (Classical.choose_spec hJ1.2.2.2.1)⟩, (hF2 (x + 1) (fun j q hj => by replace hj : j = 0 := hj; have := hD.1; have := hD.2.1; have := hD.2.2; omega)).trans hJ1.2.2.2.2.1, (hF2 (x + 2) (fun j q hj => by replace hj : j = 0 := hj; have := hD.1; have := hD.2.1; have := hD.2.2; omega)).trans hJ1.2.2.2.2.2.1, C24.eq hJ1.2.2.2.2.2.2.1 (hF2 (x + 24) (fun j q hj => by replace hj : j = 0 := hj; have := hD.1; have := hD.2.1; have := hD.2.2; omega)), XC.eq hJ1.2.2.2.2.2.2.2.1 (fun k9 q1 q2 => hF2 (x + k9) (fun j q hj => by replace hj : j = 0 := hj; have := hD.1; have := hD.2.1; have := hD.2.2; omega)), SQ.eq hJ1.2.2.2.2.2.2.2.2.1 (fun k9 q1 q2 => hF2 (x + k9) (fun j q hj => by replace hj : j = 0 := hj; have := hD.1; have := hD.2.1; have := hD.2.2; omega)), CfC.eq hJ1.2.2.2.2.2.2.2.2.2 (fun k9 q1 q2 => hF2 (x + k9) (fun j q hj => by replace hj : j = 0 := hj; have := hD.1; have := hD.2.1; have := hD.2.2; omega))⟩
  refine z_pop B dL_law_832 rfl ?_
  refine z_goto (tgt := 2001) B dL_law_833 rfl ?_
  refine z_widen (k := cells + 2) (n := slots + 12) (by omega) (by omega) ?_
  exact hT _ hd0 Φ2 sz (JJ.of (JK.up hJ2 (by omega)) hG rfl rfl rfl rfl rfl rfl rfl hEq)

set_option maxHeartbeats 4000000 in
set_option maxRecDepth 100000 in
theorem lc_18 {p9 : Program} {e9 : Env} {s9 : State} {m9 : MethodId} {a9 : Array Value} {w9 : List Frame} {t9 : Method} {k9 : Code} {Q9 : State → Prop} {nm9 : String} (G : EnvG) (l : Launch) (hl9 : l.stackTraces = false) {d0 : Drawn} (hd0 : s9.drawn.sameBut d0 lw_cs) (B : Bd p9 (s9.setDrawn d0) m9 a9 t9 k9 G code 9 RL wsL_law ret nm9) (Φ : Hm) (sz b L i : Nat) (xs : Nat → Int32) (hX : va_X b L xs (s9.setDrawn d0) (s9.setDrawn d0).heap) (hbn : b < G.2.2.2) (hL : L ≤ 3584) (hi : i + 7 ≤ L) (x y o d ca cells slots : Nat) (hna : G.2.2.2 ≤ x) (hD : Ds x y o d) (hca : ca ≤ 10000) (hcl : cells ≤ 8000) (hsl : slots ≤ 80000) (hJ : JJ G x y o d ca Φ) (hT : ∀ (d1 : Drawn), s9.drawn.sameBut d1 lw_cs → ∀ (Φ1 : Hm) (sz1 : Nat), JJ G x y o d (ca + 12) Φ1 → Z p9 l e9 room_1 (s9.setDrawn d1) m9 a9 w9 t9 k9 Q9 G 9 2001 [(5, .int (nI i)), (4, .ref d), (3, .ref o), (2, .ref y), (1, .ref x), (0, .ref b)] [] Φ1 sz1 (cells + 2) (slots + 12)) : Z p9 l e9 room_1 (s9.setDrawn d0) m9 a9 w9 t9 k9 Q9 G 9 836 [(5, .int (nI i)), (4, .ref d), (3, .ref o), (2, .ref y), (1, .ref x), (0, .ref b)] [] Φ sz cells slots := by
  obtain ⟨n, f, g, co, po, ⟨tm, r, w, aq, e, ob, sm, un, ⟨nC, F⟩, nT, Ft⟩, sn, ⟨qn, qL, qd⟩, c, hJ, hG, hEq⟩ := hJ
  have hq12 : qn ≤ 12 := SQ.le hJ.2.2.2.2.2.2.2.2.1
  obtain ⟨t7, s7, hCA7⟩ := hJ.2.2.2.2.2.2.2.2.2
  have hW7 := CfA.W hCA7 hG
  have hR7 := CfA.R hCA7 hG
  refine z_aload_n B dL_law_836 rfl 4 rfl ?_
  refine z_aload_n B dL_law_837 rfl 5 rfl ?_
  refine z_iload B dL_law_838 0 rfl ?_
  refine z_iconst (v := 1) B dL_law_840 rfl ?_
  refine z_iadd B dL_law_841 ?_
  refine z_sald B hX hbn (vinL (n := 1) rfl (by omega) hL) dL_law_842 ?_
  refine z_aload_n B dL_law_843 rfl 2 rfl ?_
  obtain ⟨fo, hco⟩ := hJ.2.2.1
  obtain ⟨t0, s0, hCA0⟩ := hJ.2.2.2.2.2.2.2.2.2
  refine z_callSW (As := [.ref x, .int (xs (nI i + 1).toNatClampNeg), .ref o]) (rest := []) B (w_templateFields G l hl9 Φ sz x ca t0 s0 c (xs (nI i + 1).toNatClampNeg) o fo hna (by have := hD.1; have := hD.2.1; have := hD.2.2; omega) (fun j hj => by have := hD.1; have := hD.2.1; have := hD.2.2; omega) hJ.1 hco hCA0 ) (vx_cwSW 3 B.1.2.2.2.2 gL_law_L_templateFields rfl rfl rfl (by decide +kernel) ⟨Nat.le_of_ble_eq_true rfl, Nat.le_of_ble_eq_true rfl⟩) rfl rfl (Nat.le_of_ble_eq_true rfl) dL_law_844 (rmL (by omega) (by omega) (by decide) (by decide)) (fun v1 Φ1 sz1 st1 hp1 hs1 => ?_)
  obtain ⟨⟨r1, fo1_, rfl, hv1, hA1⟩, hI1, ho1, hf1⟩ := hp1
  replace hs1 : st1 = [.int r1] := hs1
  subst st1
  have hJ1 : JK G x y o d (ca) n f co po (tm, r, w, aq, e, ob, sm, un, (nC, F), (nT, Ft)) sn (qn, qL, qd) c n g co po (tm, r, w, aq, e, ob, sm, un, (nC, F), (nT, Ft)) sn (qn, qL, qd) c Φ1 := ⟨hI1, JM.eq hJ.2.1 (fun k hk => hf1 (y + k) (fun j hj => (show False from hj).elim) (by have := hD.1; have := hD.2.1; have := hD.2.2; omega)), ho1, ⟨_, (hf1 d (fun j hj => (show False from hj).elim) (by have := hD.1; have := hD.2.1; have := hD.2.2; omega)).trans (Classical.choose_spec hJ.2.2.2.1)⟩, (hf1 (x + 1) (fun j hj => (show False from hj).elim) (by have := hD.1; have := hD.2.1; have := hD.2.2; omega)).trans hJ.2.2.2.2.1, (hf1 (x + 2) (fun j hj => (show False from hj).elim) (by have := hD.1; have := hD.2.1; have := hD.2.2; omega)).trans hJ.2.2.2.2.2.1, C24.eq hJ.2.2.2.2.2.2.1 (hf1 (x + 24) (fun j hj => (show False from hj).elim) (by have := hD.1; have := hD.2.1; have := hD.2.2; omega)), XC.eq hJ.2.2.2.2.2.2.2.1 (fun k9 q1 q2 => hf1 (x + k9) (fun j hj => (show False from hj).elim) (by have := hD.1; have := hD.2.1; have := hD.2.2; omega)), SQ.eq hJ.2.2.2.2.2.2.2.2.1 (fun k9 q1 q2 => hf1 (x + k9) (fun j hj => (show False from hj).elim) (by have := hD.1; have := hD.2.1; have := hD.2.2; omega)), CfC.eq hJ.2.2.2.2.2.2.2.2.2 (fun k9 q1 q2 => hf1 (x + k9) (fun j hj => (show False from hj).elim) (by have := hD.1; have := hD.2.1; have := hD.2.2; omega))⟩
  refine z_istore (lv' := [(6, .int r1), (5, .int (nI i)), (4, .ref d), (3, .ref o), (2, .ref y), (1, .ref x), (0, .ref b)]) B dL_law_847 (Nat.le_of_ble_eq_true rfl) rfl ?_
  refine z_aload_n B dL_law_849 rfl 4 rfl ?_
  refine z_aload_n B dL_law_850 rfl 6 rfl ?_
  refine z_iload B dL_law_851 1 rfl ?_
  refine z_iconst (v := 1) B dL_law_853 rfl ?_
  refine z_iadd B dL_law_854 ?_
  refine z_sald B hX hbn (vinL (n := 1) rfl (by omega) hL) dL_law_855 ?_
  obtain ⟨⟨rd, le, nx, kn, nu, va, st, th, hM⟩, hg0⟩ := hJ1.2.1
  obtain ⟨fs, hy0⟩ := JM.obj hJ1.2.1
  refine z_callV (As := [.int (xs (nI i + 1).toNatClampNeg)]) (rest := []) B (r_templateFieldsC G l Φ1 sz1 y rd (CaQ nC F) (TpQ nT Ft) (TtQ nT Ft) (SiQ sn.1) (AtQ sn.2.1) (PtQ 0 (fun _ => 0)) (QlQ qn qL) nC 0 le nx n qn kn co nu va st po (nI tm) aq ob (nI w) r e sm un nT th sn.2.2.1 qd (sn.2.2.2.2.toInt64 &&& 4294967295) sn.2.2.2.1 c (xs (nI i + 1).toNatClampNeg) (by have := hD.1; omega) hM  ) (cwV 1 B.1.2.2.2.2 gL_law_X12_templateFields rfl rfl rfl (by decide +kernel) ⟨Nat.le_of_ble_eq_true rfl, Nat.le_of_ble_eq_true rfl⟩) hy0 rfl rfl rfl rfl (Nat.le_of_ble_eq_true rfl) dL_law_856 (rmL (by omega) (by omega) (by decide) (by decide)) (fun v2 Φ2 sz2 st2 hp2 hs2 => ?_)
  obtain ⟨⟨r2, th2, l2_, rfl, hth2, hAr2⟩, hz2, ⟨th1_, hM2⟩, hF2⟩ := hp2
  have hk9 := AnsR_fun hA1 hAr2 (fun hi9 _ => rfl)
  have hg2 := (hF2 (y + 25) (fun j q hj => by replace hj : j = 0 := hj; have := hD.1; have := hD.2.1; have := hD.2.2; omega)).trans hg0
  subst sz2
  replace hs2 : st2 = [.int r2] := hs2
  subst st2
  have hJ2 : JK G x y o d (ca) n f co po (tm, r, w, aq, e, ob, sm, un, (nC, F), (nT, Ft)) sn (qn, qL, qd) c n g co po (tm, r, w, aq, e, ob, sm, un, (nC, F), (nT, Ft)) sn (qn, qL, qd) c Φ2 := ⟨In.eq hJ1.1 (fun k hk => hF2 (x + k) (fun j q hj => by replace hj : j = 0 := hj; have := hD.1; have := hD.2.1; have := hD.2.2; omega)), ⟨⟨_, _, _, _, _, _, _, _, hM2⟩, hg2⟩, ⟨_, (hF2 (o) (fun j q hj => by replace hj : j = 0 := hj; have := hD.1; have := hD.2.1; have := hD.2.2; omega)).trans (Classical.choose_spec hJ1.2.2.1)⟩, ⟨_, (hF2 (d) (fun j q hj => by replace hj : j = 0 := hj; have := hD.1; have := hD.2.1; have := hD.2.2; omega)).trans (Classical.choose_spec hJ1.2.2.2.1)⟩, (hF2 (x + 1) (fun j q hj => by replace hj : j = 0 := hj; have := hD.1; have := hD.2.1; have := hD.2.2; omega)).trans hJ1.2.2.2.2.1, (hF2 (x + 2) (fun j q hj => by replace hj : j = 0 := hj; have := hD.1; have := hD.2.1; have := hD.2.2; omega)).trans hJ1.2.2.2.2.2.1, C24.eq hJ1.2.2.2.2.2.2.1 (hF2 (x + 24) (fun j q hj => by replace hj : j = 0 := hj; have := hD.1; have := hD.2.1; have := hD.2.2; omega)), XC.eq hJ1.2.2.2.2.2.2.2.1 (fun k9 q1 q2 => hF2 (x + k9) (fun j q hj => by replace hj : j = 0 := hj; have := hD.1; have := hD.2.1; have := hD.2.2; omega)), SQ.eq hJ1.2.2.2.2.2.2.2.2.1 (fun k9 q1 q2 => hF2 (x + k9) (fun j q hj => by replace hj : j = 0 := hj; have := hD.1; have := hD.2.1; have := hD.2.2; omega)), CfC.eq hJ1.2.2.2.2.2.2.2.2.2 (fun k9 q1 q2 => hF2 (x + k9) (fun j q hj => by replace hj : j = 0 := hj; have := hD.1; have := hD.2.1; have := hD.2.2; omega))⟩
  have ho2 := (hF2 (o) (fun j q hj => by replace hj : j = 0 := hj; have := hD.1; have := hD.2.1; have := hD.2.2; omega)).trans hv1
  refine z_istore (lv' := [(7, .int r2), (6, .int r1), (5, .int (nI i)), (4, .ref d), (3, .ref o), (2, .ref y), (1, .ref x), (0, .ref b)]) B dL_law_859 (Nat.le_of_ble_eq_true rfl) rfl ?_
  refine z_goto (tgt := 2001) B dL_law_861 rfl ?_
  refine z_lv [2, 3, 4, 5, 6, 7] rfl ?_
  refine z_widen (k := cells + 2) (n := slots + 12) (by omega) (by omega) ?_
  exact hT _ hd0 Φ2 sz1 (JJ.of (JK.up hJ2 (by omega)) hG rfl rfl rfl rfl rfl rfl rfl hEq)

set_option maxHeartbeats 4000000 in
set_option maxRecDepth 100000 in
theorem lc_19 {p9 : Program} {e9 : Env} {s9 : State} {m9 : MethodId} {a9 : Array Value} {w9 : List Frame} {t9 : Method} {k9 : Code} {Q9 : State → Prop} {nm9 : String} (G : EnvG) (l : Launch) (hl9 : l.stackTraces = false) {d0 : Drawn} (hd0 : s9.drawn.sameBut d0 lw_cs) (B : Bd p9 (s9.setDrawn d0) m9 a9 t9 k9 G code 9 RL wsL_law ret nm9) (Φ : Hm) (sz b L i : Nat) (xs : Nat → Int32) (hX : va_X b L xs (s9.setDrawn d0) (s9.setDrawn d0).heap) (hbn : b < G.2.2.2) (hL : L ≤ 3584) (hi : i + 7 ≤ L) (x y o d ca cells slots : Nat) (hna : G.2.2.2 ≤ x) (hD : Ds x y o d) (hca : ca ≤ 10000) (hcl : cells ≤ 8000) (hsl : slots ≤ 80000) (hJ : JJ G x y o d ca Φ) (hT : ∀ (d1 : Drawn), s9.drawn.sameBut d1 lw_cs → ∀ (Φ1 : Hm) (sz1 : Nat), JJ G x y o d (ca + 12) Φ1 → Z p9 l e9 room_1 (s9.setDrawn d1) m9 a9 w9 t9 k9 Q9 G 9 2001 [(5, .int (nI i)), (4, .ref d), (3, .ref o), (2, .ref y), (1, .ref x), (0, .ref b)] [] Φ1 sz1 (cells + 2) (slots + 12)) : Z p9 l e9 room_1 (s9.setDrawn d0) m9 a9 w9 t9 k9 Q9 G 9 864 [(5, .int (nI i)), (4, .ref d), (3, .ref o), (2, .ref y), (1, .ref x), (0, .ref b)] [] Φ sz cells slots := by
  obtain ⟨n, f, g, co, po, ⟨tm, r, w, aq, e, ob, sm, un, ⟨nC, F⟩, nT, Ft⟩, sn, ⟨qn, qL, qd⟩, c, hJ, hG, hEq⟩ := hJ
  have hq12 : qn ≤ 12 := SQ.le hJ.2.2.2.2.2.2.2.2.1
  obtain ⟨t7, s7, hCA7⟩ := hJ.2.2.2.2.2.2.2.2.2
  have hW7 := CfA.W hCA7 hG
  have hR7 := CfA.R hCA7 hG
  refine z_aload_n B dL_law_864 rfl 4 rfl ?_
  refine z_aload_n B dL_law_865 rfl 5 rfl ?_
  refine z_iload B dL_law_866 0 rfl ?_
  refine z_iconst (v := 1) B dL_law_868 rfl ?_
  refine z_iadd B dL_law_869 ?_
  refine z_sald B hX hbn (vinL (n := 1) rfl (by omega) hL) dL_law_870 ?_
  refine z_aload_n B dL_law_871 rfl 2 rfl ?_
  obtain ⟨fo, hco⟩ := hJ.2.2.1
  obtain ⟨t0, s0, hCA0⟩ := hJ.2.2.2.2.2.2.2.2.2
  refine z_callSW (As := [.ref x, .int (xs (nI i + 1).toNatClampNeg), .ref o]) (rest := []) B (w_effectiveFields G l hl9 Φ sz x ca t0 s0 c (xs (nI i + 1).toNatClampNeg) o fo hna (by have := hD.1; have := hD.2.1; have := hD.2.2; omega) (fun j hj => by have := hD.1; have := hD.2.1; have := hD.2.2; omega) hJ.1 hco hCA0 ) (vx_cwSW 3 B.1.2.2.2.2 gL_law_L_effectiveFields rfl rfl rfl (by decide +kernel) ⟨Nat.le_of_ble_eq_true rfl, Nat.le_of_ble_eq_true rfl⟩) rfl rfl (Nat.le_of_ble_eq_true rfl) dL_law_872 (rmL (by omega) (by omega) (by decide) (by decide)) (fun v1 Φ1 sz1 st1 hp1 hs1 => ?_)
  obtain ⟨⟨r1, fo1_, rfl, hv1, hA1⟩, hI1, ho1, hf1⟩ := hp1
  replace hs1 : st1 = [.int r1] := hs1
  subst st1
  have hJ1 : JK G x y o d (ca) n f co po (tm, r, w, aq, e, ob, sm, un, (nC, F), (nT, Ft)) sn (qn, qL, qd) c n g co po (tm, r, w, aq, e, ob, sm, un, (nC, F), (nT, Ft)) sn (qn, qL, qd) c Φ1 := ⟨hI1, JM.eq hJ.2.1 (fun k hk => hf1 (y + k) (fun j hj => (show False from hj).elim) (by have := hD.1; have := hD.2.1; have := hD.2.2; omega)), ho1, ⟨_, (hf1 d (fun j hj => (show False from hj).elim) (by have := hD.1; have := hD.2.1; have := hD.2.2; omega)).trans (Classical.choose_spec hJ.2.2.2.1)⟩, (hf1 (x + 1) (fun j hj => (show False from hj).elim) (by have := hD.1; have := hD.2.1; have := hD.2.2; omega)).trans hJ.2.2.2.2.1, (hf1 (x + 2) (fun j hj => (show False from hj).elim) (by have := hD.1; have := hD.2.1; have := hD.2.2; omega)).trans hJ.2.2.2.2.2.1, C24.eq hJ.2.2.2.2.2.2.1 (hf1 (x + 24) (fun j hj => (show False from hj).elim) (by have := hD.1; have := hD.2.1; have := hD.2.2; omega)), XC.eq hJ.2.2.2.2.2.2.2.1 (fun k9 q1 q2 => hf1 (x + k9) (fun j hj => (show False from hj).elim) (by have := hD.1; have := hD.2.1; have := hD.2.2; omega)), SQ.eq hJ.2.2.2.2.2.2.2.2.1 (fun k9 q1 q2 => hf1 (x + k9) (fun j hj => (show False from hj).elim) (by have := hD.1; have := hD.2.1; have := hD.2.2; omega)), CfC.eq hJ.2.2.2.2.2.2.2.2.2 (fun k9 q1 q2 => hf1 (x + k9) (fun j hj => (show False from hj).elim) (by have := hD.1; have := hD.2.1; have := hD.2.2; omega))⟩
  refine z_istore (lv' := [(6, .int r1), (5, .int (nI i)), (4, .ref d), (3, .ref o), (2, .ref y), (1, .ref x), (0, .ref b)]) B dL_law_875 (Nat.le_of_ble_eq_true rfl) rfl ?_
  refine z_aload_n B dL_law_877 rfl 4 rfl ?_
  refine z_aload_n B dL_law_878 rfl 6 rfl ?_
  refine z_iload B dL_law_879 1 rfl ?_
  refine z_iconst (v := 1) B dL_law_881 rfl ?_
  refine z_iadd B dL_law_882 ?_
  refine z_sald B hX hbn (vinL (n := 1) rfl (by omega) hL) dL_law_883 ?_
  obtain ⟨⟨rd, le, nx, kn, nu, va, st, th, hM⟩, hg0⟩ := hJ1.2.1
  obtain ⟨fs, hy0⟩ := JM.obj hJ1.2.1
  refine z_callV (As := [.int (xs (nI i + 1).toNatClampNeg)]) (rest := []) B (r_effectiveFieldsC G l Φ1 sz1 y rd (CaQ nC F) (TpQ nT Ft) (TtQ nT Ft) (SiQ sn.1) (AtQ sn.2.1) (PtQ 0 (fun _ => 0)) (QlQ qn qL) nC 0 le nx n qn kn co nu va st po (nI tm) aq ob (nI w) r e sm un nT th sn.2.2.1 qd (sn.2.2.2.2.toInt64 &&& 4294967295) sn.2.2.2.1 c (xs (nI i + 1).toNatClampNeg) (by have := hD.1; omega) hM  ) (cwV 1 B.1.2.2.2.2 gL_law_X12_effectiveFields rfl rfl rfl (by decide +kernel) ⟨Nat.le_of_ble_eq_true rfl, Nat.le_of_ble_eq_true rfl⟩) hy0 rfl rfl rfl rfl (Nat.le_of_ble_eq_true rfl) dL_law_884 (rmL (by omega) (by omega) (by decide) (by decide)) (fun v2 Φ2 sz2 st2 hp2 hs2 => ?_)
  obtain ⟨⟨r2, th2, l2_, rfl, hth2, hAr2⟩, hz2, ⟨th1_, hM2⟩, hF2⟩ := hp2
  have hk9 := AnsR_fun hA1 hAr2 (fun hi9 _ => congrArg Int32.toInt64 (hCA0.ef2 hi9).1)
  have hg2 := (hF2 (y + 25) (fun j q hj => by replace hj : j = 0 := hj; have := hD.1; have := hD.2.1; have := hD.2.2; omega)).trans hg0
  subst sz2
  replace hs2 : st2 = [.int r2] := hs2
  subst st2
  have hJ2 : JK G x y o d (ca) n f co po (tm, r, w, aq, e, ob, sm, un, (nC, F), (nT, Ft)) sn (qn, qL, qd) c n g co po (tm, r, w, aq, e, ob, sm, un, (nC, F), (nT, Ft)) sn (qn, qL, qd) c Φ2 := ⟨In.eq hJ1.1 (fun k hk => hF2 (x + k) (fun j q hj => by replace hj : j = 0 := hj; have := hD.1; have := hD.2.1; have := hD.2.2; omega)), ⟨⟨_, _, _, _, _, _, _, _, hM2⟩, hg2⟩, ⟨_, (hF2 (o) (fun j q hj => by replace hj : j = 0 := hj; have := hD.1; have := hD.2.1; have := hD.2.2; omega)).trans (Classical.choose_spec hJ1.2.2.1)⟩, ⟨_, (hF2 (d) (fun j q hj => by replace hj : j = 0 := hj; have := hD.1; have := hD.2.1; have := hD.2.2; omega)).trans (Classical.choose_spec hJ1.2.2.2.1)⟩, (hF2 (x + 1) (fun j q hj => by replace hj : j = 0 := hj; have := hD.1; have := hD.2.1; have := hD.2.2; omega)).trans hJ1.2.2.2.2.1, (hF2 (x + 2) (fun j q hj => by replace hj : j = 0 := hj; have := hD.1; have := hD.2.1; have := hD.2.2; omega)).trans hJ1.2.2.2.2.2.1, C24.eq hJ1.2.2.2.2.2.2.1 (hF2 (x + 24) (fun j q hj => by replace hj : j = 0 := hj; have := hD.1; have := hD.2.1; have := hD.2.2; omega)), XC.eq hJ1.2.2.2.2.2.2.2.1 (fun k9 q1 q2 => hF2 (x + k9) (fun j q hj => by replace hj : j = 0 := hj; have := hD.1; have := hD.2.1; have := hD.2.2; omega)), SQ.eq hJ1.2.2.2.2.2.2.2.2.1 (fun k9 q1 q2 => hF2 (x + k9) (fun j q hj => by replace hj : j = 0 := hj; have := hD.1; have := hD.2.1; have := hD.2.2; omega)), CfC.eq hJ1.2.2.2.2.2.2.2.2.2 (fun k9 q1 q2 => hF2 (x + k9) (fun j q hj => by replace hj : j = 0 := hj; have := hD.1; have := hD.2.1; have := hD.2.2; omega))⟩
  have ho2 := (hF2 (o) (fun j q hj => by replace hj : j = 0 := hj; have := hD.1; have := hD.2.1; have := hD.2.2; omega)).trans hv1
  refine z_istore (lv' := [(7, .int r2), (6, .int r1), (5, .int (nI i)), (4, .ref d), (3, .ref o), (2, .ref y), (1, .ref x), (0, .ref b)]) B dL_law_887 (Nat.le_of_ble_eq_true rfl) rfl ?_
  refine z_goto (tgt := 2001) B dL_law_889 rfl ?_
  refine z_lv [2, 3, 4, 5, 6, 7] rfl ?_
  refine z_widen (k := cells + 2) (n := slots + 12) (by omega) (by omega) ?_
  exact hT _ hd0 Φ2 sz1 (JJ.of (JK.up hJ2 (by omega)) hG rfl rfl rfl rfl rfl rfl rfl hEq)
