set_option maxHeartbeats 4000000 in
set_option maxRecDepth 100000 in
theorem m_isByte_1 (G : EnvG) (l : Launch) (Φ : Hm) (sz : Nat) (y : Nat) (a : Int32) (hp : inP a.toInt64 0 255) : Ct G l yX12_isByte wsX12_isByte ({ frames := 1, cells := 0, slots := 0, locals := 25 }) 0 0 [.int a] Φ sz (fun v Φ1 sz1 => v = some (.int 1) ∧ sz1 = sz ∧ (∀ b9 : Nat, Φ1 b9 = Φ b9)) := by
  refine Ct.of (cc := cX12_isByte) (maxL := 1) (ret := (some .boolean)) (by decide) rfl (Nat.le_of_ble_eq_true rfl) ?_
  intro p9 e9 s9 m9 w9 t9 k9 B
  show Z p9 l e9 _ s9 m9 _ w9 t9 k9 _ G 1 0 [(0, .int a)] [] Φ sz 0 0
  refine z_iload_n B dX12_isByte_0 rfl 0 rfl ?_
  refine z_i2l (v := a.toInt64) B dX12_isByte_1 rfl ?_
  refine z_lconst (v := 0) B dX12_isByte_2 rfl ?_
  refine z_ldc2 (v := 255) B (by decide +kernel) dX12_isByte_3 ?_
  refine z_callS (As := [.long a.toInt64, .long 0, .long 255]) (rest := []) B (c_X12_inRange_1 G l Φ sz a.toInt64 0 255 hp) (va_cwS 3 B.1.2.2.2.2 gX12_isByte_X12_inRange rfl rfl rfl (by decide +kernel) ⟨Nat.le_of_ble_eq_true rfl, Nat.le_of_ble_eq_true rfl⟩) rfl rfl (Nat.le_of_ble_eq_true rfl) dX12_isByte_6 ⟨Nat.le_of_ble_eq_true rfl, Nat.le_of_ble_eq_true rfl⟩ (fun v1 Φ1 sz1 st1 hp1 hs1 => ?_)
  obtain ⟨rfl, hq1, fr1⟩ := hp1
  replace hq1 : sz1 = sz := hq1
  subst sz1
  replace hs1 : st1 = [.int 1] := hs1
  subst st1
  exact z_ret_z B dX12_isByte_9 (by decide) ⟨rfl, rfl, (fun b9 => ((fr1 b9).trans rfl))⟩

set_option maxHeartbeats 4000000 in
set_option maxRecDepth 100000 in
theorem m_isByte_0 (G : EnvG) (l : Launch) (Φ : Hm) (sz : Nat) (y : Nat) (a : Int32) (hp : ¬ inP a.toInt64 0 255) : Ct G l yX12_isByte wsX12_isByte ({ frames := 1, cells := 0, slots := 0, locals := 25 }) 0 0 [.int a] Φ sz (fun v Φ1 sz1 => v = some (.int 0) ∧ sz1 = sz ∧ (∀ b9 : Nat, Φ1 b9 = Φ b9)) := by
  refine Ct.of (cc := cX12_isByte) (maxL := 1) (ret := (some .boolean)) (by decide) rfl (Nat.le_of_ble_eq_true rfl) ?_
  intro p9 e9 s9 m9 w9 t9 k9 B
  show Z p9 l e9 _ s9 m9 _ w9 t9 k9 _ G 1 0 [(0, .int a)] [] Φ sz 0 0
  refine z_iload_n B dX12_isByte_0 rfl 0 rfl ?_
  refine z_i2l (v := a.toInt64) B dX12_isByte_1 rfl ?_
  refine z_lconst (v := 0) B dX12_isByte_2 rfl ?_
  refine z_ldc2 (v := 255) B (by decide +kernel) dX12_isByte_3 ?_
  refine z_callS (As := [.long a.toInt64, .long 0, .long 255]) (rest := []) B (c_X12_inRange_0 G l Φ sz a.toInt64 0 255 hp) (va_cwS 3 B.1.2.2.2.2 gX12_isByte_X12_inRange rfl rfl rfl (by decide +kernel) ⟨Nat.le_of_ble_eq_true rfl, Nat.le_of_ble_eq_true rfl⟩) rfl rfl (Nat.le_of_ble_eq_true rfl) dX12_isByte_6 ⟨Nat.le_of_ble_eq_true rfl, Nat.le_of_ble_eq_true rfl⟩ (fun v1 Φ1 sz1 st1 hp1 hs1 => ?_)
  obtain ⟨rfl, hq1, fr1⟩ := hp1
  replace hq1 : sz1 = sz := hq1
  subst sz1
  replace hs1 : st1 = [.int 0] := hs1
  subst st1
  exact z_ret_z B dX12_isByte_9 (by decide) ⟨rfl, rfl, (fun b9 => ((fr1 b9).trans rfl))⟩

def pkP (a b d e f : Int32) : Prop := inP a.toInt64 0 255 ∧ inP b.toInt64 0 255 ∧ inP d.toInt64 0 65535 ∧ inP e.toInt64 0 255 ∧ inP f.toInt64 1 65535

set_option maxHeartbeats 4000000 in
set_option maxRecDepth 100000 in
theorem m_isPacket_0 (G : EnvG) (l : Launch) (Φ : Hm) (sz : Nat) (y : Nat) (a : Int32) (b : Int32) (d : Int32) (e : Int32) (f : Int32) (hp0 : ¬ inP a.toInt64 0 255) : Ct G l yX12_isPacket wsX12_isPacket ({ frames := 2, cells := 0, slots := 0, locals := 45 }) 0 0 [.int a, .int b, .int d, .int e, .int f] Φ sz (fun v Φ1 sz1 => v = some (.int 0) ∧ sz1 = sz ∧ (∀ b9 : Nat, Φ1 b9 = Φ b9)) := by
  refine Ct.of (cc := cX12_isPacket) (maxL := 5) (ret := (some .boolean)) (by decide) rfl (Nat.le_of_ble_eq_true rfl) ?_
  intro p9 e9 s9 m9 w9 t9 k9 B
  show Z p9 l e9 _ s9 m9 _ w9 t9 k9 _ G 5 0 [(0, .int a), (1, .int b), (2, .int d), (3, .int e), (4, .int f)] [] Φ sz 0 0
  refine z_iload_n B dX12_isPacket_0 rfl 0 rfl ?_
  refine z_callS (As := [.int a]) (rest := []) B (m_isByte_0 G l Φ sz y a hp0) (va_cwS 1 B.1.2.2.2.2 gX12_isPacket_X12_isByte rfl rfl rfl (by decide +kernel) ⟨Nat.le_of_ble_eq_true rfl, Nat.le_of_ble_eq_true rfl⟩) rfl rfl (Nat.le_of_ble_eq_true rfl) dX12_isPacket_1 ⟨Nat.le_of_ble_eq_true rfl, Nat.le_of_ble_eq_true rfl⟩ (fun v1 Φ1 sz1 st1 hp1 hs1 => ?_)
  obtain ⟨rfl, hq1, fr1⟩ := hp1
  replace hq1 : sz1 = sz := hq1
  subst sz1
  replace hs1 : st1 = [.int 0] := hs1
  subst st1
  refine z_if_eq (tgt := 50) B dX12_isPacket_4 rfl (fun c_1 => ?_) (fun h9 => absurd (by decide) h9)
  refine z_iconst (v := 0) B dX12_isPacket_50 rfl ?_
  exact z_ret_z B dX12_isPacket_51 (by decide) ⟨rfl, rfl, (fun b9 => ((fr1 b9).trans rfl))⟩

set_option maxHeartbeats 4000000 in
set_option maxRecDepth 100000 in
theorem m_isPacket_1 (G : EnvG) (l : Launch) (Φ : Hm) (sz : Nat) (y : Nat) (a : Int32) (b : Int32) (d : Int32) (e : Int32) (f : Int32) (hp0 : inP a.toInt64 0 255) (hp1 : ¬ inP b.toInt64 0 255) : Ct G l yX12_isPacket wsX12_isPacket ({ frames := 2, cells := 0, slots := 0, locals := 45 }) 0 0 [.int a, .int b, .int d, .int e, .int f] Φ sz (fun v Φ1 sz1 => v = some (.int 0) ∧ sz1 = sz ∧ (∀ b9 : Nat, Φ1 b9 = Φ b9)) := by
  refine Ct.of (cc := cX12_isPacket) (maxL := 5) (ret := (some .boolean)) (by decide) rfl (Nat.le_of_ble_eq_true rfl) ?_
  intro p9 e9 s9 m9 w9 t9 k9 B
  show Z p9 l e9 _ s9 m9 _ w9 t9 k9 _ G 5 0 [(0, .int a), (1, .int b), (2, .int d), (3, .int e), (4, .int f)] [] Φ sz 0 0
  refine z_iload_n B dX12_isPacket_0 rfl 0 rfl ?_
  refine z_callS (As := [.int a]) (rest := []) B (m_isByte_1 G l Φ sz y a hp0) (va_cwS 1 B.1.2.2.2.2 gX12_isPacket_X12_isByte rfl rfl rfl (by decide +kernel) ⟨Nat.le_of_ble_eq_true rfl, Nat.le_of_ble_eq_true rfl⟩) rfl rfl (Nat.le_of_ble_eq_true rfl) dX12_isPacket_1 ⟨Nat.le_of_ble_eq_true rfl, Nat.le_of_ble_eq_true rfl⟩ (fun v1 Φ1 sz1 st1 hp1 hs1 => ?_)
  obtain ⟨rfl, hq1, fr1⟩ := hp1
  replace hq1 : sz1 = sz := hq1
  subst sz1
  replace hs1 : st1 = [.int 1] := hs1
  subst st1
  refine z_if_eq (tgt := 50) B dX12_isPacket_4 rfl (fun h9 => absurd h9 (by decide)) (fun c_1 => ?_)
  refine z_iload_n B dX12_isPacket_7 rfl 1 rfl ?_
  refine z_callS (As := [.int b]) (rest := []) B (m_isByte_0 G l Φ1 sz y b hp1) (va_cwS 1 B.1.2.2.2.2 gX12_isPacket_X12_isByte rfl rfl rfl (by decide +kernel) ⟨Nat.le_of_ble_eq_true rfl, Nat.le_of_ble_eq_true rfl⟩) rfl rfl (Nat.le_of_ble_eq_true rfl) dX12_isPacket_8 ⟨Nat.le_of_ble_eq_true rfl, Nat.le_of_ble_eq_true rfl⟩ (fun v2 Φ2 sz2 st2 hp2 hs2 => ?_)
  obtain ⟨rfl, hq2, fr2⟩ := hp2
  replace hq2 : sz2 = sz := hq2
  subst sz2
  replace hs2 : st2 = [.int 0] := hs2
  subst st2
  refine z_if_eq (tgt := 50) B dX12_isPacket_11 rfl (fun c_2 => ?_) (fun h9 => absurd (by decide) h9)
  refine z_iconst (v := 0) B dX12_isPacket_50 rfl ?_
  exact z_ret_z B dX12_isPacket_51 (by decide) ⟨rfl, rfl, (fun b9 => ((fr2 b9).trans ((fr1 b9).trans rfl)))⟩

set_option maxHeartbeats 4000000 in
set_option maxRecDepth 100000 in
theorem m_isPacket_2 (G : EnvG) (l : Launch) (Φ : Hm) (sz : Nat) (y : Nat) (a : Int32) (b : Int32) (d : Int32) (e : Int32) (f : Int32) (hp0 : inP a.toInt64 0 255) (hp1 : inP b.toInt64 0 255) (hp2 : ¬ inP d.toInt64 0 65535) : Ct G l yX12_isPacket wsX12_isPacket ({ frames := 2, cells := 0, slots := 0, locals := 45 }) 0 0 [.int a, .int b, .int d, .int e, .int f] Φ sz (fun v Φ1 sz1 => v = some (.int 0) ∧ sz1 = sz ∧ (∀ b9 : Nat, Φ1 b9 = Φ b9)) := by
  refine Ct.of (cc := cX12_isPacket) (maxL := 5) (ret := (some .boolean)) (by decide) rfl (Nat.le_of_ble_eq_true rfl) ?_
  intro p9 e9 s9 m9 w9 t9 k9 B
  show Z p9 l e9 _ s9 m9 _ w9 t9 k9 _ G 5 0 [(0, .int a), (1, .int b), (2, .int d), (3, .int e), (4, .int f)] [] Φ sz 0 0
  refine z_iload_n B dX12_isPacket_0 rfl 0 rfl ?_
  refine z_callS (As := [.int a]) (rest := []) B (m_isByte_1 G l Φ sz y a hp0) (va_cwS 1 B.1.2.2.2.2 gX12_isPacket_X12_isByte rfl rfl rfl (by decide +kernel) ⟨Nat.le_of_ble_eq_true rfl, Nat.le_of_ble_eq_true rfl⟩) rfl rfl (Nat.le_of_ble_eq_true rfl) dX12_isPacket_1 ⟨Nat.le_of_ble_eq_true rfl, Nat.le_of_ble_eq_true rfl⟩ (fun v1 Φ1 sz1 st1 hp1 hs1 => ?_)
  obtain ⟨rfl, hq1, fr1⟩ := hp1
  replace hq1 : sz1 = sz := hq1
  subst sz1
  replace hs1 : st1 = [.int 1] := hs1
  subst st1
  refine z_if_eq (tgt := 50) B dX12_isPacket_4 rfl (fun h9 => absurd h9 (by decide)) (fun c_1 => ?_)
  refine z_iload_n B dX12_isPacket_7 rfl 1 rfl ?_
  refine z_callS (As := [.int b]) (rest := []) B (m_isByte_1 G l Φ1 sz y b hp1) (va_cwS 1 B.1.2.2.2.2 gX12_isPacket_X12_isByte rfl rfl rfl (by decide +kernel) ⟨Nat.le_of_ble_eq_true rfl, Nat.le_of_ble_eq_true rfl⟩) rfl rfl (Nat.le_of_ble_eq_true rfl) dX12_isPacket_8 ⟨Nat.le_of_ble_eq_true rfl, Nat.le_of_ble_eq_true rfl⟩ (fun v2 Φ2 sz2 st2 hp2 hs2 => ?_)
  obtain ⟨rfl, hq2, fr2⟩ := hp2
  replace hq2 : sz2 = sz := hq2
  subst sz2
  replace hs2 : st2 = [.int 1] := hs2
  subst st2
  refine z_if_eq (tgt := 50) B dX12_isPacket_11 rfl (fun h9 => absurd h9 (by decide)) (fun c_2 => ?_)
  refine z_iload_n B dX12_isPacket_14 rfl 2 rfl ?_
  refine z_i2l (v := d.toInt64) B dX12_isPacket_15 rfl ?_
  refine z_lconst (v := 0) B dX12_isPacket_16 rfl ?_
  refine z_ldc2 (v := 65535) B (by decide +kernel) dX12_isPacket_17 ?_
  refine z_callS (As := [.long d.toInt64, .long 0, .long 65535]) (rest := []) B (c_X12_inRange_0 G l Φ2 sz d.toInt64 0 65535 hp2) (va_cwS 3 B.1.2.2.2.2 gX12_isPacket_X12_inRange rfl rfl rfl (by decide +kernel) ⟨Nat.le_of_ble_eq_true rfl, Nat.le_of_ble_eq_true rfl⟩) rfl rfl (Nat.le_of_ble_eq_true rfl) dX12_isPacket_20 ⟨Nat.le_of_ble_eq_true rfl, Nat.le_of_ble_eq_true rfl⟩ (fun v3 Φ3 sz3 st3 hp3 hs3 => ?_)
  obtain ⟨rfl, hq3, fr3⟩ := hp3
  replace hq3 : sz3 = sz := hq3
  subst sz3
  replace hs3 : st3 = [.int 0] := hs3
  subst st3
  refine z_if_eq (tgt := 50) B dX12_isPacket_23 rfl (fun c_3 => ?_) (fun h9 => absurd (by decide) h9)
  refine z_iconst (v := 0) B dX12_isPacket_50 rfl ?_
  exact z_ret_z B dX12_isPacket_51 (by decide) ⟨rfl, rfl, (fun b9 => ((fr3 b9).trans ((fr2 b9).trans ((fr1 b9).trans rfl))))⟩

set_option maxHeartbeats 4000000 in
set_option maxRecDepth 100000 in
theorem m_isPacket_3 (G : EnvG) (l : Launch) (Φ : Hm) (sz : Nat) (y : Nat) (a : Int32) (b : Int32) (d : Int32) (e : Int32) (f : Int32) (hp0 : inP a.toInt64 0 255) (hp1 : inP b.toInt64 0 255) (hp2 : inP d.toInt64 0 65535) (hp3 : ¬ inP e.toInt64 0 255) : Ct G l yX12_isPacket wsX12_isPacket ({ frames := 2, cells := 0, slots := 0, locals := 45 }) 0 0 [.int a, .int b, .int d, .int e, .int f] Φ sz (fun v Φ1 sz1 => v = some (.int 0) ∧ sz1 = sz ∧ (∀ b9 : Nat, Φ1 b9 = Φ b9)) := by
  refine Ct.of (cc := cX12_isPacket) (maxL := 5) (ret := (some .boolean)) (by decide) rfl (Nat.le_of_ble_eq_true rfl) ?_
  intro p9 e9 s9 m9 w9 t9 k9 B
  show Z p9 l e9 _ s9 m9 _ w9 t9 k9 _ G 5 0 [(0, .int a), (1, .int b), (2, .int d), (3, .int e), (4, .int f)] [] Φ sz 0 0
  refine z_iload_n B dX12_isPacket_0 rfl 0 rfl ?_
  refine z_callS (As := [.int a]) (rest := []) B (m_isByte_1 G l Φ sz y a hp0) (va_cwS 1 B.1.2.2.2.2 gX12_isPacket_X12_isByte rfl rfl rfl (by decide +kernel) ⟨Nat.le_of_ble_eq_true rfl, Nat.le_of_ble_eq_true rfl⟩) rfl rfl (Nat.le_of_ble_eq_true rfl) dX12_isPacket_1 ⟨Nat.le_of_ble_eq_true rfl, Nat.le_of_ble_eq_true rfl⟩ (fun v1 Φ1 sz1 st1 hp1 hs1 => ?_)
  obtain ⟨rfl, hq1, fr1⟩ := hp1
  replace hq1 : sz1 = sz := hq1
  subst sz1
  replace hs1 : st1 = [.int 1] := hs1
  subst st1
  refine z_if_eq (tgt := 50) B dX12_isPacket_4 rfl (fun h9 => absurd h9 (by decide)) (fun c_1 => ?_)
  refine z_iload_n B dX12_isPacket_7 rfl 1 rfl ?_
  refine z_callS (As := [.int b]) (rest := []) B (m_isByte_1 G l Φ1 sz y b hp1) (va_cwS 1 B.1.2.2.2.2 gX12_isPacket_X12_isByte rfl rfl rfl (by decide +kernel) ⟨Nat.le_of_ble_eq_true rfl, Nat.le_of_ble_eq_true rfl⟩) rfl rfl (Nat.le_of_ble_eq_true rfl) dX12_isPacket_8 ⟨Nat.le_of_ble_eq_true rfl, Nat.le_of_ble_eq_true rfl⟩ (fun v2 Φ2 sz2 st2 hp2 hs2 => ?_)
  obtain ⟨rfl, hq2, fr2⟩ := hp2
  replace hq2 : sz2 = sz := hq2
  subst sz2
  replace hs2 : st2 = [.int 1] := hs2
  subst st2
  refine z_if_eq (tgt := 50) B dX12_isPacket_11 rfl (fun h9 => absurd h9 (by decide)) (fun c_2 => ?_)
  refine z_iload_n B dX12_isPacket_14 rfl 2 rfl ?_
  refine z_i2l (v := d.toInt64) B dX12_isPacket_15 rfl ?_
  refine z_lconst (v := 0) B dX12_isPacket_16 rfl ?_
  refine z_ldc2 (v := 65535) B (by decide +kernel) dX12_isPacket_17 ?_
  refine z_callS (As := [.long d.toInt64, .long 0, .long 65535]) (rest := []) B (c_X12_inRange_1 G l Φ2 sz d.toInt64 0 65535 hp2) (va_cwS 3 B.1.2.2.2.2 gX12_isPacket_X12_inRange rfl rfl rfl (by decide +kernel) ⟨Nat.le_of_ble_eq_true rfl, Nat.le_of_ble_eq_true rfl⟩) rfl rfl (Nat.le_of_ble_eq_true rfl) dX12_isPacket_20 ⟨Nat.le_of_ble_eq_true rfl, Nat.le_of_ble_eq_true rfl⟩ (fun v3 Φ3 sz3 st3 hp3 hs3 => ?_)
  obtain ⟨rfl, hq3, fr3⟩ := hp3
  replace hq3 : sz3 = sz := hq3
  subst sz3
  replace hs3 : st3 = [.int 1] := hs3
  subst st3
  refine z_if_eq (tgt := 50) B dX12_isPacket_23 rfl (fun h9 => absurd h9 (by decide)) (fun c_3 => ?_)
  refine z_iload_n B dX12_isPacket_26 rfl 3 rfl ?_
  refine z_callS (As := [.int e]) (rest := []) B (m_isByte_0 G l Φ3 sz y e hp3) (va_cwS 1 B.1.2.2.2.2 gX12_isPacket_X12_isByte rfl rfl rfl (by decide +kernel) ⟨Nat.le_of_ble_eq_true rfl, Nat.le_of_ble_eq_true rfl⟩) rfl rfl (Nat.le_of_ble_eq_true rfl) dX12_isPacket_27 ⟨Nat.le_of_ble_eq_true rfl, Nat.le_of_ble_eq_true rfl⟩ (fun v4 Φ4 sz4 st4 hp4 hs4 => ?_)
  obtain ⟨rfl, hq4, fr4⟩ := hp4
  replace hq4 : sz4 = sz := hq4
  subst sz4
  replace hs4 : st4 = [.int 0] := hs4
  subst st4
  refine z_if_eq (tgt := 50) B dX12_isPacket_30 rfl (fun c_4 => ?_) (fun h9 => absurd (by decide) h9)
  refine z_iconst (v := 0) B dX12_isPacket_50 rfl ?_
  exact z_ret_z B dX12_isPacket_51 (by decide) ⟨rfl, rfl, (fun b9 => ((fr4 b9).trans ((fr3 b9).trans ((fr2 b9).trans ((fr1 b9).trans rfl)))))⟩

set_option maxHeartbeats 4000000 in
set_option maxRecDepth 100000 in
theorem m_isPacket_4 (G : EnvG) (l : Launch) (Φ : Hm) (sz : Nat) (y : Nat) (a : Int32) (b : Int32) (d : Int32) (e : Int32) (f : Int32) (hp0 : inP a.toInt64 0 255) (hp1 : inP b.toInt64 0 255) (hp2 : inP d.toInt64 0 65535) (hp3 : inP e.toInt64 0 255) (hp4 : ¬ inP f.toInt64 1 65535) : Ct G l yX12_isPacket wsX12_isPacket ({ frames := 2, cells := 0, slots := 0, locals := 45 }) 0 0 [.int a, .int b, .int d, .int e, .int f] Φ sz (fun v Φ1 sz1 => v = some (.int 0) ∧ sz1 = sz ∧ (∀ b9 : Nat, Φ1 b9 = Φ b9)) := by
  refine Ct.of (cc := cX12_isPacket) (maxL := 5) (ret := (some .boolean)) (by decide) rfl (Nat.le_of_ble_eq_true rfl) ?_
  intro p9 e9 s9 m9 w9 t9 k9 B
  show Z p9 l e9 _ s9 m9 _ w9 t9 k9 _ G 5 0 [(0, .int a), (1, .int b), (2, .int d), (3, .int e), (4, .int f)] [] Φ sz 0 0
  refine z_iload_n B dX12_isPacket_0 rfl 0 rfl ?_
  refine z_callS (As := [.int a]) (rest := []) B (m_isByte_1 G l Φ sz y a hp0) (va_cwS 1 B.1.2.2.2.2 gX12_isPacket_X12_isByte rfl rfl rfl (by decide +kernel) ⟨Nat.le_of_ble_eq_true rfl, Nat.le_of_ble_eq_true rfl⟩) rfl rfl (Nat.le_of_ble_eq_true rfl) dX12_isPacket_1 ⟨Nat.le_of_ble_eq_true rfl, Nat.le_of_ble_eq_true rfl⟩ (fun v1 Φ1 sz1 st1 hp1 hs1 => ?_)
  obtain ⟨rfl, hq1, fr1⟩ := hp1
  replace hq1 : sz1 = sz := hq1
  subst sz1
  replace hs1 : st1 = [.int 1] := hs1
  subst st1
  refine z_if_eq (tgt := 50) B dX12_isPacket_4 rfl (fun h9 => absurd h9 (by decide)) (fun c_1 => ?_)
  refine z_iload_n B dX12_isPacket_7 rfl 1 rfl ?_
  refine z_callS (As := [.int b]) (rest := []) B (m_isByte_1 G l Φ1 sz y b hp1) (va_cwS 1 B.1.2.2.2.2 gX12_isPacket_X12_isByte rfl rfl rfl (by decide +kernel) ⟨Nat.le_of_ble_eq_true rfl, Nat.le_of_ble_eq_true rfl⟩) rfl rfl (Nat.le_of_ble_eq_true rfl) dX12_isPacket_8 ⟨Nat.le_of_ble_eq_true rfl, Nat.le_of_ble_eq_true rfl⟩ (fun v2 Φ2 sz2 st2 hp2 hs2 => ?_)
  obtain ⟨rfl, hq2, fr2⟩ := hp2
  replace hq2 : sz2 = sz := hq2
  subst sz2
  replace hs2 : st2 = [.int 1] := hs2
  subst st2
  refine z_if_eq (tgt := 50) B dX12_isPacket_11 rfl (fun h9 => absurd h9 (by decide)) (fun c_2 => ?_)
  refine z_iload_n B dX12_isPacket_14 rfl 2 rfl ?_
  refine z_i2l (v := d.toInt64) B dX12_isPacket_15 rfl ?_
  refine z_lconst (v := 0) B dX12_isPacket_16 rfl ?_
  refine z_ldc2 (v := 65535) B (by decide +kernel) dX12_isPacket_17 ?_
  refine z_callS (As := [.long d.toInt64, .long 0, .long 65535]) (rest := []) B (c_X12_inRange_1 G l Φ2 sz d.toInt64 0 65535 hp2) (va_cwS 3 B.1.2.2.2.2 gX12_isPacket_X12_inRange rfl rfl rfl (by decide +kernel) ⟨Nat.le_of_ble_eq_true rfl, Nat.le_of_ble_eq_true rfl⟩) rfl rfl (Nat.le_of_ble_eq_true rfl) dX12_isPacket_20 ⟨Nat.le_of_ble_eq_true rfl, Nat.le_of_ble_eq_true rfl⟩ (fun v3 Φ3 sz3 st3 hp3 hs3 => ?_)
  obtain ⟨rfl, hq3, fr3⟩ := hp3
  replace hq3 : sz3 = sz := hq3
  subst sz3
  replace hs3 : st3 = [.int 1] := hs3
  subst st3
  refine z_if_eq (tgt := 50) B dX12_isPacket_23 rfl (fun h9 => absurd h9 (by decide)) (fun c_3 => ?_)
  refine z_iload_n B dX12_isPacket_26 rfl 3 rfl ?_
  refine z_callS (As := [.int e]) (rest := []) B (m_isByte_1 G l Φ3 sz y e hp3) (va_cwS 1 B.1.2.2.2.2 gX12_isPacket_X12_isByte rfl rfl rfl (by decide +kernel) ⟨Nat.le_of_ble_eq_true rfl, Nat.le_of_ble_eq_true rfl⟩) rfl rfl (Nat.le_of_ble_eq_true rfl) dX12_isPacket_27 ⟨Nat.le_of_ble_eq_true rfl, Nat.le_of_ble_eq_true rfl⟩ (fun v4 Φ4 sz4 st4 hp4 hs4 => ?_)
  obtain ⟨rfl, hq4, fr4⟩ := hp4
  replace hq4 : sz4 = sz := hq4
  subst sz4
  replace hs4 : st4 = [.int 1] := hs4
  subst st4
  refine z_if_eq (tgt := 50) B dX12_isPacket_30 rfl (fun h9 => absurd h9 (by decide)) (fun c_4 => ?_)
  refine z_iload B dX12_isPacket_33 4 rfl ?_
  refine z_i2l (v := f.toInt64) B dX12_isPacket_35 rfl ?_
  refine z_lconst (v := 1) B dX12_isPacket_36 rfl ?_
  refine z_ldc2 (v := 65535) B (by decide +kernel) dX12_isPacket_37 ?_
  refine z_callS (As := [.long f.toInt64, .long 1, .long 65535]) (rest := []) B (c_X12_inRange_0 G l Φ4 sz f.toInt64 1 65535 hp4) (va_cwS 3 B.1.2.2.2.2 gX12_isPacket_X12_inRange rfl rfl rfl (by decide +kernel) ⟨Nat.le_of_ble_eq_true rfl, Nat.le_of_ble_eq_true rfl⟩) rfl rfl (Nat.le_of_ble_eq_true rfl) dX12_isPacket_40 ⟨Nat.le_of_ble_eq_true rfl, Nat.le_of_ble_eq_true rfl⟩ (fun v5 Φ5 sz5 st5 hp5 hs5 => ?_)
  obtain ⟨rfl, hq5, fr5⟩ := hp5
  replace hq5 : sz5 = sz := hq5
  subst sz5
  replace hs5 : st5 = [.int 0] := hs5
  subst st5
  refine z_if_eq (tgt := 50) B dX12_isPacket_43 rfl (fun c_5 => ?_) (fun h9 => absurd (by decide) h9)
  refine z_iconst (v := 0) B dX12_isPacket_50 rfl ?_
  exact z_ret_z B dX12_isPacket_51 (by decide) ⟨rfl, rfl, (fun b9 => ((fr5 b9).trans ((fr4 b9).trans ((fr3 b9).trans ((fr2 b9).trans ((fr1 b9).trans rfl))))))⟩

set_option maxHeartbeats 4000000 in
set_option maxRecDepth 100000 in
theorem m_isPacket (G : EnvG) (l : Launch) (Φ : Hm) (sz : Nat) (y : Nat) (a : Int32) (b : Int32) (d : Int32) (e : Int32) (f : Int32) (hp0 : inP a.toInt64 0 255) (hp1 : inP b.toInt64 0 255) (hp2 : inP d.toInt64 0 65535) (hp3 : inP e.toInt64 0 255) (hp4 : inP f.toInt64 1 65535) : Ct G l yX12_isPacket wsX12_isPacket ({ frames := 2, cells := 0, slots := 0, locals := 45 }) 0 0 [.int a, .int b, .int d, .int e, .int f] Φ sz (fun v Φ1 sz1 => v = some (.int 1) ∧ sz1 = sz ∧ (∀ b9 : Nat, Φ1 b9 = Φ b9)) := by
  refine Ct.of (cc := cX12_isPacket) (maxL := 5) (ret := (some .boolean)) (by decide) rfl (Nat.le_of_ble_eq_true rfl) ?_
  intro p9 e9 s9 m9 w9 t9 k9 B
  show Z p9 l e9 _ s9 m9 _ w9 t9 k9 _ G 5 0 [(0, .int a), (1, .int b), (2, .int d), (3, .int e), (4, .int f)] [] Φ sz 0 0
  refine z_iload_n B dX12_isPacket_0 rfl 0 rfl ?_
  refine z_callS (As := [.int a]) (rest := []) B (m_isByte_1 G l Φ sz y a hp0) (va_cwS 1 B.1.2.2.2.2 gX12_isPacket_X12_isByte rfl rfl rfl (by decide +kernel) ⟨Nat.le_of_ble_eq_true rfl, Nat.le_of_ble_eq_true rfl⟩) rfl rfl (Nat.le_of_ble_eq_true rfl) dX12_isPacket_1 ⟨Nat.le_of_ble_eq_true rfl, Nat.le_of_ble_eq_true rfl⟩ (fun v1 Φ1 sz1 st1 hp1 hs1 => ?_)
  obtain ⟨rfl, hq1, fr1⟩ := hp1
  replace hq1 : sz1 = sz := hq1
  subst sz1
  replace hs1 : st1 = [.int 1] := hs1
  subst st1
  refine z_if_eq (tgt := 50) B dX12_isPacket_4 rfl (fun h9 => absurd h9 (by decide)) (fun c_1 => ?_)
  refine z_iload_n B dX12_isPacket_7 rfl 1 rfl ?_
  refine z_callS (As := [.int b]) (rest := []) B (m_isByte_1 G l Φ1 sz y b hp1) (va_cwS 1 B.1.2.2.2.2 gX12_isPacket_X12_isByte rfl rfl rfl (by decide +kernel) ⟨Nat.le_of_ble_eq_true rfl, Nat.le_of_ble_eq_true rfl⟩) rfl rfl (Nat.le_of_ble_eq_true rfl) dX12_isPacket_8 ⟨Nat.le_of_ble_eq_true rfl, Nat.le_of_ble_eq_true rfl⟩ (fun v2 Φ2 sz2 st2 hp2 hs2 => ?_)
  obtain ⟨rfl, hq2, fr2⟩ := hp2
  replace hq2 : sz2 = sz := hq2
  subst sz2
  replace hs2 : st2 = [.int 1] := hs2
  subst st2
  refine z_if_eq (tgt := 50) B dX12_isPacket_11 rfl (fun h9 => absurd h9 (by decide)) (fun c_2 => ?_)
  refine z_iload_n B dX12_isPacket_14 rfl 2 rfl ?_
  refine z_i2l (v := d.toInt64) B dX12_isPacket_15 rfl ?_
  refine z_lconst (v := 0) B dX12_isPacket_16 rfl ?_
  refine z_ldc2 (v := 65535) B (by decide +kernel) dX12_isPacket_17 ?_
  refine z_callS (As := [.long d.toInt64, .long 0, .long 65535]) (rest := []) B (c_X12_inRange_1 G l Φ2 sz d.toInt64 0 65535 hp2) (va_cwS 3 B.1.2.2.2.2 gX12_isPacket_X12_inRange rfl rfl rfl (by decide +kernel) ⟨Nat.le_of_ble_eq_true rfl, Nat.le_of_ble_eq_true rfl⟩) rfl rfl (Nat.le_of_ble_eq_true rfl) dX12_isPacket_20 ⟨Nat.le_of_ble_eq_true rfl, Nat.le_of_ble_eq_true rfl⟩ (fun v3 Φ3 sz3 st3 hp3 hs3 => ?_)
  obtain ⟨rfl, hq3, fr3⟩ := hp3
  replace hq3 : sz3 = sz := hq3
  subst sz3
  replace hs3 : st3 = [.int 1] := hs3
  subst st3
  refine z_if_eq (tgt := 50) B dX12_isPacket_23 rfl (fun h9 => absurd h9 (by decide)) (fun c_3 => ?_)
  refine z_iload_n B dX12_isPacket_26 rfl 3 rfl ?_
  refine z_callS (As := [.int e]) (rest := []) B (m_isByte_1 G l Φ3 sz y e hp3) (va_cwS 1 B.1.2.2.2.2 gX12_isPacket_X12_isByte rfl rfl rfl (by decide +kernel) ⟨Nat.le_of_ble_eq_true rfl, Nat.le_of_ble_eq_true rfl⟩) rfl rfl (Nat.le_of_ble_eq_true rfl) dX12_isPacket_27 ⟨Nat.le_of_ble_eq_true rfl, Nat.le_of_ble_eq_true rfl⟩ (fun v4 Φ4 sz4 st4 hp4 hs4 => ?_)
  obtain ⟨rfl, hq4, fr4⟩ := hp4
  replace hq4 : sz4 = sz := hq4
  subst sz4
  replace hs4 : st4 = [.int 1] := hs4
  subst st4
  refine z_if_eq (tgt := 50) B dX12_isPacket_30 rfl (fun h9 => absurd h9 (by decide)) (fun c_4 => ?_)
  refine z_iload B dX12_isPacket_33 4 rfl ?_
  refine z_i2l (v := f.toInt64) B dX12_isPacket_35 rfl ?_
  refine z_lconst (v := 1) B dX12_isPacket_36 rfl ?_
  refine z_ldc2 (v := 65535) B (by decide +kernel) dX12_isPacket_37 ?_
  refine z_callS (As := [.long f.toInt64, .long 1, .long 65535]) (rest := []) B (c_X12_inRange_1 G l Φ4 sz f.toInt64 1 65535 hp4) (va_cwS 3 B.1.2.2.2.2 gX12_isPacket_X12_inRange rfl rfl rfl (by decide +kernel) ⟨Nat.le_of_ble_eq_true rfl, Nat.le_of_ble_eq_true rfl⟩) rfl rfl (Nat.le_of_ble_eq_true rfl) dX12_isPacket_40 ⟨Nat.le_of_ble_eq_true rfl, Nat.le_of_ble_eq_true rfl⟩ (fun v5 Φ5 sz5 st5 hp5 hs5 => ?_)
  obtain ⟨rfl, hq5, fr5⟩ := hp5
  replace hq5 : sz5 = sz := hq5
  subst sz5
  replace hs5 : st5 = [.int 1] := hs5
  subst st5
  refine z_if_eq (tgt := 50) B dX12_isPacket_43 rfl (fun h9 => absurd h9 (by decide)) (fun c_5 => ?_)
  refine z_iconst (v := 1) B dX12_isPacket_46 rfl ?_
  refine z_goto (tgt := 51) B dX12_isPacket_47 rfl ?_
  exact z_ret_z B dX12_isPacket_51 (by decide) ⟨rfl, rfl, (fun b9 => ((fr5 b9).trans ((fr4 b9).trans ((fr3 b9).trans ((fr2 b9).trans ((fr1 b9).trans rfl))))))⟩

theorem m_isPacket_x (G : EnvG) (l : Launch) (Φ : Hm) (sz : Nat) (y : Nat) (a b d e f : Int32) (hp : ¬ pkP a b d e f) : Ct G l yX12_isPacket wsX12_isPacket ({ frames := 2, cells := 0, slots := 0, locals := 45 }) 0 0 [.int a, .int b, .int d, .int e, .int f] Φ sz (fun v Φ1 sz1 => v = some (.int 0) ∧ sz1 = sz ∧ (∀ b9 : Nat, Φ1 b9 = Φ b9)) := by
  by_cases h0 : inP a.toInt64 0 255
  · by_cases h1 : inP b.toInt64 0 255
    · by_cases h2 : inP d.toInt64 0 65535
      · by_cases h3 : inP e.toInt64 0 255
        · exact m_isPacket_4 G l Φ sz y a b d e f h0 h1 h2 h3 (fun h4 => hp ⟨h0, h1, h2, h3, h4⟩)
        · exact m_isPacket_3 G l Φ sz y a b d e f h0 h1 h2 h3
      · exact m_isPacket_2 G l Φ sz y a b d e f h0 h1 h2
    · exact m_isPacket_1 G l Φ sz y a b d e f h0 h1
  · exact m_isPacket_0 G l Φ sz y a b d e f h0

set_option maxHeartbeats 4000000 in
set_option maxRecDepth 100000 in
theorem m_X12_observe_x (G : EnvG) (l : Launch) (Φ : Hm) (sz : Nat) (y : Nat) (a : Int32) (b : Int32) (d : Int32) (e : Int32) (f : Int32) (hc0_ : Φ y = some (o_ 14 [.int 0, .ref (y + 1), .ref (y + 2), .int 0, .int 1, .int 1, .int 0, .int 0, .ref (y + 3), .ref (y + 4), .int 0, .long 0, .ref (y + 5), .int 0, .int 0, .long 0, .long 0, .long 0, .long 0, .ref (y + 6), .ref (y + 7), .int 0, .ref (y + 8), .int 0, .ref (y + 9), .ref (y + 10), .int 0, .ref (y + 11), .ref (y + 12), .ref (y + 13), .ref (y + 14), .ref (y + 15), .ref (y + 16), .int 0, .long (-1), .ref (y + 17), .ref (y + 18), .ref (y + 19), .ref (y + 20), .ref (y + 21), .ref (y + 22), .int 0, .ref (y + 23), .ref (y + 24), .int 0, .ref (y + 25), .int 0, .int 0, .int 0, .int (-1), .int 0, .int 0, .int 0, .long 0])) (hna : G.2.2.2 ≤ y) (hp : ¬ pkP a b d e f) : Ct G l yX12_observe wsX12_observe ({ frames := 3, cells := 0, slots := 0, locals := 69 }) 0 0 [.ref y, .int a, .int b, .int d, .int e, .int f] Φ sz (fun v Φ1 sz1 => v = some (.int 0) ∧ (∃ fs : List Value, Φ1 y = some (o_ 14 fs) ∧ fs[0]? = some (.int 1)) ∧ ∀ b9 : Nat, y + 26 ≤ b9 → Φ1 b9 = Φ b9) := by
  refine Ct.of (cc := cX12_observe) (maxL := 7) (ret := (some .boolean)) (by decide) rfl (Nat.le_of_ble_eq_true rfl) ?_
  intro p9 e9 s9 m9 w9 t9 k9 B
  show Z p9 l e9 _ s9 m9 _ w9 t9 k9 _ G 7 0 [(0, .ref y), (1, .int a), (2, .int b), (3, .int d), (4, .int e), (5, .int f)] [] Φ sz 0 0
  refine z_aload_n B dX12_observe_0 rfl 0 rfl ?_
  refine z_iconst (v := 0) B dX12_observe_1 rfl ?_
  refine z_put (ref := "FlowExporterModel") (C := RX12) (T := TX12) (N := 54) (ci := 14) (v := .int 0) B (by decide +kernel) tyX12 tyX12_ok nmX12 rfl 0 (by decide) (by decide +kernel) rfl (Or.inl rfl) hc0_ hna rfl rfl (Nat.le_of_ble_eq_true rfl) dX12_observe_2 (fun Φ1 hΦ1 => ?_)
  have h_1 : Φ1 y = some (o_ 14 [.int 0, .ref (y + 1), .ref (y + 2), .int 0, .int 1, .int 1, .int 0, .int 0, .ref (y + 3), .ref (y + 4), .int 0, .long 0, .ref (y + 5), .int 0, .int 0, .long 0, .long 0, .long 0, .long 0, .ref (y + 6), .ref (y + 7), .int 0, .ref (y + 8), .int 0, .ref (y + 9), .ref (y + 10), .int 0, .ref (y + 11), .ref (y + 12), .ref (y + 13), .ref (y + 14), .ref (y + 15), .ref (y + 16), .int 0, .long (-1), .ref (y + 17), .ref (y + 18), .ref (y + 19), .ref (y + 20), .ref (y + 21), .ref (y + 22), .int 0, .ref (y + 23), .ref (y + 24), .int 0, .ref (y + 25), .int 0, .int 0, .int 0, .int (-1), .int 0, .int 0, .int 0, .long 0]) := fset_at hΦ1
  refine z_aload_n B dX12_observe_5 rfl 0 rfl ?_
  refine z_iload_n B dX12_observe_6 rfl 1 rfl ?_
  refine z_iload_n B dX12_observe_7 rfl 2 rfl ?_
  refine z_iload_n B dX12_observe_8 rfl 3 rfl ?_
  refine z_iload B dX12_observe_9 4 rfl ?_
  refine z_iload B dX12_observe_11 5 rfl ?_
  refine z_callS (As := [.int a, .int b, .int d, .int e, .int f]) (rest := [.ref y]) B (m_isPacket_x G l Φ1 sz y a b d e f hp) (va_cwS 5 B.1.2.2.2.2 gX12_observe_X12_isPacket rfl rfl rfl (by decide +kernel) ⟨Nat.le_of_ble_eq_true rfl, Nat.le_of_ble_eq_true rfl⟩) rfl rfl (Nat.le_of_ble_eq_true rfl) dX12_observe_13 ⟨Nat.le_of_ble_eq_true rfl, Nat.le_of_ble_eq_true rfl⟩ (fun v1 Φ2 sz1 st1 hp1 hs1 => ?_)
  obtain ⟨rfl, hq1, fr1⟩ := hp1
  replace hq1 : sz1 = sz := hq1
  subst sz1
  replace hs1 : st1 = [.int 0, .ref y] := hs1
  subst st1
  refine z_if_ne (tgt := 23) B dX12_observe_16 rfl (fun h9 => absurd (by decide) h9) (fun c_1 => ?_)
  refine z_iconst (v := 1) B dX12_observe_19 rfl ?_
  refine z_goto (tgt := 24) B dX12_observe_20 rfl ?_
  refine z_iconst (v := 1) B dX12_observe_24 rfl ?_
  have h_2 : Φ2 y = some (o_ 14 [.int 0, .ref (y + 1), .ref (y + 2), .int 0, .int 1, .int 1, .int 0, .int 0, .ref (y + 3), .ref (y + 4), .int 0, .long 0, .ref (y + 5), .int 0, .int 0, .long 0, .long 0, .long 0, .long 0, .ref (y + 6), .ref (y + 7), .int 0, .ref (y + 8), .int 0, .ref (y + 9), .ref (y + 10), .int 0, .ref (y + 11), .ref (y + 12), .ref (y + 13), .ref (y + 14), .ref (y + 15), .ref (y + 16), .int 0, .long (-1), .ref (y + 17), .ref (y + 18), .ref (y + 19), .ref (y + 20), .ref (y + 21), .ref (y + 22), .int 0, .ref (y + 23), .ref (y + 24), .int 0, .ref (y + 25), .int 0, .int 0, .int 0, .int (-1), .int 0, .int 0, .int 0, .long 0]) := ((fr1 y).trans h_1)
  refine z_callV (As := [.int 1, .int 1]) (rest := []) B (c_X12_throwsIf_1 G l Φ2 sz y 0 0 1 1 0 0 0 0 0 0 0 0 0 0 0 0 0 0 (-1) 0 0 0 0 0 (-1) 0 0 0 0 1 h_2 hna) (cwV 2 B.1.2.2.2.2 gX12_observe_X12_throwsIf rfl rfl rfl (by decide +kernel) ⟨Nat.le_of_ble_eq_true rfl, Nat.le_of_ble_eq_true rfl⟩) h_2 rfl rfl rfl rfl (Nat.le_of_ble_eq_true rfl) dX12_observe_25 ⟨Nat.le_of_ble_eq_true rfl, Nat.le_of_ble_eq_true rfl⟩ (fun v2 Φ3 sz2 st2 hp2 hs2 => ?_)
  obtain ⟨rfl, hq2, fr2, h_3⟩ := hp2
  replace hq2 : sz2 = sz := hq2
  subst sz2
  replace hs2 : st2 = [.int 1] := hs2
  subst st2
  have h_4 : Φ3 y = some (o_ 14 [.int 1, .ref (y + 1), .ref (y + 2), .int 0, .int 1, .int 1, .int 0, .int 0, .ref (y + 3), .ref (y + 4), .int 0, .long 0, .ref (y + 5), .int 0, .int 0, .long 0, .long 0, .long 0, .long 0, .ref (y + 6), .ref (y + 7), .int 0, .ref (y + 8), .int 0, .ref (y + 9), .ref (y + 10), .int 0, .ref (y + 11), .ref (y + 12), .ref (y + 13), .ref (y + 14), .ref (y + 15), .ref (y + 16), .int 0, .long (-1), .ref (y + 17), .ref (y + 18), .ref (y + 19), .ref (y + 20), .ref (y + 21), .ref (y + 22), .int 0, .ref (y + 23), .ref (y + 24), .int 0, .ref (y + 25), .int 0, .int 0, .int 0, .int (-1), .int 0, .int 0, .int 0, .long 0]) := h_3
  refine z_if_eq (tgt := 33) B dX12_observe_28 rfl (fun h9 => absurd h9 (by decide)) (fun c_2 => ?_)
  refine z_iconst (v := 0) B dX12_observe_31 rfl ?_
  exact z_ret_z B dX12_observe_32 (by decide) ⟨rfl, ⟨_, h_4, rfl⟩, fun b9 h9 => ((fr2 b9 (Nat.ne_of_gt (Nat.lt_of_lt_of_le (lt_off (x := y) (i := 0) (j := 26) rfl) h9))).trans ((fr1 b9).trans ((fset_fr hΦ1 (Nat.ne_of_gt (Nat.lt_of_lt_of_le (lt_off (x := y) (i := 0) (j := 26) rfl) h9))).trans rfl)))⟩

set_option maxHeartbeats 4000000 in
set_option maxRecDepth 100000 in
theorem m_trueKeyOf_o (G : EnvG) (l : Launch) (Φ : Hm) (sz : Nat) (y : Nat) (ob : Int64) (a : Int32) (b : Int32) (d : Int32) (e : Int32) (hc0_ : Φ y = some (o_ 14 [.int 0, .ref (y + 1), .ref (y + 2), .int 0, .int 1, .int 1, .int 0, .int 0, .ref (y + 3), .ref (y + 4), .int 0, .long 0, .ref (y + 5), .int 0, .int 0, .long ob, .long 0, .long 0, .long 0, .ref (y + 6), .ref (y + 7), .int 0, .ref (y + 8), .int 0, .ref (y + 9), .ref (y + 10), .int 0, .ref (y + 11), .ref (y + 12), .ref (y + 13), .ref (y + 14), .ref (y + 15), .ref (y + 16), .int 0, .long (-1), .ref (y + 17), .ref (y + 18), .ref (y + 19), .ref (y + 20), .ref (y + 21), .ref (y + 22), .int 0, .ref (y + 23), .ref (y + 24), .int 0, .ref (y + 25), .int 0, .int 0, .int 0, .int (-1), .int 0, .int 0, .int 0, .long 0])) : Ct G l yX12_trueKeyOf wsX12_trueKeyOf ({ frames := 0, cells := 0, slots := 0, locals := 0 }) 0 0 [.ref y, .int a, .int b, .int d, .int e] Φ sz (fun v Φ1 sz1 => v = some (.int (-1)) ∧ sz1 = sz ∧ (∀ b9 : Nat, Φ1 b9 = Φ b9)) := by
  refine Ct.of (cc := cX12_trueKeyOf) (maxL := 6) (ret := (some .int)) (by decide) rfl (Nat.le_of_ble_eq_true rfl) ?_
  intro p9 e9 s9 m9 w9 t9 k9 B
  show Z p9 l e9 _ s9 m9 _ w9 t9 k9 _ G 6 0 [(0, .ref y), (1, .int a), (2, .int b), (3, .int d), (4, .int e)] [] Φ sz 0 0
  refine z_iconst (v := 0) B dX12_trueKeyOf_0 rfl ?_
  refine z_istore (lv' := [(5, .int 0), (0, .ref y), (1, .int a), (2, .int b), (3, .int d), (4, .int e)]) B dX12_trueKeyOf_1 (Nat.le_of_ble_eq_true rfl) rfl ?_
  refine z_iload B dX12_trueKeyOf_3 0 rfl ?_
  refine z_aload_n B dX12_trueKeyOf_5 rfl 1 rfl ?_
  refine z_get (ref := "FlowExporterModel") (C := RX12) (T := TX12) (N := 54) (ci := 14) (v := .int 0) B (by decide +kernel) rfl 44 (by decide) (by decide +kernel) rfl hc0_ rfl dX12_trueKeyOf_6 ?_
  refine z_icmp_ge (tgt := 42) B dX12_trueKeyOf_9 rfl (fun c_1 => ?_) (fun h9 => absurd (by decide) h9)
  refine z_iconst (v := (-1)) B dX12_trueKeyOf_42 rfl ?_
  exact z_ret_i B dX12_trueKeyOf_43 ⟨rfl, rfl, (fun b9 => rfl)⟩

set_option maxHeartbeats 4000000 in
set_option maxRecDepth 100000 in
theorem m_remember_o (G : EnvG) (l : Launch) (Φ : Hm) (sz : Nat) (y : Nat) (ob : Int64) (a : Int32) (b : Int32) (d : Int32) (e : Int32) (f : Int32) (hc0_ : Φ y = some (o_ 14 [.int 0, .ref (y + 1), .ref (y + 2), .int 0, .int 1, .int 1, .int 0, .int 0, .ref (y + 3), .ref (y + 4), .int 0, .long 0, .ref (y + 5), .int 0, .int 0, .long ob, .long 0, .long 0, .long 0, .ref (y + 6), .ref (y + 7), .int 0, .ref (y + 8), .int 0, .ref (y + 9), .ref (y + 10), .int 0, .ref (y + 11), .ref (y + 12), .ref (y + 13), .ref (y + 14), .ref (y + 15), .ref (y + 16), .int 0, .long (-1), .ref (y + 17), .ref (y + 18), .ref (y + 19), .ref (y + 20), .ref (y + 21), .ref (y + 22), .int 0, .ref (y + 23), .ref (y + 24), .int 0, .ref (y + 25), .int 0, .int 0, .int 0, .int (-1), .int 0, .int 0, .int 0, .long 0])) (hc23_ : Φ (y + 23) = some (ai_ G 96 (fun _ => 0))) (hc24_ : Φ (y + 24) = some (al_ G 48 (fun _ => 0))) (hna : G.2.2.2 ≤ y) : Ct G l yX12_remember wsX12_remember ({ frames := 1, cells := 0, slots := 0, locals := 25 }) 0 0 [.ref y, .int a, .int b, .int d, .int e, .int f] Φ sz (fun v Φ1 sz1 => v = none ∧ sz1 = sz ∧ (∀ b9 : Nat, b9 ≠ y → b9 ≠ y + 23 → b9 ≠ y + 24 → Φ1 b9 = Φ b9) ∧ Φ1 y = some (o_ 14 [.int 0, .ref (y + 1), .ref (y + 2), .int 0, .int 1, .int 1, .int 0, .int 0, .ref (y + 3), .ref (y + 4), .int 0, .long 0, .ref (y + 5), .int 0, .int 0, .long ob, .long 0, .long 0, .long 0, .ref (y + 6), .ref (y + 7), .int 0, .ref (y + 8), .int 0, .ref (y + 9), .ref (y + 10), .int 0, .ref (y + 11), .ref (y + 12), .ref (y + 13), .ref (y + 14), .ref (y + 15), .ref (y + 16), .int 0, .long (-1), .ref (y + 17), .ref (y + 18), .ref (y + 19), .ref (y + 20), .ref (y + 21), .ref (y + 22), .int 0, .ref (y + 23), .ref (y + 24), .int 1, .ref (y + 25), .int 0, .int 0, .int 0, .int (-1), .int 0, .int 0, .int 0, .long 0]) ∧ Φ1 (y + 23) = some (ai_ G 96 (upd (upd (upd (upd (fun _ => 0) (0 : Int32).toNatClampNeg a) (1 : Int32).toNatClampNeg b) (2 : Int32).toNatClampNeg d) (3 : Int32).toNatClampNeg e)) ∧ Φ1 (y + 24) = some (al_ G 48 (vp_updL (vp_updL (vp_updL (vp_updL (fun _ => 0) (0 : Int32).toNatClampNeg 0) (1 : Int32).toNatClampNeg 0) (0 : Int32).toNatClampNeg 1) (1 : Int32).toNatClampNeg (0 + f.toInt64)))) := by
  refine Ct.of (cc := cX12_remember) (maxL := 7) (ret := none) (by decide) rfl (Nat.le_of_ble_eq_true rfl) ?_
  intro p9 e9 s9 m9 w9 t9 k9 B
  show Z p9 l e9 _ s9 m9 _ w9 t9 k9 _ G 7 0 [(0, .ref y), (1, .int a), (2, .int b), (3, .int d), (4, .int e), (5, .int f)] [] Φ sz 0 0
  refine z_aload_n B dX12_remember_0 rfl 0 rfl ?_
  refine z_iload_n B dX12_remember_1 rfl 1 rfl ?_
  refine z_iload_n B dX12_remember_2 rfl 2 rfl ?_
  refine z_iload_n B dX12_remember_3 rfl 3 rfl ?_
  refine z_iload B dX12_remember_4 4 rfl ?_
  refine z_callV (As := [.int a, .int b, .int d, .int e]) (rest := []) B (m_trueKeyOf_o G l Φ sz y ob a b d e hc0_) (cwV 4 B.1.2.2.2.2 gX12_remember_X12_trueKeyOf rfl rfl rfl (by decide +kernel) ⟨Nat.le_of_ble_eq_true rfl, Nat.le_of_ble_eq_true rfl⟩) hc0_ rfl rfl rfl rfl (Nat.le_of_ble_eq_true rfl) dX12_remember_6 ⟨Nat.le_of_ble_eq_true rfl, Nat.le_of_ble_eq_true rfl⟩ (fun v1 Φ1 sz1 st1 hp1 hs1 => ?_)
  obtain ⟨rfl, hq1, fr1⟩ := hp1
  replace hq1 : sz1 = sz := hq1
  subst sz1
  replace hs1 : st1 = [.int (-1)] := hs1
  subst st1
  refine z_istore (lv' := [(6, .int (-1)), (0, .ref y), (1, .int a), (2, .int b), (3, .int d), (4, .int e), (5, .int f)]) B dX12_remember_9 (Nat.le_of_ble_eq_true rfl) rfl ?_
  refine z_iload B dX12_remember_11 0 rfl ?_
  refine z_iconst (v := (-1)) B dX12_remember_13 rfl ?_
  refine z_icmp_ne (tgt := 27) B dX12_remember_14 rfl (fun h9 => absurd (by decide) h9) (fun c_1 => ?_)
  refine z_aload_n B dX12_remember_17 rfl 1 rfl ?_
  have h_1 : Φ1 y = some (o_ 14 [.int 0, .ref (y + 1), .ref (y + 2), .int 0, .int 1, .int 1, .int 0, .int 0, .ref (y + 3), .ref (y + 4), .int 0, .long 0, .ref (y + 5), .int 0, .int 0, .long ob, .long 0, .long 0, .long 0, .ref (y + 6), .ref (y + 7), .int 0, .ref (y + 8), .int 0, .ref (y + 9), .ref (y + 10), .int 0, .ref (y + 11), .ref (y + 12), .ref (y + 13), .ref (y + 14), .ref (y + 15), .ref (y + 16), .int 0, .long (-1), .ref (y + 17), .ref (y + 18), .ref (y + 19), .ref (y + 20), .ref (y + 21), .ref (y + 22), .int 0, .ref (y + 23), .ref (y + 24), .int 0, .ref (y + 25), .int 0, .int 0, .int 0, .int (-1), .int 0, .int 0, .int 0, .long 0]) := ((fr1 y).trans hc0_)
  refine z_get (ref := "FlowExporterModel") (C := RX12) (T := TX12) (N := 54) (ci := 14) (v := .int 0) B (by decide +kernel) rfl 44 (by decide) (by decide +kernel) rfl h_1 rfl dX12_remember_18 ?_
  refine z_bipush (v := 24) B dX12_remember_21 rfl ?_
  refine z_icmp_ne (tgt := 27) B dX12_remember_23 rfl (fun c_2 => ?_) (fun h9 => absurd h9 (by decide))
  refine z_iload B dX12_remember_27 0 rfl ?_
  refine z_iconst (v := (-1)) B dX12_remember_29 rfl ?_
  refine z_icmp_ne (tgt := 118) B dX12_remember_30 rfl (fun h9 => absurd (by decide) h9) (fun c_3 => ?_)
  refine z_aload_n B dX12_remember_33 rfl 1 rfl ?_
  refine z_get (ref := "FlowExporterModel") (C := RX12) (T := TX12) (N := 54) (ci := 14) (v := .int 0) B (by decide +kernel) rfl 44 (by decide) (by decide +kernel) rfl h_1 rfl dX12_remember_34 ?_
  refine z_istore (lv' := [(6, .int 0), (0, .ref y), (1, .int a), (2, .int b), (3, .int d), (4, .int e), (5, .int f)]) B dX12_remember_37 (Nat.le_of_ble_eq_true rfl) rfl ?_
  refine z_aload_n B dX12_remember_39 rfl 1 rfl ?_
  refine z_dup B dX12_remember_40 rfl ?_
  refine z_get (ref := "FlowExporterModel") (C := RX12) (T := TX12) (N := 54) (ci := 14) (v := .int 0) B (by decide +kernel) rfl 44 (by decide) (by decide +kernel) rfl h_1 rfl dX12_remember_41 ?_
  refine z_iconst (v := 1) B dX12_remember_44 rfl ?_
  refine z_iadd B dX12_remember_45 ?_
  refine z_top (st1 := [.int 1, .ref y]) (congrArg (fun w9 : Int32 => ([.int w9, .ref y] : List Value)) (show (0 + 1 : Int32) = 1 by decide +kernel)) ?_
  refine z_put (ref := "FlowExporterModel") (C := RX12) (T := TX12) (N := 54) (ci := 14) (v := .int 1) B (by decide +kernel) tyX12 tyX12_ok nmX12 rfl 44 (by decide) (by decide +kernel) rfl (Or.inl rfl) h_1 hna rfl rfl (Nat.le_of_ble_eq_true rfl) dX12_remember_46 (fun Φ2 hΦ1 => ?_)
  have h_2 : Φ2 y = some (o_ 14 [.int 0, .ref (y + 1), .ref (y + 2), .int 0, .int 1, .int 1, .int 0, .int 0, .ref (y + 3), .ref (y + 4), .int 0, .long 0, .ref (y + 5), .int 0, .int 0, .long ob, .long 0, .long 0, .long 0, .ref (y + 6), .ref (y + 7), .int 0, .ref (y + 8), .int 0, .ref (y + 9), .ref (y + 10), .int 0, .ref (y + 11), .ref (y + 12), .ref (y + 13), .ref (y + 14), .ref (y + 15), .ref (y + 16), .int 0, .long (-1), .ref (y + 17), .ref (y + 18), .ref (y + 19), .ref (y + 20), .ref (y + 21), .ref (y + 22), .int 0, .ref (y + 23), .ref (y + 24), .int 1, .ref (y + 25), .int 0, .int 0, .int 0, .int (-1), .int 0, .int 0, .int 0, .long 0]) := fset_at hΦ1
  refine z_aload_n B dX12_remember_49 rfl 1 rfl ?_
  refine z_get (ref := "FlowExporterModel") (C := RX12) (T := TX12) (N := 54) (ci := 14) (v := .ref (y + 23)) B (by decide +kernel) rfl 42 (by decide) (by decide +kernel) rfl h_2 rfl dX12_remember_50 ?_
  refine z_iconst (v := 4) B dX12_remember_53 rfl ?_
  refine z_iload B dX12_remember_54 0 rfl ?_
  refine z_imul B dX12_remember_56 ?_
  refine z_top (st1 := [.int 0, .ref (y + 23)]) (congrArg (fun w9 : Int32 => ([.int w9, .ref (y + 23)] : List Value)) (show (4 * 0 : Int32) = 0 by decide +kernel)) ?_
  refine z_iload_n B dX12_remember_57 rfl 2 rfl ?_
  have h_3 : Φ2 (y + 23) = some (ai_ G 96 (fun _ => 0)) := ((fset_fr hΦ1 (ne_off (x := y) (i := 23) (j := 0) rfl)).trans ((fr1 (y + 23)).trans hc23_))
  refine z_iast B h_3 (Nat.le_trans hna (Nat.le_add_right y 23)) (vin rfl) dX12_remember_58 (fun Φ3 hΦ2 => ?_)
  have h_4 : Φ3 (y + 23) = some (ai_ G 96 (upd (fun _ => 0) (0 : Int32).toNatClampNeg a)) := fset_at hΦ2
  refine z_aload_n B dX12_remember_59 rfl 1 rfl ?_
  have h_5 : Φ3 y = some (o_ 14 [.int 0, .ref (y + 1), .ref (y + 2), .int 0, .int 1, .int 1, .int 0, .int 0, .ref (y + 3), .ref (y + 4), .int 0, .long 0, .ref (y + 5), .int 0, .int 0, .long ob, .long 0, .long 0, .long 0, .ref (y + 6), .ref (y + 7), .int 0, .ref (y + 8), .int 0, .ref (y + 9), .ref (y + 10), .int 0, .ref (y + 11), .ref (y + 12), .ref (y + 13), .ref (y + 14), .ref (y + 15), .ref (y + 16), .int 0, .long (-1), .ref (y + 17), .ref (y + 18), .ref (y + 19), .ref (y + 20), .ref (y + 21), .ref (y + 22), .int 0, .ref (y + 23), .ref (y + 24), .int 1, .ref (y + 25), .int 0, .int 0, .int 0, .int (-1), .int 0, .int 0, .int 0, .long 0]) := ((fset_fr hΦ2 (ne_off (x := y) (i := 0) (j := 23) rfl)).trans h_2)
  refine z_get (ref := "FlowExporterModel") (C := RX12) (T := TX12) (N := 54) (ci := 14) (v := .ref (y + 23)) B (by decide +kernel) rfl 42 (by decide) (by decide +kernel) rfl h_5 rfl dX12_remember_60 ?_
  refine z_iconst (v := 4) B dX12_remember_63 rfl ?_
  refine z_iload B dX12_remember_64 0 rfl ?_
  refine z_imul B dX12_remember_66 ?_
  refine z_top (st1 := [.int 0, .ref (y + 23)]) (congrArg (fun w9 : Int32 => ([.int w9, .ref (y + 23)] : List Value)) (show (4 * 0 : Int32) = 0 by decide +kernel)) ?_
  refine z_iconst (v := 1) B dX12_remember_67 rfl ?_
  refine z_iadd B dX12_remember_68 ?_
  refine z_top (st1 := [.int 1, .ref (y + 23)]) (congrArg (fun w9 : Int32 => ([.int w9, .ref (y + 23)] : List Value)) (show (0 + 1 : Int32) = 1 by decide +kernel)) ?_
  refine z_iload_n B dX12_remember_69 rfl 3 rfl ?_
  refine z_iast B h_4 (Nat.le_trans hna (Nat.le_add_right y 23)) (vin rfl) dX12_remember_70 (fun Φ4 hΦ3 => ?_)
  have h_6 : Φ4 (y + 23) = some (ai_ G 96 (upd (upd (fun _ => 0) (0 : Int32).toNatClampNeg a) (1 : Int32).toNatClampNeg b)) := fset_at hΦ3
  refine z_aload_n B dX12_remember_71 rfl 1 rfl ?_
  have h_7 : Φ4 y = some (o_ 14 [.int 0, .ref (y + 1), .ref (y + 2), .int 0, .int 1, .int 1, .int 0, .int 0, .ref (y + 3), .ref (y + 4), .int 0, .long 0, .ref (y + 5), .int 0, .int 0, .long ob, .long 0, .long 0, .long 0, .ref (y + 6), .ref (y + 7), .int 0, .ref (y + 8), .int 0, .ref (y + 9), .ref (y + 10), .int 0, .ref (y + 11), .ref (y + 12), .ref (y + 13), .ref (y + 14), .ref (y + 15), .ref (y + 16), .int 0, .long (-1), .ref (y + 17), .ref (y + 18), .ref (y + 19), .ref (y + 20), .ref (y + 21), .ref (y + 22), .int 0, .ref (y + 23), .ref (y + 24), .int 1, .ref (y + 25), .int 0, .int 0, .int 0, .int (-1), .int 0, .int 0, .int 0, .long 0]) := ((fset_fr hΦ3 (ne_off (x := y) (i := 0) (j := 23) rfl)).trans h_5)
  refine z_get (ref := "FlowExporterModel") (C := RX12) (T := TX12) (N := 54) (ci := 14) (v := .ref (y + 23)) B (by decide +kernel) rfl 42 (by decide) (by decide +kernel) rfl h_7 rfl dX12_remember_72 ?_
  refine z_iconst (v := 4) B dX12_remember_75 rfl ?_
  refine z_iload B dX12_remember_76 0 rfl ?_
  refine z_imul B dX12_remember_78 ?_
  refine z_top (st1 := [.int 0, .ref (y + 23)]) (congrArg (fun w9 : Int32 => ([.int w9, .ref (y + 23)] : List Value)) (show (4 * 0 : Int32) = 0 by decide +kernel)) ?_
  refine z_iconst (v := 2) B dX12_remember_79 rfl ?_
  refine z_iadd B dX12_remember_80 ?_
  refine z_top (st1 := [.int 2, .ref (y + 23)]) (congrArg (fun w9 : Int32 => ([.int w9, .ref (y + 23)] : List Value)) (show (0 + 2 : Int32) = 2 by decide +kernel)) ?_
  refine z_iload_n B dX12_remember_81 rfl 4 rfl ?_
  refine z_iast B h_6 (Nat.le_trans hna (Nat.le_add_right y 23)) (vin rfl) dX12_remember_82 (fun Φ5 hΦ4 => ?_)
  have h_8 : Φ5 (y + 23) = some (ai_ G 96 (upd (upd (upd (fun _ => 0) (0 : Int32).toNatClampNeg a) (1 : Int32).toNatClampNeg b) (2 : Int32).toNatClampNeg d)) := fset_at hΦ4
  refine z_aload_n B dX12_remember_83 rfl 1 rfl ?_
  have h_9 : Φ5 y = some (o_ 14 [.int 0, .ref (y + 1), .ref (y + 2), .int 0, .int 1, .int 1, .int 0, .int 0, .ref (y + 3), .ref (y + 4), .int 0, .long 0, .ref (y + 5), .int 0, .int 0, .long ob, .long 0, .long 0, .long 0, .ref (y + 6), .ref (y + 7), .int 0, .ref (y + 8), .int 0, .ref (y + 9), .ref (y + 10), .int 0, .ref (y + 11), .ref (y + 12), .ref (y + 13), .ref (y + 14), .ref (y + 15), .ref (y + 16), .int 0, .long (-1), .ref (y + 17), .ref (y + 18), .ref (y + 19), .ref (y + 20), .ref (y + 21), .ref (y + 22), .int 0, .ref (y + 23), .ref (y + 24), .int 1, .ref (y + 25), .int 0, .int 0, .int 0, .int (-1), .int 0, .int 0, .int 0, .long 0]) := ((fset_fr hΦ4 (ne_off (x := y) (i := 0) (j := 23) rfl)).trans h_7)
  refine z_get (ref := "FlowExporterModel") (C := RX12) (T := TX12) (N := 54) (ci := 14) (v := .ref (y + 23)) B (by decide +kernel) rfl 42 (by decide) (by decide +kernel) rfl h_9 rfl dX12_remember_84 ?_
  refine z_iconst (v := 4) B dX12_remember_87 rfl ?_
  refine z_iload B dX12_remember_88 0 rfl ?_
  refine z_imul B dX12_remember_90 ?_
  refine z_top (st1 := [.int 0, .ref (y + 23)]) (congrArg (fun w9 : Int32 => ([.int w9, .ref (y + 23)] : List Value)) (show (4 * 0 : Int32) = 0 by decide +kernel)) ?_
  refine z_iconst (v := 3) B dX12_remember_91 rfl ?_
  refine z_iadd B dX12_remember_92 ?_
  refine z_top (st1 := [.int 3, .ref (y + 23)]) (congrArg (fun w9 : Int32 => ([.int w9, .ref (y + 23)] : List Value)) (show (0 + 3 : Int32) = 3 by decide +kernel)) ?_
  refine z_iload B dX12_remember_93 5 rfl ?_
  refine z_iast B h_8 (Nat.le_trans hna (Nat.le_add_right y 23)) (vin rfl) dX12_remember_95 (fun Φ6 hΦ5 => ?_)
  have h_10 : Φ6 (y + 23) = some (ai_ G 96 (upd (upd (upd (upd (fun _ => 0) (0 : Int32).toNatClampNeg a) (1 : Int32).toNatClampNeg b) (2 : Int32).toNatClampNeg d) (3 : Int32).toNatClampNeg e)) := fset_at hΦ5
  refine z_aload_n B dX12_remember_96 rfl 1 rfl ?_
  have h_11 : Φ6 y = some (o_ 14 [.int 0, .ref (y + 1), .ref (y + 2), .int 0, .int 1, .int 1, .int 0, .int 0, .ref (y + 3), .ref (y + 4), .int 0, .long 0, .ref (y + 5), .int 0, .int 0, .long ob, .long 0, .long 0, .long 0, .ref (y + 6), .ref (y + 7), .int 0, .ref (y + 8), .int 0, .ref (y + 9), .ref (y + 10), .int 0, .ref (y + 11), .ref (y + 12), .ref (y + 13), .ref (y + 14), .ref (y + 15), .ref (y + 16), .int 0, .long (-1), .ref (y + 17), .ref (y + 18), .ref (y + 19), .ref (y + 20), .ref (y + 21), .ref (y + 22), .int 0, .ref (y + 23), .ref (y + 24), .int 1, .ref (y + 25), .int 0, .int 0, .int 0, .int (-1), .int 0, .int 0, .int 0, .long 0]) := ((fset_fr hΦ5 (ne_off (x := y) (i := 0) (j := 23) rfl)).trans h_9)
  refine z_get (ref := "FlowExporterModel") (C := RX12) (T := TX12) (N := 54) (ci := 14) (v := .ref (y + 24)) B (by decide +kernel) rfl 43 (by decide) (by decide +kernel) rfl h_11 rfl dX12_remember_97 ?_
  refine z_iconst (v := 2) B dX12_remember_100 rfl ?_
  refine z_iload B dX12_remember_101 0 rfl ?_
  refine z_imul B dX12_remember_103 ?_
  refine z_top (st1 := [.int 0, .ref (y + 24)]) (congrArg (fun w9 : Int32 => ([.int w9, .ref (y + 24)] : List Value)) (show (2 * 0 : Int32) = 0 by decide +kernel)) ?_
  refine z_lconst (v := 0) B dX12_remember_104 rfl ?_
  have h_12 : Φ6 (y + 24) = some (al_ G 48 (fun _ => 0)) := ((fset_fr hΦ5 (ne_off (x := y) (i := 24) (j := 23) rfl)).trans ((fset_fr hΦ4 (ne_off (x := y) (i := 24) (j := 23) rfl)).trans ((fset_fr hΦ3 (ne_off (x := y) (i := 24) (j := 23) rfl)).trans ((fset_fr hΦ2 (ne_off (x := y) (i := 24) (j := 23) rfl)).trans ((fset_fr hΦ1 (ne_off (x := y) (i := 24) (j := 0) rfl)).trans ((fr1 (y + 24)).trans hc24_))))))
  refine z_last B h_12 (Nat.le_trans hna (Nat.le_add_right y 24)) (vin rfl) dX12_remember_105 (fun Φ7 hΦ6 => ?_)
  have h_13 : Φ7 (y + 24) = some (al_ G 48 (vp_updL (fun _ => 0) (0 : Int32).toNatClampNeg 0)) := fset_at hΦ6
  refine z_aload_n B dX12_remember_106 rfl 1 rfl ?_
  have h_14 : Φ7 y = some (o_ 14 [.int 0, .ref (y + 1), .ref (y + 2), .int 0, .int 1, .int 1, .int 0, .int 0, .ref (y + 3), .ref (y + 4), .int 0, .long 0, .ref (y + 5), .int 0, .int 0, .long ob, .long 0, .long 0, .long 0, .ref (y + 6), .ref (y + 7), .int 0, .ref (y + 8), .int 0, .ref (y + 9), .ref (y + 10), .int 0, .ref (y + 11), .ref (y + 12), .ref (y + 13), .ref (y + 14), .ref (y + 15), .ref (y + 16), .int 0, .long (-1), .ref (y + 17), .ref (y + 18), .ref (y + 19), .ref (y + 20), .ref (y + 21), .ref (y + 22), .int 0, .ref (y + 23), .ref (y + 24), .int 1, .ref (y + 25), .int 0, .int 0, .int 0, .int (-1), .int 0, .int 0, .int 0, .long 0]) := ((fset_fr hΦ6 (ne_off (x := y) (i := 0) (j := 24) rfl)).trans h_11)
  refine z_get (ref := "FlowExporterModel") (C := RX12) (T := TX12) (N := 54) (ci := 14) (v := .ref (y + 24)) B (by decide +kernel) rfl 43 (by decide) (by decide +kernel) rfl h_14 rfl dX12_remember_107 ?_
  refine z_iconst (v := 2) B dX12_remember_110 rfl ?_
  refine z_iload B dX12_remember_111 0 rfl ?_
  refine z_imul B dX12_remember_113 ?_
  refine z_top (st1 := [.int 0, .ref (y + 24)]) (congrArg (fun w9 : Int32 => ([.int w9, .ref (y + 24)] : List Value)) (show (2 * 0 : Int32) = 0 by decide +kernel)) ?_
  refine z_iconst (v := 1) B dX12_remember_114 rfl ?_
  refine z_iadd B dX12_remember_115 ?_
  refine z_top (st1 := [.int 1, .ref (y + 24)]) (congrArg (fun w9 : Int32 => ([.int w9, .ref (y + 24)] : List Value)) (show (0 + 1 : Int32) = 1 by decide +kernel)) ?_
  refine z_lconst (v := 0) B dX12_remember_116 rfl ?_
  refine z_last B h_13 (Nat.le_trans hna (Nat.le_add_right y 24)) (vin rfl) dX12_remember_117 (fun Φ8 hΦ7 => ?_)
  have h_15 : Φ8 (y + 24) = some (al_ G 48 (vp_updL (vp_updL (fun _ => 0) (0 : Int32).toNatClampNeg 0) (1 : Int32).toNatClampNeg 0)) := fset_at hΦ7
  refine z_aload_n B dX12_remember_118 rfl 1 rfl ?_
  have h_16 : Φ8 y = some (o_ 14 [.int 0, .ref (y + 1), .ref (y + 2), .int 0, .int 1, .int 1, .int 0, .int 0, .ref (y + 3), .ref (y + 4), .int 0, .long 0, .ref (y + 5), .int 0, .int 0, .long ob, .long 0, .long 0, .long 0, .ref (y + 6), .ref (y + 7), .int 0, .ref (y + 8), .int 0, .ref (y + 9), .ref (y + 10), .int 0, .ref (y + 11), .ref (y + 12), .ref (y + 13), .ref (y + 14), .ref (y + 15), .ref (y + 16), .int 0, .long (-1), .ref (y + 17), .ref (y + 18), .ref (y + 19), .ref (y + 20), .ref (y + 21), .ref (y + 22), .int 0, .ref (y + 23), .ref (y + 24), .int 1, .ref (y + 25), .int 0, .int 0, .int 0, .int (-1), .int 0, .int 0, .int 0, .long 0]) := ((fset_fr hΦ7 (ne_off (x := y) (i := 0) (j := 24) rfl)).trans h_14)
  refine z_get (ref := "FlowExporterModel") (C := RX12) (T := TX12) (N := 54) (ci := 14) (v := .ref (y + 24)) B (by decide +kernel) rfl 43 (by decide) (by decide +kernel) rfl h_16 rfl dX12_remember_119 ?_
  refine z_iconst (v := 2) B dX12_remember_122 rfl ?_
  refine z_iload B dX12_remember_123 0 rfl ?_
  refine z_imul B dX12_remember_125 ?_
  refine z_top (st1 := [.int 0, .ref (y + 24)]) (congrArg (fun w9 : Int32 => ([.int w9, .ref (y + 24)] : List Value)) (show (2 * 0 : Int32) = 0 by decide +kernel)) ?_
  refine z_dup2_11 B dX12_remember_126 rfl rfl ?_
  refine z_lald B h_15 (vin rfl) dX12_remember_127 ?_
  refine z_top (st1 := [.long 0, .int 0, .ref (y + 24)]) (by rfl) ?_
  refine z_lconst (v := 1) B dX12_remember_128 rfl ?_
  refine z_ladd B dX12_remember_129 ?_
  refine z_top (st1 := [.long 1, .int 0, .ref (y + 24)]) (congrArg (fun w9 : Int64 => ([.long w9, .int 0, .ref (y + 24)] : List Value)) (show (0 + 1 : Int64) = 1 by decide +kernel)) ?_
  refine z_last B h_15 (Nat.le_trans hna (Nat.le_add_right y 24)) (vin rfl) dX12_remember_130 (fun Φ9 hΦ8 => ?_)
  have h_17 : Φ9 (y + 24) = some (al_ G 48 (vp_updL (vp_updL (vp_updL (fun _ => 0) (0 : Int32).toNatClampNeg 0) (1 : Int32).toNatClampNeg 0) (0 : Int32).toNatClampNeg 1)) := fset_at hΦ8
  refine z_aload_n B dX12_remember_131 rfl 1 rfl ?_
  have h_18 : Φ9 y = some (o_ 14 [.int 0, .ref (y + 1), .ref (y + 2), .int 0, .int 1, .int 1, .int 0, .int 0, .ref (y + 3), .ref (y + 4), .int 0, .long 0, .ref (y + 5), .int 0, .int 0, .long ob, .long 0, .long 0, .long 0, .ref (y + 6), .ref (y + 7), .int 0, .ref (y + 8), .int 0, .ref (y + 9), .ref (y + 10), .int 0, .ref (y + 11), .ref (y + 12), .ref (y + 13), .ref (y + 14), .ref (y + 15), .ref (y + 16), .int 0, .long (-1), .ref (y + 17), .ref (y + 18), .ref (y + 19), .ref (y + 20), .ref (y + 21), .ref (y + 22), .int 0, .ref (y + 23), .ref (y + 24), .int 1, .ref (y + 25), .int 0, .int 0, .int 0, .int (-1), .int 0, .int 0, .int 0, .long 0]) := ((fset_fr hΦ8 (ne_off (x := y) (i := 0) (j := 24) rfl)).trans h_16)
  refine z_get (ref := "FlowExporterModel") (C := RX12) (T := TX12) (N := 54) (ci := 14) (v := .ref (y + 24)) B (by decide +kernel) rfl 43 (by decide) (by decide +kernel) rfl h_18 rfl dX12_remember_132 ?_
  refine z_iconst (v := 2) B dX12_remember_135 rfl ?_
  refine z_iload B dX12_remember_136 0 rfl ?_
  refine z_imul B dX12_remember_138 ?_
  refine z_top (st1 := [.int 0, .ref (y + 24)]) (congrArg (fun w9 : Int32 => ([.int w9, .ref (y + 24)] : List Value)) (show (2 * 0 : Int32) = 0 by decide +kernel)) ?_
  refine z_iconst (v := 1) B dX12_remember_139 rfl ?_
  refine z_iadd B dX12_remember_140 ?_
  refine z_top (st1 := [.int 1, .ref (y + 24)]) (congrArg (fun w9 : Int32 => ([.int w9, .ref (y + 24)] : List Value)) (show (0 + 1 : Int32) = 1 by decide +kernel)) ?_
  refine z_dup2_11 B dX12_remember_141 rfl rfl ?_
  refine z_lald B h_17 (vin rfl) dX12_remember_142 ?_
  refine z_top (st1 := [.long 0, .int 1, .ref (y + 24)]) (by rfl) ?_
  refine z_iload B dX12_remember_143 6 rfl ?_
  refine z_i2l (v := f.toInt64) B dX12_remember_145 rfl ?_
  refine z_ladd B dX12_remember_146 ?_
  refine z_last B h_17 (Nat.le_trans hna (Nat.le_add_right y 24)) (vin rfl) dX12_remember_147 (fun Φ10 hΦ9 => ?_)
  have h_19 : Φ10 (y + 24) = some (al_ G 48 (vp_updL (vp_updL (vp_updL (vp_updL (fun _ => 0) (0 : Int32).toNatClampNeg 0) (1 : Int32).toNatClampNeg 0) (0 : Int32).toNatClampNeg 1) (1 : Int32).toNatClampNeg (0 + f.toInt64))) := fset_at hΦ9
  have h_20 : Φ10 y = some (o_ 14 [.int 0, .ref (y + 1), .ref (y + 2), .int 0, .int 1, .int 1, .int 0, .int 0, .ref (y + 3), .ref (y + 4), .int 0, .long 0, .ref (y + 5), .int 0, .int 0, .long ob, .long 0, .long 0, .long 0, .ref (y + 6), .ref (y + 7), .int 0, .ref (y + 8), .int 0, .ref (y + 9), .ref (y + 10), .int 0, .ref (y + 11), .ref (y + 12), .ref (y + 13), .ref (y + 14), .ref (y + 15), .ref (y + 16), .int 0, .long (-1), .ref (y + 17), .ref (y + 18), .ref (y + 19), .ref (y + 20), .ref (y + 21), .ref (y + 22), .int 0, .ref (y + 23), .ref (y + 24), .int 1, .ref (y + 25), .int 0, .int 0, .int 0, .int (-1), .int 0, .int 0, .int 0, .long 0]) := ((fset_fr hΦ9 (ne_off (x := y) (i := 0) (j := 24) rfl)).trans h_18)
  have h_21 : Φ10 (y + 23) = some (ai_ G 96 (upd (upd (upd (upd (fun _ => 0) (0 : Int32).toNatClampNeg a) (1 : Int32).toNatClampNeg b) (2 : Int32).toNatClampNeg d) (3 : Int32).toNatClampNeg e)) := ((fset_fr hΦ9 (ne_off (x := y) (i := 23) (j := 24) rfl)).trans ((fset_fr hΦ8 (ne_off (x := y) (i := 23) (j := 24) rfl)).trans ((fset_fr hΦ7 (ne_off (x := y) (i := 23) (j := 24) rfl)).trans ((fset_fr hΦ6 (ne_off (x := y) (i := 23) (j := 24) rfl)).trans h_10))))
  exact z_ret_v B dX12_remember_148 ⟨rfl, rfl, (fun b9 h9a h9b h9c => ((fset_fr hΦ9 h9c).trans ((fset_fr hΦ8 h9c).trans ((fset_fr hΦ7 h9c).trans ((fset_fr hΦ6 h9c).trans ((fset_fr hΦ5 h9b).trans ((fset_fr hΦ4 h9b).trans ((fset_fr hΦ3 h9b).trans ((fset_fr hΦ2 h9b).trans ((fset_fr hΦ1 h9a).trans ((fr1 b9).trans rfl))))))))))), h_20, h_21, h_19⟩

set_option maxHeartbeats 4000000 in
set_option maxRecDepth 100000 in
theorem m_flowOf_p (G : EnvG) (l : Launch) (Φ : Hm) (sz : Nat) (y : Nat) (ob : Int64) (sp : Int64) (a : Int32) (b : Int32) (d : Int32) (e : Int32) (hc0_ : Φ y = some (o_ 14 [.int 0, .ref (y + 1), .ref (y + 2), .int 0, .int 1, .int 1, .int 0, .int 0, .ref (y + 3), .ref (y + 4), .int 0, .long 0, .ref (y + 5), .int 0, .int 0, .long ob, .long sp, .long 0, .long 0, .ref (y + 6), .ref (y + 7), .int 0, .ref (y + 8), .int 0, .ref (y + 9), .ref (y + 10), .int 0, .ref (y + 11), .ref (y + 12), .ref (y + 13), .ref (y + 14), .ref (y + 15), .ref (y + 16), .int 0, .long (-1), .ref (y + 17), .ref (y + 18), .ref (y + 19), .ref (y + 20), .ref (y + 21), .ref (y + 22), .int 0, .ref (y + 23), .ref (y + 24), .int 1, .ref (y + 25), .int 0, .int 0, .int 0, .int (-1), .int 0, .int 0, .int 0, .long 0])) : Ct G l yX12_flowOf wsX12_flowOf ({ frames := 0, cells := 0, slots := 0, locals := 0 }) 0 0 [.ref y, .int a, .int b, .int d, .int e] Φ sz (fun v Φ1 sz1 => v = some (.int (-1)) ∧ sz1 = sz ∧ (∀ b9 : Nat, Φ1 b9 = Φ b9)) := by
  refine Ct.of (cc := cX12_flowOf) (maxL := 6) (ret := (some .int)) (by decide) rfl (Nat.le_of_ble_eq_true rfl) ?_
  intro p9 e9 s9 m9 w9 t9 k9 B
  show Z p9 l e9 _ s9 m9 _ w9 t9 k9 _ G 6 0 [(0, .ref y), (1, .int a), (2, .int b), (3, .int d), (4, .int e)] [] Φ sz 0 0
  refine z_iconst (v := 0) B dX12_flowOf_0 rfl ?_
  refine z_istore (lv' := [(5, .int 0), (0, .ref y), (1, .int a), (2, .int b), (3, .int d), (4, .int e)]) B dX12_flowOf_1 (Nat.le_of_ble_eq_true rfl) rfl ?_
  refine z_iload B dX12_flowOf_3 0 rfl ?_
  refine z_aload_n B dX12_flowOf_5 rfl 1 rfl ?_
  refine z_get (ref := "FlowExporterModel") (C := RX12) (T := TX12) (N := 54) (ci := 14) (v := .int 0) B (by decide +kernel) rfl 13 (by decide) (by decide +kernel) rfl hc0_ rfl dX12_flowOf_6 ?_
  refine z_icmp_ge (tgt := 92) B dX12_flowOf_9 rfl (fun c_1 => ?_) (fun h9 => absurd (by decide) h9)
  refine z_iconst (v := (-1)) B dX12_flowOf_92 rfl ?_
  exact z_ret_i B dX12_flowOf_93 ⟨rfl, rfl, (fun b9 => rfl)⟩

set_option maxHeartbeats 4000000 in
set_option maxRecDepth 100000 in
theorem m_makeRoom_p (G : EnvG) (l : Launch) (Φ : Hm) (sz : Nat) (y : Nat) (ob : Int64) (sp : Int64) (hc0_ : Φ y = some (o_ 14 [.int 0, .ref (y + 1), .ref (y + 2), .int 0, .int 1, .int 1, .int 0, .int 0, .ref (y + 3), .ref (y + 4), .int 0, .long 0, .ref (y + 5), .int 0, .int 0, .long ob, .long sp, .long 0, .long 0, .ref (y + 6), .ref (y + 7), .int 0, .ref (y + 8), .int 0, .ref (y + 9), .ref (y + 10), .int 0, .ref (y + 11), .ref (y + 12), .ref (y + 13), .ref (y + 14), .ref (y + 15), .ref (y + 16), .int 0, .long (-1), .ref (y + 17), .ref (y + 18), .ref (y + 19), .ref (y + 20), .ref (y + 21), .ref (y + 22), .int 0, .ref (y + 23), .ref (y + 24), .int 1, .ref (y + 25), .int 0, .int 0, .int 0, .int (-1), .int 0, .int 0, .int 0, .long 0])) : Ct G l yX12_makeRoom wsX12_makeRoom ({ frames := 0, cells := 0, slots := 0, locals := 0 }) 0 0 [.ref y] Φ sz (fun v Φ1 sz1 => v = none ∧ sz1 = sz ∧ (∀ b9 : Nat, Φ1 b9 = Φ b9)) := by
  refine Ct.of (cc := cX12_makeRoom) (maxL := 3) (ret := none) (by decide) rfl (Nat.le_of_ble_eq_true rfl) ?_
  intro p9 e9 s9 m9 w9 t9 k9 B
  show Z p9 l e9 _ s9 m9 _ w9 t9 k9 _ G 3 0 [(0, .ref y)] [] Φ sz 0 0
  refine z_aload_n B dX12_makeRoom_0 rfl 0 rfl ?_
  refine z_get (ref := "FlowExporterModel") (C := RX12) (T := TX12) (N := 54) (ci := 14) (v := .int 0) B (by decide +kernel) rfl 13 (by decide) (by decide +kernel) rfl hc0_ rfl dX12_makeRoom_1 ?_
  refine z_bipush (v := 12) B dX12_makeRoom_4 rfl ?_
  refine z_icmp_ge (tgt := 10) B dX12_makeRoom_6 rfl (fun h9 => absurd h9 (by decide)) (fun c_1 => ?_)
  exact z_ret_v B dX12_makeRoom_9 ⟨rfl, rfl, (fun b9 => rfl)⟩

set_option maxHeartbeats 4000000 in
set_option maxRecDepth 100000 in
theorem m_see_1 (G : EnvG) (l : Launch) (Φ : Hm) (sz : Nat) (y : Nat) (a : Int32) (b : Int32) (d : Int32) (e : Int32) (f : Int32) (hc0_ : Φ y = some (o_ 14 [.int 0, .ref (y + 1), .ref (y + 2), .int 0, .int 1, .int 1, .int 0, .int 0, .ref (y + 3), .ref (y + 4), .int 0, .long 0, .ref (y + 5), .int 0, .int 0, .long 0, .long 0, .long 0, .long 0, .ref (y + 6), .ref (y + 7), .int 0, .ref (y + 8), .int 0, .ref (y + 9), .ref (y + 10), .int 0, .ref (y + 11), .ref (y + 12), .ref (y + 13), .ref (y + 14), .ref (y + 15), .ref (y + 16), .int 0, .long (-1), .ref (y + 17), .ref (y + 18), .ref (y + 19), .ref (y + 20), .ref (y + 21), .ref (y + 22), .int 0, .ref (y + 23), .ref (y + 24), .int 0, .ref (y + 25), .int 0, .int 0, .int 0, .int (-1), .int 0, .int 0, .int 0, .long 0])) (hc5_ : Φ (y + 5) = some (al_ G 96 (fun _ => 0))) (hc23_ : Φ (y + 23) = some (ai_ G 96 (fun _ => 0))) (hc24_ : Φ (y + 24) = some (al_ G 48 (fun _ => 0))) (hna : G.2.2.2 ≤ y) : Ct G l yX12_see wsX12_see ({ frames := 2, cells := 0, slots := 0, locals := 51 }) 0 0 [.ref y, .int a, .int b, .int d, .int e, .int f] Φ sz (fun v Φ1 sz1 => v = some (.int 1) ∧ sz1 = sz ∧ (∀ b9 : Nat, b9 ≠ y → b9 ≠ y + 23 → b9 ≠ y + 24 → b9 ≠ y + 5 → Φ1 b9 = Φ b9) ∧ Φ1 y = some (o_ 14 [.int 0, .ref (y + 1), .ref (y + 2), .int 0, .int 1, .int 1, .int 0, .int 0, .ref (y + 3), .ref (y + 4), .int 0, .long 0, .ref (y + 5), .int 1, .int 0, .long 1, .long 1, .long 0, .long 0, .ref (y + 6), .ref (y + 7), .int 0, .ref (y + 8), .int 0, .ref (y + 9), .ref (y + 10), .int 0, .ref (y + 11), .ref (y + 12), .ref (y + 13), .ref (y + 14), .ref (y + 15), .ref (y + 16), .int 0, .long (-1), .ref (y + 17), .ref (y + 18), .ref (y + 19), .ref (y + 20), .ref (y + 21), .ref (y + 22), .int 0, .ref (y + 23), .ref (y + 24), .int 1, .ref (y + 25), .int 0, .int 0, .int 0, .int (-1), .int 0, .int 0, .int 0, .long 0]) ∧ Φ1 (y + 23) = some (ai_ G 96 (upd (upd (upd (upd (fun _ => 0) (0 : Int32).toNatClampNeg a) (1 : Int32).toNatClampNeg b) (2 : Int32).toNatClampNeg d) (3 : Int32).toNatClampNeg e)) ∧ Φ1 (y + 24) = some (al_ G 48 (vp_updL (vp_updL (vp_updL (vp_updL (fun _ => 0) (0 : Int32).toNatClampNeg 0) (1 : Int32).toNatClampNeg 0) (0 : Int32).toNatClampNeg 1) (1 : Int32).toNatClampNeg (0 + f.toInt64))) ∧ Φ1 (y + 5) = some (al_ G 96 (vp_updL (vp_updL (vp_updL (vp_updL (vp_updL (vp_updL (vp_updL (vp_updL (vp_updL (vp_updL (fun _ => 0) (0 : Int32).toNatClampNeg a.toInt64) (1 : Int32).toNatClampNeg b.toInt64) (2 : Int32).toNatClampNeg d.toInt64) (3 : Int32).toNatClampNeg e.toInt64) (4 : Int32).toNatClampNeg 0) (5 : Int32).toNatClampNeg 0) (6 : Int32).toNatClampNeg 0) (4 : Int32).toNatClampNeg 1) (5 : Int32).toNatClampNeg (0 + f.toInt64)) (7 : Int32).toNatClampNeg 0))) := by
  refine Ct.of (cc := cX12_see) (maxL := 8) (ret := (some .boolean)) (by decide) rfl (Nat.le_of_ble_eq_true rfl) ?_
  intro p9 e9 s9 m9 w9 t9 k9 B
  show Z p9 l e9 _ s9 m9 _ w9 t9 k9 _ G 8 0 [(0, .ref y), (1, .int a), (2, .int b), (3, .int d), (4, .int e), (5, .int f)] [] Φ sz 0 0
  refine z_aload_n B dX12_see_0 rfl 0 rfl ?_
  refine z_dup B dX12_see_1 rfl ?_
  refine z_get (ref := "FlowExporterModel") (C := RX12) (T := TX12) (N := 54) (ci := 14) (v := .long 0) B (by decide +kernel) rfl 15 (by decide) (by decide +kernel) rfl hc0_ rfl dX12_see_2 ?_
  refine z_lconst (v := 1) B dX12_see_5 rfl ?_
  refine z_ladd B dX12_see_6 ?_
  refine z_top (st1 := [.long 1, .ref y]) (congrArg (fun w9 : Int64 => ([.long w9, .ref y] : List Value)) (show (0 + 1 : Int64) = 1 by decide +kernel)) ?_
  refine z_put (ref := "FlowExporterModel") (C := RX12) (T := TX12) (N := 54) (ci := 14) (v := .long 1) B (by decide +kernel) tyX12 tyX12_ok nmX12 rfl 15 (by decide) (by decide +kernel) rfl (Or.inl rfl) hc0_ hna rfl rfl (Nat.le_of_ble_eq_true rfl) dX12_see_7 (fun Φ1 hΦ1 => ?_)
  have h_1 : Φ1 y = some (o_ 14 [.int 0, .ref (y + 1), .ref (y + 2), .int 0, .int 1, .int 1, .int 0, .int 0, .ref (y + 3), .ref (y + 4), .int 0, .long 0, .ref (y + 5), .int 0, .int 0, .long 1, .long 0, .long 0, .long 0, .ref (y + 6), .ref (y + 7), .int 0, .ref (y + 8), .int 0, .ref (y + 9), .ref (y + 10), .int 0, .ref (y + 11), .ref (y + 12), .ref (y + 13), .ref (y + 14), .ref (y + 15), .ref (y + 16), .int 0, .long (-1), .ref (y + 17), .ref (y + 18), .ref (y + 19), .ref (y + 20), .ref (y + 21), .ref (y + 22), .int 0, .ref (y + 23), .ref (y + 24), .int 0, .ref (y + 25), .int 0, .int 0, .int 0, .int (-1), .int 0, .int 0, .int 0, .long 0]) := fset_at hΦ1
  refine z_aload_n B dX12_see_10 rfl 0 rfl ?_
  refine z_iload_n B dX12_see_11 rfl 1 rfl ?_
  refine z_iload_n B dX12_see_12 rfl 2 rfl ?_
  refine z_iload_n B dX12_see_13 rfl 3 rfl ?_
  refine z_iload B dX12_see_14 4 rfl ?_
  refine z_iload B dX12_see_16 5 rfl ?_
  have h_2 : Φ1 (y + 23) = some (ai_ G 96 (fun _ => 0)) := ((fset_fr hΦ1 (ne_off (x := y) (i := 23) (j := 0) rfl)).trans hc23_)
  have h_3 : Φ1 (y + 24) = some (al_ G 48 (fun _ => 0)) := ((fset_fr hΦ1 (ne_off (x := y) (i := 24) (j := 0) rfl)).trans hc24_)
  refine z_callV (As := [.int a, .int b, .int d, .int e, .int f]) (rest := []) B (m_remember_o G l Φ1 sz y 1 a b d e f h_1 h_2 h_3 hna) (cwV 5 B.1.2.2.2.2 gX12_see_X12_remember rfl rfl rfl (by decide +kernel) ⟨Nat.le_of_ble_eq_true rfl, Nat.le_of_ble_eq_true rfl⟩) h_1 rfl rfl rfl rfl (Nat.le_of_ble_eq_true rfl) dX12_see_18 ⟨Nat.le_of_ble_eq_true rfl, Nat.le_of_ble_eq_true rfl⟩ (fun v1 Φ2 sz1 st1 hp1 hs1 => ?_)
  obtain ⟨rfl, hq1, fr1, h_4, h_5, h_6⟩ := hp1
  replace hq1 : sz1 = sz := hq1
  subst sz1
  replace hs1 : st1 = [] := hs1
  subst st1
  have h_7 : Φ2 y = some (o_ 14 [.int 0, .ref (y + 1), .ref (y + 2), .int 0, .int 1, .int 1, .int 0, .int 0, .ref (y + 3), .ref (y + 4), .int 0, .long 0, .ref (y + 5), .int 0, .int 0, .long 1, .long 0, .long 0, .long 0, .ref (y + 6), .ref (y + 7), .int 0, .ref (y + 8), .int 0, .ref (y + 9), .ref (y + 10), .int 0, .ref (y + 11), .ref (y + 12), .ref (y + 13), .ref (y + 14), .ref (y + 15), .ref (y + 16), .int 0, .long (-1), .ref (y + 17), .ref (y + 18), .ref (y + 19), .ref (y + 20), .ref (y + 21), .ref (y + 22), .int 0, .ref (y + 23), .ref (y + 24), .int 1, .ref (y + 25), .int 0, .int 0, .int 0, .int (-1), .int 0, .int 0, .int 0, .long 0]) := h_4
  have h_8 : Φ2 (y + 23) = some (ai_ G 96 (upd (upd (upd (upd (fun _ => 0) (0 : Int32).toNatClampNeg a) (1 : Int32).toNatClampNeg b) (2 : Int32).toNatClampNeg d) (3 : Int32).toNatClampNeg e)) := h_5
  have h_9 : Φ2 (y + 24) = some (al_ G 48 (vp_updL (vp_updL (vp_updL (vp_updL (fun _ => 0) (0 : Int32).toNatClampNeg 0) (1 : Int32).toNatClampNeg 0) (0 : Int32).toNatClampNeg 1) (1 : Int32).toNatClampNeg (0 + f.toInt64))) := h_6
  refine z_aload_n B dX12_see_21 rfl 0 rfl ?_
  refine z_get (ref := "FlowExporterModel") (C := RX12) (T := TX12) (N := 54) (ci := 14) (v := .int 1) B (by decide +kernel) rfl 5 (by decide) (by decide +kernel) rfl h_7 rfl dX12_see_22 ?_
  refine z_iconst (v := 1) B dX12_see_25 rfl ?_
  refine z_icmp_le (tgt := 42) B dX12_see_26 rfl (fun c_1 => ?_) (fun h9 => absurd (by decide) h9)
  refine z_aload_n B dX12_see_42 rfl 0 rfl ?_
  refine z_dup B dX12_see_43 rfl ?_
  refine z_get (ref := "FlowExporterModel") (C := RX12) (T := TX12) (N := 54) (ci := 14) (v := .long 0) B (by decide +kernel) rfl 16 (by decide) (by decide +kernel) rfl h_7 rfl dX12_see_44 ?_
  refine z_lconst (v := 1) B dX12_see_47 rfl ?_
  refine z_ladd B dX12_see_48 ?_
  refine z_top (st1 := [.long 1, .ref y]) (congrArg (fun w9 : Int64 => ([.long w9, .ref y] : List Value)) (show (0 + 1 : Int64) = 1 by decide +kernel)) ?_
  refine z_put (ref := "FlowExporterModel") (C := RX12) (T := TX12) (N := 54) (ci := 14) (v := .long 1) B (by decide +kernel) tyX12 tyX12_ok nmX12 rfl 16 (by decide) (by decide +kernel) rfl (Or.inl rfl) h_7 hna rfl rfl (Nat.le_of_ble_eq_true rfl) dX12_see_49 (fun Φ3 hΦ2 => ?_)
  have h_10 : Φ3 y = some (o_ 14 [.int 0, .ref (y + 1), .ref (y + 2), .int 0, .int 1, .int 1, .int 0, .int 0, .ref (y + 3), .ref (y + 4), .int 0, .long 0, .ref (y + 5), .int 0, .int 0, .long 1, .long 1, .long 0, .long 0, .ref (y + 6), .ref (y + 7), .int 0, .ref (y + 8), .int 0, .ref (y + 9), .ref (y + 10), .int 0, .ref (y + 11), .ref (y + 12), .ref (y + 13), .ref (y + 14), .ref (y + 15), .ref (y + 16), .int 0, .long (-1), .ref (y + 17), .ref (y + 18), .ref (y + 19), .ref (y + 20), .ref (y + 21), .ref (y + 22), .int 0, .ref (y + 23), .ref (y + 24), .int 1, .ref (y + 25), .int 0, .int 0, .int 0, .int (-1), .int 0, .int 0, .int 0, .long 0]) := fset_at hΦ2
  refine z_aload_n B dX12_see_52 rfl 0 rfl ?_
  refine z_iload_n B dX12_see_53 rfl 1 rfl ?_
  refine z_iload_n B dX12_see_54 rfl 2 rfl ?_
  refine z_iload_n B dX12_see_55 rfl 3 rfl ?_
  refine z_iload B dX12_see_56 4 rfl ?_
  refine z_callV (As := [.int a, .int b, .int d, .int e]) (rest := []) B (m_flowOf_p G l Φ3 sz y 1 1 a b d e h_10) (cwV 4 B.1.2.2.2.2 gX12_see_X12_flowOf rfl rfl rfl (by decide +kernel) ⟨Nat.le_of_ble_eq_true rfl, Nat.le_of_ble_eq_true rfl⟩) h_10 rfl rfl rfl rfl (Nat.le_of_ble_eq_true rfl) dX12_see_58 ⟨Nat.le_of_ble_eq_true rfl, Nat.le_of_ble_eq_true rfl⟩ (fun v2 Φ4 sz2 st2 hp2 hs2 => ?_)
  obtain ⟨rfl, hq2, fr2⟩ := hp2
  replace hq2 : sz2 = sz := hq2
  subst sz2
  replace hs2 : st2 = [.int (-1)] := hs2
  subst st2
  refine z_istore (lv' := [(6, .int (-1)), (0, .ref y), (1, .int a), (2, .int b), (3, .int d), (4, .int e), (5, .int f)]) B dX12_see_61 (Nat.le_of_ble_eq_true rfl) rfl ?_
  refine z_iload B dX12_see_63 0 rfl ?_
  refine z_iconst (v := (-1)) B dX12_see_65 rfl ?_
  refine z_icmp_ne (tgt := 174) B dX12_see_66 rfl (fun h9 => absurd (by decide) h9) (fun c_2 => ?_)
  refine z_aload_n B dX12_see_69 rfl 1 rfl ?_
  have h_11 : Φ4 y = some (o_ 14 [.int 0, .ref (y + 1), .ref (y + 2), .int 0, .int 1, .int 1, .int 0, .int 0, .ref (y + 3), .ref (y + 4), .int 0, .long 0, .ref (y + 5), .int 0, .int 0, .long 1, .long 1, .long 0, .long 0, .ref (y + 6), .ref (y + 7), .int 0, .ref (y + 8), .int 0, .ref (y + 9), .ref (y + 10), .int 0, .ref (y + 11), .ref (y + 12), .ref (y + 13), .ref (y + 14), .ref (y + 15), .ref (y + 16), .int 0, .long (-1), .ref (y + 17), .ref (y + 18), .ref (y + 19), .ref (y + 20), .ref (y + 21), .ref (y + 22), .int 0, .ref (y + 23), .ref (y + 24), .int 1, .ref (y + 25), .int 0, .int 0, .int 0, .int (-1), .int 0, .int 0, .int 0, .long 0]) := ((fr2 y).trans h_10)
  refine z_callV (As := []) (rest := []) B (m_makeRoom_p G l Φ4 sz y 1 1 h_11) (cwV 0 B.1.2.2.2.2 gX12_see_X12_makeRoom rfl rfl rfl (by decide +kernel) ⟨Nat.le_of_ble_eq_true rfl, Nat.le_of_ble_eq_true rfl⟩) h_11 rfl rfl rfl rfl (Nat.le_of_ble_eq_true rfl) dX12_see_70 ⟨Nat.le_of_ble_eq_true rfl, Nat.le_of_ble_eq_true rfl⟩ (fun v3 Φ5 sz3 st3 hp3 hs3 => ?_)
  obtain ⟨rfl, hq3, fr3⟩ := hp3
  replace hq3 : sz3 = sz := hq3
  subst sz3
  replace hs3 : st3 = [] := hs3
  subst st3
  refine z_aload_n B dX12_see_73 rfl 1 rfl ?_
  have h_12 : Φ5 y = some (o_ 14 [.int 0, .ref (y + 1), .ref (y + 2), .int 0, .int 1, .int 1, .int 0, .int 0, .ref (y + 3), .ref (y + 4), .int 0, .long 0, .ref (y + 5), .int 0, .int 0, .long 1, .long 1, .long 0, .long 0, .ref (y + 6), .ref (y + 7), .int 0, .ref (y + 8), .int 0, .ref (y + 9), .ref (y + 10), .int 0, .ref (y + 11), .ref (y + 12), .ref (y + 13), .ref (y + 14), .ref (y + 15), .ref (y + 16), .int 0, .long (-1), .ref (y + 17), .ref (y + 18), .ref (y + 19), .ref (y + 20), .ref (y + 21), .ref (y + 22), .int 0, .ref (y + 23), .ref (y + 24), .int 1, .ref (y + 25), .int 0, .int 0, .int 0, .int (-1), .int 0, .int 0, .int 0, .long 0]) := ((fr3 y).trans h_11)
  refine z_get (ref := "FlowExporterModel") (C := RX12) (T := TX12) (N := 54) (ci := 14) (v := .int 0) B (by decide +kernel) rfl 13 (by decide) (by decide +kernel) rfl h_12 rfl dX12_see_74 ?_
  refine z_istore (lv' := [(6, .int 0), (0, .ref y), (1, .int a), (2, .int b), (3, .int d), (4, .int e), (5, .int f)]) B dX12_see_77 (Nat.le_of_ble_eq_true rfl) rfl ?_
  refine z_aload_n B dX12_see_79 rfl 1 rfl ?_
  refine z_dup B dX12_see_80 rfl ?_
  refine z_get (ref := "FlowExporterModel") (C := RX12) (T := TX12) (N := 54) (ci := 14) (v := .int 0) B (by decide +kernel) rfl 13 (by decide) (by decide +kernel) rfl h_12 rfl dX12_see_81 ?_
  refine z_iconst (v := 1) B dX12_see_84 rfl ?_
  refine z_iadd B dX12_see_85 ?_
  refine z_top (st1 := [.int 1, .ref y]) (congrArg (fun w9 : Int32 => ([.int w9, .ref y] : List Value)) (show (0 + 1 : Int32) = 1 by decide +kernel)) ?_
  refine z_put (ref := "FlowExporterModel") (C := RX12) (T := TX12) (N := 54) (ci := 14) (v := .int 1) B (by decide +kernel) tyX12 tyX12_ok nmX12 rfl 13 (by decide) (by decide +kernel) rfl (Or.inl rfl) h_12 hna rfl rfl (Nat.le_of_ble_eq_true rfl) dX12_see_86 (fun Φ6 hΦ3 => ?_)
  have h_13 : Φ6 y = some (o_ 14 [.int 0, .ref (y + 1), .ref (y + 2), .int 0, .int 1, .int 1, .int 0, .int 0, .ref (y + 3), .ref (y + 4), .int 0, .long 0, .ref (y + 5), .int 1, .int 0, .long 1, .long 1, .long 0, .long 0, .ref (y + 6), .ref (y + 7), .int 0, .ref (y + 8), .int 0, .ref (y + 9), .ref (y + 10), .int 0, .ref (y + 11), .ref (y + 12), .ref (y + 13), .ref (y + 14), .ref (y + 15), .ref (y + 16), .int 0, .long (-1), .ref (y + 17), .ref (y + 18), .ref (y + 19), .ref (y + 20), .ref (y + 21), .ref (y + 22), .int 0, .ref (y + 23), .ref (y + 24), .int 1, .ref (y + 25), .int 0, .int 0, .int 0, .int (-1), .int 0, .int 0, .int 0, .long 0]) := fset_at hΦ3
  refine z_bipush (v := 8) B dX12_see_89 rfl ?_
  refine z_iload B dX12_see_91 0 rfl ?_
  refine z_imul B dX12_see_93 ?_
  refine z_top (st1 := [.int 0]) (congrArg (fun w9 : Int32 => ([.int w9] : List Value)) (show (8 * 0 : Int32) = 0 by decide +kernel)) ?_
  refine z_istore (lv' := [(7, .int 0), (6, .int 0), (0, .ref y), (1, .int a), (2, .int b), (3, .int d), (4, .int e), (5, .int f)]) B dX12_see_94 (Nat.le_of_ble_eq_true rfl) rfl ?_
  refine z_aload_n B dX12_see_96 rfl 2 rfl ?_
  refine z_get (ref := "FlowExporterModel") (C := RX12) (T := TX12) (N := 54) (ci := 14) (v := .ref (y + 5)) B (by decide +kernel) rfl 12 (by decide) (by decide +kernel) rfl h_13 rfl dX12_see_97 ?_
  refine z_iload B dX12_see_100 0 rfl ?_
  refine z_iload_n B dX12_see_102 rfl 3 rfl ?_
  refine z_i2l (v := a.toInt64) B dX12_see_103 rfl ?_
  have h_14 : Φ6 (y + 5) = some (al_ G 96 (fun _ => 0)) := ((fset_fr hΦ3 (ne_off (x := y) (i := 5) (j := 0) rfl)).trans ((fr3 (y + 5)).trans ((fr2 (y + 5)).trans ((fset_fr hΦ2 (ne_off (x := y) (i := 5) (j := 0) rfl)).trans ((fr1 (y + 5) (ne_off (x := y) (i := 5) (j := 0) rfl) (ne_off (x := y) (i := 5) (j := 23) rfl) (ne_off (x := y) (i := 5) (j := 24) rfl)).trans ((fset_fr hΦ1 (ne_off (x := y) (i := 5) (j := 0) rfl)).trans hc5_))))))
  refine z_last B h_14 (Nat.le_trans hna (Nat.le_add_right y 5)) (vin rfl) dX12_see_104 (fun Φ7 hΦ4 => ?_)
  have h_15 : Φ7 (y + 5) = some (al_ G 96 (vp_updL (fun _ => 0) (0 : Int32).toNatClampNeg a.toInt64)) := fset_at hΦ4
  refine z_aload_n B dX12_see_105 rfl 2 rfl ?_
  have h_16 : Φ7 y = some (o_ 14 [.int 0, .ref (y + 1), .ref (y + 2), .int 0, .int 1, .int 1, .int 0, .int 0, .ref (y + 3), .ref (y + 4), .int 0, .long 0, .ref (y + 5), .int 1, .int 0, .long 1, .long 1, .long 0, .long 0, .ref (y + 6), .ref (y + 7), .int 0, .ref (y + 8), .int 0, .ref (y + 9), .ref (y + 10), .int 0, .ref (y + 11), .ref (y + 12), .ref (y + 13), .ref (y + 14), .ref (y + 15), .ref (y + 16), .int 0, .long (-1), .ref (y + 17), .ref (y + 18), .ref (y + 19), .ref (y + 20), .ref (y + 21), .ref (y + 22), .int 0, .ref (y + 23), .ref (y + 24), .int 1, .ref (y + 25), .int 0, .int 0, .int 0, .int (-1), .int 0, .int 0, .int 0, .long 0]) := ((fset_fr hΦ4 (ne_off (x := y) (i := 0) (j := 5) rfl)).trans h_13)
  refine z_get (ref := "FlowExporterModel") (C := RX12) (T := TX12) (N := 54) (ci := 14) (v := .ref (y + 5)) B (by decide +kernel) rfl 12 (by decide) (by decide +kernel) rfl h_16 rfl dX12_see_106 ?_
  refine z_iload B dX12_see_109 0 rfl ?_
  refine z_iconst (v := 1) B dX12_see_111 rfl ?_
  refine z_iadd B dX12_see_112 ?_
  refine z_top (st1 := [.int 1, .ref (y + 5)]) (congrArg (fun w9 : Int32 => ([.int w9, .ref (y + 5)] : List Value)) (show (0 + 1 : Int32) = 1 by decide +kernel)) ?_
  refine z_iload_n B dX12_see_113 rfl 4 rfl ?_
  refine z_i2l (v := b.toInt64) B dX12_see_114 rfl ?_
  refine z_last B h_15 (Nat.le_trans hna (Nat.le_add_right y 5)) (vin rfl) dX12_see_115 (fun Φ8 hΦ5 => ?_)
  have h_17 : Φ8 (y + 5) = some (al_ G 96 (vp_updL (vp_updL (fun _ => 0) (0 : Int32).toNatClampNeg a.toInt64) (1 : Int32).toNatClampNeg b.toInt64)) := fset_at hΦ5
  refine z_aload_n B dX12_see_116 rfl 2 rfl ?_
  have h_18 : Φ8 y = some (o_ 14 [.int 0, .ref (y + 1), .ref (y + 2), .int 0, .int 1, .int 1, .int 0, .int 0, .ref (y + 3), .ref (y + 4), .int 0, .long 0, .ref (y + 5), .int 1, .int 0, .long 1, .long 1, .long 0, .long 0, .ref (y + 6), .ref (y + 7), .int 0, .ref (y + 8), .int 0, .ref (y + 9), .ref (y + 10), .int 0, .ref (y + 11), .ref (y + 12), .ref (y + 13), .ref (y + 14), .ref (y + 15), .ref (y + 16), .int 0, .long (-1), .ref (y + 17), .ref (y + 18), .ref (y + 19), .ref (y + 20), .ref (y + 21), .ref (y + 22), .int 0, .ref (y + 23), .ref (y + 24), .int 1, .ref (y + 25), .int 0, .int 0, .int 0, .int (-1), .int 0, .int 0, .int 0, .long 0]) := ((fset_fr hΦ5 (ne_off (x := y) (i := 0) (j := 5) rfl)).trans h_16)
  refine z_get (ref := "FlowExporterModel") (C := RX12) (T := TX12) (N := 54) (ci := 14) (v := .ref (y + 5)) B (by decide +kernel) rfl 12 (by decide) (by decide +kernel) rfl h_18 rfl dX12_see_117 ?_
  refine z_iload B dX12_see_120 0 rfl ?_
  refine z_iconst (v := 2) B dX12_see_122 rfl ?_
  refine z_iadd B dX12_see_123 ?_
  refine z_top (st1 := [.int 2, .ref (y + 5)]) (congrArg (fun w9 : Int32 => ([.int w9, .ref (y + 5)] : List Value)) (show (0 + 2 : Int32) = 2 by decide +kernel)) ?_
  refine z_iload_n B dX12_see_124 rfl 5 rfl ?_
  refine z_i2l (v := d.toInt64) B dX12_see_125 rfl ?_
  refine z_last B h_17 (Nat.le_trans hna (Nat.le_add_right y 5)) (vin rfl) dX12_see_126 (fun Φ9 hΦ6 => ?_)
  have h_19 : Φ9 (y + 5) = some (al_ G 96 (vp_updL (vp_updL (vp_updL (fun _ => 0) (0 : Int32).toNatClampNeg a.toInt64) (1 : Int32).toNatClampNeg b.toInt64) (2 : Int32).toNatClampNeg d.toInt64)) := fset_at hΦ6
  refine z_aload_n B dX12_see_127 rfl 2 rfl ?_
  have h_20 : Φ9 y = some (o_ 14 [.int 0, .ref (y + 1), .ref (y + 2), .int 0, .int 1, .int 1, .int 0, .int 0, .ref (y + 3), .ref (y + 4), .int 0, .long 0, .ref (y + 5), .int 1, .int 0, .long 1, .long 1, .long 0, .long 0, .ref (y + 6), .ref (y + 7), .int 0, .ref (y + 8), .int 0, .ref (y + 9), .ref (y + 10), .int 0, .ref (y + 11), .ref (y + 12), .ref (y + 13), .ref (y + 14), .ref (y + 15), .ref (y + 16), .int 0, .long (-1), .ref (y + 17), .ref (y + 18), .ref (y + 19), .ref (y + 20), .ref (y + 21), .ref (y + 22), .int 0, .ref (y + 23), .ref (y + 24), .int 1, .ref (y + 25), .int 0, .int 0, .int 0, .int (-1), .int 0, .int 0, .int 0, .long 0]) := ((fset_fr hΦ6 (ne_off (x := y) (i := 0) (j := 5) rfl)).trans h_18)
  refine z_get (ref := "FlowExporterModel") (C := RX12) (T := TX12) (N := 54) (ci := 14) (v := .ref (y + 5)) B (by decide +kernel) rfl 12 (by decide) (by decide +kernel) rfl h_20 rfl dX12_see_128 ?_
  refine z_iload B dX12_see_131 0 rfl ?_
  refine z_iconst (v := 3) B dX12_see_133 rfl ?_
  refine z_iadd B dX12_see_134 ?_
  refine z_top (st1 := [.int 3, .ref (y + 5)]) (congrArg (fun w9 : Int32 => ([.int w9, .ref (y + 5)] : List Value)) (show (0 + 3 : Int32) = 3 by decide +kernel)) ?_
  refine z_iload B dX12_see_135 6 rfl ?_
  refine z_i2l (v := e.toInt64) B dX12_see_137 rfl ?_
  refine z_last B h_19 (Nat.le_trans hna (Nat.le_add_right y 5)) (vin rfl) dX12_see_138 (fun Φ10 hΦ7 => ?_)
  have h_21 : Φ10 (y + 5) = some (al_ G 96 (vp_updL (vp_updL (vp_updL (vp_updL (fun _ => 0) (0 : Int32).toNatClampNeg a.toInt64) (1 : Int32).toNatClampNeg b.toInt64) (2 : Int32).toNatClampNeg d.toInt64) (3 : Int32).toNatClampNeg e.toInt64)) := fset_at hΦ7
  refine z_aload_n B dX12_see_139 rfl 2 rfl ?_
  have h_22 : Φ10 y = some (o_ 14 [.int 0, .ref (y + 1), .ref (y + 2), .int 0, .int 1, .int 1, .int 0, .int 0, .ref (y + 3), .ref (y + 4), .int 0, .long 0, .ref (y + 5), .int 1, .int 0, .long 1, .long 1, .long 0, .long 0, .ref (y + 6), .ref (y + 7), .int 0, .ref (y + 8), .int 0, .ref (y + 9), .ref (y + 10), .int 0, .ref (y + 11), .ref (y + 12), .ref (y + 13), .ref (y + 14), .ref (y + 15), .ref (y + 16), .int 0, .long (-1), .ref (y + 17), .ref (y + 18), .ref (y + 19), .ref (y + 20), .ref (y + 21), .ref (y + 22), .int 0, .ref (y + 23), .ref (y + 24), .int 1, .ref (y + 25), .int 0, .int 0, .int 0, .int (-1), .int 0, .int 0, .int 0, .long 0]) := ((fset_fr hΦ7 (ne_off (x := y) (i := 0) (j := 5) rfl)).trans h_20)
  refine z_get (ref := "FlowExporterModel") (C := RX12) (T := TX12) (N := 54) (ci := 14) (v := .ref (y + 5)) B (by decide +kernel) rfl 12 (by decide) (by decide +kernel) rfl h_22 rfl dX12_see_140 ?_
  refine z_iload B dX12_see_143 0 rfl ?_
  refine z_iconst (v := 4) B dX12_see_145 rfl ?_
  refine z_iadd B dX12_see_146 ?_
  refine z_top (st1 := [.int 4, .ref (y + 5)]) (congrArg (fun w9 : Int32 => ([.int w9, .ref (y + 5)] : List Value)) (show (0 + 4 : Int32) = 4 by decide +kernel)) ?_
  refine z_lconst (v := 0) B dX12_see_147 rfl ?_
  refine z_last B h_21 (Nat.le_trans hna (Nat.le_add_right y 5)) (vin rfl) dX12_see_148 (fun Φ11 hΦ8 => ?_)
  have h_23 : Φ11 (y + 5) = some (al_ G 96 (vp_updL (vp_updL (vp_updL (vp_updL (vp_updL (fun _ => 0) (0 : Int32).toNatClampNeg a.toInt64) (1 : Int32).toNatClampNeg b.toInt64) (2 : Int32).toNatClampNeg d.toInt64) (3 : Int32).toNatClampNeg e.toInt64) (4 : Int32).toNatClampNeg 0)) := fset_at hΦ8
  refine z_aload_n B dX12_see_149 rfl 2 rfl ?_
  have h_24 : Φ11 y = some (o_ 14 [.int 0, .ref (y + 1), .ref (y + 2), .int 0, .int 1, .int 1, .int 0, .int 0, .ref (y + 3), .ref (y + 4), .int 0, .long 0, .ref (y + 5), .int 1, .int 0, .long 1, .long 1, .long 0, .long 0, .ref (y + 6), .ref (y + 7), .int 0, .ref (y + 8), .int 0, .ref (y + 9), .ref (y + 10), .int 0, .ref (y + 11), .ref (y + 12), .ref (y + 13), .ref (y + 14), .ref (y + 15), .ref (y + 16), .int 0, .long (-1), .ref (y + 17), .ref (y + 18), .ref (y + 19), .ref (y + 20), .ref (y + 21), .ref (y + 22), .int 0, .ref (y + 23), .ref (y + 24), .int 1, .ref (y + 25), .int 0, .int 0, .int 0, .int (-1), .int 0, .int 0, .int 0, .long 0]) := ((fset_fr hΦ8 (ne_off (x := y) (i := 0) (j := 5) rfl)).trans h_22)
  refine z_get (ref := "FlowExporterModel") (C := RX12) (T := TX12) (N := 54) (ci := 14) (v := .ref (y + 5)) B (by decide +kernel) rfl 12 (by decide) (by decide +kernel) rfl h_24 rfl dX12_see_150 ?_
  refine z_iload B dX12_see_153 0 rfl ?_
  refine z_iconst (v := 5) B dX12_see_155 rfl ?_
  refine z_iadd B dX12_see_156 ?_
  refine z_top (st1 := [.int 5, .ref (y + 5)]) (congrArg (fun w9 : Int32 => ([.int w9, .ref (y + 5)] : List Value)) (show (0 + 5 : Int32) = 5 by decide +kernel)) ?_
  refine z_lconst (v := 0) B dX12_see_157 rfl ?_
  refine z_last B h_23 (Nat.le_trans hna (Nat.le_add_right y 5)) (vin rfl) dX12_see_158 (fun Φ12 hΦ9 => ?_)
  have h_25 : Φ12 (y + 5) = some (al_ G 96 (vp_updL (vp_updL (vp_updL (vp_updL (vp_updL (vp_updL (fun _ => 0) (0 : Int32).toNatClampNeg a.toInt64) (1 : Int32).toNatClampNeg b.toInt64) (2 : Int32).toNatClampNeg d.toInt64) (3 : Int32).toNatClampNeg e.toInt64) (4 : Int32).toNatClampNeg 0) (5 : Int32).toNatClampNeg 0)) := fset_at hΦ9
  refine z_aload_n B dX12_see_159 rfl 2 rfl ?_
  have h_26 : Φ12 y = some (o_ 14 [.int 0, .ref (y + 1), .ref (y + 2), .int 0, .int 1, .int 1, .int 0, .int 0, .ref (y + 3), .ref (y + 4), .int 0, .long 0, .ref (y + 5), .int 1, .int 0, .long 1, .long 1, .long 0, .long 0, .ref (y + 6), .ref (y + 7), .int 0, .ref (y + 8), .int 0, .ref (y + 9), .ref (y + 10), .int 0, .ref (y + 11), .ref (y + 12), .ref (y + 13), .ref (y + 14), .ref (y + 15), .ref (y + 16), .int 0, .long (-1), .ref (y + 17), .ref (y + 18), .ref (y + 19), .ref (y + 20), .ref (y + 21), .ref (y + 22), .int 0, .ref (y + 23), .ref (y + 24), .int 1, .ref (y + 25), .int 0, .int 0, .int 0, .int (-1), .int 0, .int 0, .int 0, .long 0]) := ((fset_fr hΦ9 (ne_off (x := y) (i := 0) (j := 5) rfl)).trans h_24)
  refine z_get (ref := "FlowExporterModel") (C := RX12) (T := TX12) (N := 54) (ci := 14) (v := .ref (y + 5)) B (by decide +kernel) rfl 12 (by decide) (by decide +kernel) rfl h_26 rfl dX12_see_160 ?_
  refine z_iload B dX12_see_163 0 rfl ?_
  refine z_bipush (v := 6) B dX12_see_165 rfl ?_
  refine z_iadd B dX12_see_167 ?_
  refine z_top (st1 := [.int 6, .ref (y + 5)]) (congrArg (fun w9 : Int32 => ([.int w9, .ref (y + 5)] : List Value)) (show (0 + 6 : Int32) = 6 by decide +kernel)) ?_
  refine z_aload_n B dX12_see_168 rfl 2 rfl ?_
  refine z_get (ref := "FlowExporterModel") (C := RX12) (T := TX12) (N := 54) (ci := 14) (v := .int 0) B (by decide +kernel) rfl 3 (by decide) (by decide +kernel) rfl h_26 rfl dX12_see_169 ?_
  refine z_i2l (v := 0) B dX12_see_172 (by decide +kernel) ?_
  refine z_last B h_25 (Nat.le_trans hna (Nat.le_add_right y 5)) (vin rfl) dX12_see_173 (fun Φ13 hΦ10 => ?_)
  have h_27 : Φ13 (y + 5) = some (al_ G 96 (vp_updL (vp_updL (vp_updL (vp_updL (vp_updL (vp_updL (vp_updL (fun _ => 0) (0 : Int32).toNatClampNeg a.toInt64) (1 : Int32).toNatClampNeg b.toInt64) (2 : Int32).toNatClampNeg d.toInt64) (3 : Int32).toNatClampNeg e.toInt64) (4 : Int32).toNatClampNeg 0) (5 : Int32).toNatClampNeg 0) (6 : Int32).toNatClampNeg 0)) := fset_at hΦ10
  refine z_aload_n B dX12_see_174 rfl 2 rfl ?_
  have h_28 : Φ13 y = some (o_ 14 [.int 0, .ref (y + 1), .ref (y + 2), .int 0, .int 1, .int 1, .int 0, .int 0, .ref (y + 3), .ref (y + 4), .int 0, .long 0, .ref (y + 5), .int 1, .int 0, .long 1, .long 1, .long 0, .long 0, .ref (y + 6), .ref (y + 7), .int 0, .ref (y + 8), .int 0, .ref (y + 9), .ref (y + 10), .int 0, .ref (y + 11), .ref (y + 12), .ref (y + 13), .ref (y + 14), .ref (y + 15), .ref (y + 16), .int 0, .long (-1), .ref (y + 17), .ref (y + 18), .ref (y + 19), .ref (y + 20), .ref (y + 21), .ref (y + 22), .int 0, .ref (y + 23), .ref (y + 24), .int 1, .ref (y + 25), .int 0, .int 0, .int 0, .int (-1), .int 0, .int 0, .int 0, .long 0]) := ((fset_fr hΦ10 (ne_off (x := y) (i := 0) (j := 5) rfl)).trans h_26)
  refine z_get (ref := "FlowExporterModel") (C := RX12) (T := TX12) (N := 54) (ci := 14) (v := .ref (y + 5)) B (by decide +kernel) rfl 12 (by decide) (by decide +kernel) rfl h_28 rfl dX12_see_175 ?_
  refine z_bipush (v := 8) B dX12_see_178 rfl ?_
  refine z_iload B dX12_see_180 1 rfl ?_
  refine z_imul B dX12_see_182 ?_
  refine z_top (st1 := [.int 0, .ref (y + 5)]) (congrArg (fun w9 : Int32 => ([.int w9, .ref (y + 5)] : List Value)) (show (8 * 0 : Int32) = 0 by decide +kernel)) ?_
  refine z_iconst (v := 4) B dX12_see_183 rfl ?_
  refine z_iadd B dX12_see_184 ?_
  refine z_top (st1 := [.int 4, .ref (y + 5)]) (congrArg (fun w9 : Int32 => ([.int w9, .ref (y + 5)] : List Value)) (show (0 + 4 : Int32) = 4 by decide +kernel)) ?_
  refine z_dup2_11 B dX12_see_185 rfl rfl ?_
  refine z_lald B h_27 (vin rfl) dX12_see_186 ?_
  refine z_top (st1 := [.long 0, .int 4, .ref (y + 5)]) (by rfl) ?_
  refine z_lconst (v := 1) B dX12_see_187 rfl ?_
  refine z_ladd B dX12_see_188 ?_
  refine z_top (st1 := [.long 1, .int 4, .ref (y + 5)]) (congrArg (fun w9 : Int64 => ([.long w9, .int 4, .ref (y + 5)] : List Value)) (show (0 + 1 : Int64) = 1 by decide +kernel)) ?_
  refine z_last B h_27 (Nat.le_trans hna (Nat.le_add_right y 5)) (vin rfl) dX12_see_189 (fun Φ14 hΦ11 => ?_)
  have h_29 : Φ14 (y + 5) = some (al_ G 96 (vp_updL (vp_updL (vp_updL (vp_updL (vp_updL (vp_updL (vp_updL (vp_updL (fun _ => 0) (0 : Int32).toNatClampNeg a.toInt64) (1 : Int32).toNatClampNeg b.toInt64) (2 : Int32).toNatClampNeg d.toInt64) (3 : Int32).toNatClampNeg e.toInt64) (4 : Int32).toNatClampNeg 0) (5 : Int32).toNatClampNeg 0) (6 : Int32).toNatClampNeg 0) (4 : Int32).toNatClampNeg 1)) := fset_at hΦ11
  refine z_aload_n B dX12_see_190 rfl 2 rfl ?_
  have h_30 : Φ14 y = some (o_ 14 [.int 0, .ref (y + 1), .ref (y + 2), .int 0, .int 1, .int 1, .int 0, .int 0, .ref (y + 3), .ref (y + 4), .int 0, .long 0, .ref (y + 5), .int 1, .int 0, .long 1, .long 1, .long 0, .long 0, .ref (y + 6), .ref (y + 7), .int 0, .ref (y + 8), .int 0, .ref (y + 9), .ref (y + 10), .int 0, .ref (y + 11), .ref (y + 12), .ref (y + 13), .ref (y + 14), .ref (y + 15), .ref (y + 16), .int 0, .long (-1), .ref (y + 17), .ref (y + 18), .ref (y + 19), .ref (y + 20), .ref (y + 21), .ref (y + 22), .int 0, .ref (y + 23), .ref (y + 24), .int 1, .ref (y + 25), .int 0, .int 0, .int 0, .int (-1), .int 0, .int 0, .int 0, .long 0]) := ((fset_fr hΦ11 (ne_off (x := y) (i := 0) (j := 5) rfl)).trans h_28)
  refine z_get (ref := "FlowExporterModel") (C := RX12) (T := TX12) (N := 54) (ci := 14) (v := .ref (y + 5)) B (by decide +kernel) rfl 12 (by decide) (by decide +kernel) rfl h_30 rfl dX12_see_191 ?_
  refine z_bipush (v := 8) B dX12_see_194 rfl ?_
  refine z_iload B dX12_see_196 1 rfl ?_
  refine z_imul B dX12_see_198 ?_
  refine z_top (st1 := [.int 0, .ref (y + 5)]) (congrArg (fun w9 : Int32 => ([.int w9, .ref (y + 5)] : List Value)) (show (8 * 0 : Int32) = 0 by decide +kernel)) ?_
  refine z_iconst (v := 5) B dX12_see_199 rfl ?_
  refine z_iadd B dX12_see_200 ?_
  refine z_top (st1 := [.int 5, .ref (y + 5)]) (congrArg (fun w9 : Int32 => ([.int w9, .ref (y + 5)] : List Value)) (show (0 + 5 : Int32) = 5 by decide +kernel)) ?_
  refine z_dup2_11 B dX12_see_201 rfl rfl ?_
  refine z_lald B h_29 (vin rfl) dX12_see_202 ?_
  refine z_top (st1 := [.long 0, .int 5, .ref (y + 5)]) (by rfl) ?_
  refine z_iload B dX12_see_203 7 rfl ?_
  refine z_i2l (v := f.toInt64) B dX12_see_205 rfl ?_
  refine z_ladd B dX12_see_206 ?_
  refine z_last B h_29 (Nat.le_trans hna (Nat.le_add_right y 5)) (vin rfl) dX12_see_207 (fun Φ15 hΦ12 => ?_)
  have h_31 : Φ15 (y + 5) = some (al_ G 96 (vp_updL (vp_updL (vp_updL (vp_updL (vp_updL (vp_updL (vp_updL (vp_updL (vp_updL (fun _ => 0) (0 : Int32).toNatClampNeg a.toInt64) (1 : Int32).toNatClampNeg b.toInt64) (2 : Int32).toNatClampNeg d.toInt64) (3 : Int32).toNatClampNeg e.toInt64) (4 : Int32).toNatClampNeg 0) (5 : Int32).toNatClampNeg 0) (6 : Int32).toNatClampNeg 0) (4 : Int32).toNatClampNeg 1) (5 : Int32).toNatClampNeg (0 + f.toInt64))) := fset_at hΦ12
  refine z_aload_n B dX12_see_208 rfl 2 rfl ?_
  have h_32 : Φ15 y = some (o_ 14 [.int 0, .ref (y + 1), .ref (y + 2), .int 0, .int 1, .int 1, .int 0, .int 0, .ref (y + 3), .ref (y + 4), .int 0, .long 0, .ref (y + 5), .int 1, .int 0, .long 1, .long 1, .long 0, .long 0, .ref (y + 6), .ref (y + 7), .int 0, .ref (y + 8), .int 0, .ref (y + 9), .ref (y + 10), .int 0, .ref (y + 11), .ref (y + 12), .ref (y + 13), .ref (y + 14), .ref (y + 15), .ref (y + 16), .int 0, .long (-1), .ref (y + 17), .ref (y + 18), .ref (y + 19), .ref (y + 20), .ref (y + 21), .ref (y + 22), .int 0, .ref (y + 23), .ref (y + 24), .int 1, .ref (y + 25), .int 0, .int 0, .int 0, .int (-1), .int 0, .int 0, .int 0, .long 0]) := ((fset_fr hΦ12 (ne_off (x := y) (i := 0) (j := 5) rfl)).trans h_30)
  refine z_get (ref := "FlowExporterModel") (C := RX12) (T := TX12) (N := 54) (ci := 14) (v := .ref (y + 5)) B (by decide +kernel) rfl 12 (by decide) (by decide +kernel) rfl h_32 rfl dX12_see_209 ?_
  refine z_bipush (v := 8) B dX12_see_212 rfl ?_
  refine z_iload B dX12_see_214 1 rfl ?_
  refine z_imul B dX12_see_216 ?_
  refine z_top (st1 := [.int 0, .ref (y + 5)]) (congrArg (fun w9 : Int32 => ([.int w9, .ref (y + 5)] : List Value)) (show (8 * 0 : Int32) = 0 by decide +kernel)) ?_
  refine z_bipush (v := 7) B dX12_see_217 rfl ?_
  refine z_iadd B dX12_see_219 ?_
  refine z_top (st1 := [.int 7, .ref (y + 5)]) (congrArg (fun w9 : Int32 => ([.int w9, .ref (y + 5)] : List Value)) (show (0 + 7 : Int32) = 7 by decide +kernel)) ?_
  refine z_aload_n B dX12_see_220 rfl 2 rfl ?_
  refine z_get (ref := "FlowExporterModel") (C := RX12) (T := TX12) (N := 54) (ci := 14) (v := .int 0) B (by decide +kernel) rfl 3 (by decide) (by decide +kernel) rfl h_32 rfl dX12_see_221 ?_
  refine z_i2l (v := 0) B dX12_see_224 (by decide +kernel) ?_
  refine z_last B h_31 (Nat.le_trans hna (Nat.le_add_right y 5)) (vin rfl) dX12_see_225 (fun Φ16 hΦ13 => ?_)
  have h_33 : Φ16 (y + 5) = some (al_ G 96 (vp_updL (vp_updL (vp_updL (vp_updL (vp_updL (vp_updL (vp_updL (vp_updL (vp_updL (vp_updL (fun _ => 0) (0 : Int32).toNatClampNeg a.toInt64) (1 : Int32).toNatClampNeg b.toInt64) (2 : Int32).toNatClampNeg d.toInt64) (3 : Int32).toNatClampNeg e.toInt64) (4 : Int32).toNatClampNeg 0) (5 : Int32).toNatClampNeg 0) (6 : Int32).toNatClampNeg 0) (4 : Int32).toNatClampNeg 1) (5 : Int32).toNatClampNeg (0 + f.toInt64)) (7 : Int32).toNatClampNeg 0)) := fset_at hΦ13
  refine z_iconst (v := 1) B dX12_see_226 rfl ?_
  have h_34 : Φ16 y = some (o_ 14 [.int 0, .ref (y + 1), .ref (y + 2), .int 0, .int 1, .int 1, .int 0, .int 0, .ref (y + 3), .ref (y + 4), .int 0, .long 0, .ref (y + 5), .int 1, .int 0, .long 1, .long 1, .long 0, .long 0, .ref (y + 6), .ref (y + 7), .int 0, .ref (y + 8), .int 0, .ref (y + 9), .ref (y + 10), .int 0, .ref (y + 11), .ref (y + 12), .ref (y + 13), .ref (y + 14), .ref (y + 15), .ref (y + 16), .int 0, .long (-1), .ref (y + 17), .ref (y + 18), .ref (y + 19), .ref (y + 20), .ref (y + 21), .ref (y + 22), .int 0, .ref (y + 23), .ref (y + 24), .int 1, .ref (y + 25), .int 0, .int 0, .int 0, .int (-1), .int 0, .int 0, .int 0, .long 0]) := ((fset_fr hΦ13 (ne_off (x := y) (i := 0) (j := 5) rfl)).trans h_32)
  have h_35 : Φ16 (y + 23) = some (ai_ G 96 (upd (upd (upd (upd (fun _ => 0) (0 : Int32).toNatClampNeg a) (1 : Int32).toNatClampNeg b) (2 : Int32).toNatClampNeg d) (3 : Int32).toNatClampNeg e)) := ((fset_fr hΦ13 (ne_off (x := y) (i := 23) (j := 5) rfl)).trans ((fset_fr hΦ12 (ne_off (x := y) (i := 23) (j := 5) rfl)).trans ((fset_fr hΦ11 (ne_off (x := y) (i := 23) (j := 5) rfl)).trans ((fset_fr hΦ10 (ne_off (x := y) (i := 23) (j := 5) rfl)).trans ((fset_fr hΦ9 (ne_off (x := y) (i := 23) (j := 5) rfl)).trans ((fset_fr hΦ8 (ne_off (x := y) (i := 23) (j := 5) rfl)).trans ((fset_fr hΦ7 (ne_off (x := y) (i := 23) (j := 5) rfl)).trans ((fset_fr hΦ6 (ne_off (x := y) (i := 23) (j := 5) rfl)).trans ((fset_fr hΦ5 (ne_off (x := y) (i := 23) (j := 5) rfl)).trans ((fset_fr hΦ4 (ne_off (x := y) (i := 23) (j := 5) rfl)).trans ((fset_fr hΦ3 (ne_off (x := y) (i := 23) (j := 0) rfl)).trans ((fr3 (y + 23)).trans ((fr2 (y + 23)).trans ((fset_fr hΦ2 (ne_off (x := y) (i := 23) (j := 0) rfl)).trans h_8))))))))))))))
  have h_36 : Φ16 (y + 24) = some (al_ G 48 (vp_updL (vp_updL (vp_updL (vp_updL (fun _ => 0) (0 : Int32).toNatClampNeg 0) (1 : Int32).toNatClampNeg 0) (0 : Int32).toNatClampNeg 1) (1 : Int32).toNatClampNeg (0 + f.toInt64))) := ((fset_fr hΦ13 (ne_off (x := y) (i := 24) (j := 5) rfl)).trans ((fset_fr hΦ12 (ne_off (x := y) (i := 24) (j := 5) rfl)).trans ((fset_fr hΦ11 (ne_off (x := y) (i := 24) (j := 5) rfl)).trans ((fset_fr hΦ10 (ne_off (x := y) (i := 24) (j := 5) rfl)).trans ((fset_fr hΦ9 (ne_off (x := y) (i := 24) (j := 5) rfl)).trans ((fset_fr hΦ8 (ne_off (x := y) (i := 24) (j := 5) rfl)).trans ((fset_fr hΦ7 (ne_off (x := y) (i := 24) (j := 5) rfl)).trans ((fset_fr hΦ6 (ne_off (x := y) (i := 24) (j := 5) rfl)).trans ((fset_fr hΦ5 (ne_off (x := y) (i := 24) (j := 5) rfl)).trans ((fset_fr hΦ4 (ne_off (x := y) (i := 24) (j := 5) rfl)).trans ((fset_fr hΦ3 (ne_off (x := y) (i := 24) (j := 0) rfl)).trans ((fr3 (y + 24)).trans ((fr2 (y + 24)).trans ((fset_fr hΦ2 (ne_off (x := y) (i := 24) (j := 0) rfl)).trans h_9))))))))))))))
  exact z_ret_z B dX12_see_227 (by decide) ⟨rfl, rfl, (fun b9 h9a h9b h9c h9d => ((fset_fr hΦ13 h9d).trans ((fset_fr hΦ12 h9d).trans ((fset_fr hΦ11 h9d).trans ((fset_fr hΦ10 h9d).trans ((fset_fr hΦ9 h9d).trans ((fset_fr hΦ8 h9d).trans ((fset_fr hΦ7 h9d).trans ((fset_fr hΦ6 h9d).trans ((fset_fr hΦ5 h9d).trans ((fset_fr hΦ4 h9d).trans ((fset_fr hΦ3 h9a).trans ((fr3 b9).trans ((fr2 b9).trans ((fset_fr hΦ2 h9a).trans ((fr1 b9 h9a h9b h9c).trans ((fset_fr hΦ1 h9a).trans rfl))))))))))))))))), h_34, h_35, h_36, h_33⟩

set_option maxHeartbeats 4000000 in
set_option maxRecDepth 100000 in
theorem m_sendPending_q (G : EnvG) (l : Launch) (Φ : Hm) (sz : Nat) (y : Nat) (ob : Int64) (sp : Int64) (hc0_ : Φ y = some (o_ 14 [.int 0, .ref (y + 1), .ref (y + 2), .int 0, .int 1, .int 1, .int 0, .int 0, .ref (y + 3), .ref (y + 4), .int 0, .long 0, .ref (y + 5), .int 1, .int 0, .long ob, .long sp, .long 0, .long 0, .ref (y + 6), .ref (y + 7), .int 0, .ref (y + 8), .int 0, .ref (y + 9), .ref (y + 10), .int 0, .ref (y + 11), .ref (y + 12), .ref (y + 13), .ref (y + 14), .ref (y + 15), .ref (y + 16), .int 0, .long (-1), .ref (y + 17), .ref (y + 18), .ref (y + 19), .ref (y + 20), .ref (y + 21), .ref (y + 22), .int 0, .ref (y + 23), .ref (y + 24), .int 1, .ref (y + 25), .int 0, .int 0, .int 0, .int (-1), .int 0, .int 0, .int 0, .long 0])) (hna : G.2.2.2 ≤ y) : Ct G l yX12_sendPending wsX12_sendPending ({ frames := 0, cells := 0, slots := 0, locals := 0 }) 0 0 [.ref y] Φ sz (fun v Φ1 sz1 => v = none ∧ sz1 = sz ∧ (∀ b9 : Nat, b9 ≠ y → Φ1 b9 = Φ b9) ∧ Φ1 y = some (o_ 14 [.int 0, .ref (y + 1), .ref (y + 2), .int 0, .int 1, .int 1, .int 0, .int 0, .ref (y + 3), .ref (y + 4), .int 0, .long 0, .ref (y + 5), .int 1, .int 0, .long ob, .long sp, .long 0, .long 0, .ref (y + 6), .ref (y + 7), .int 0, .ref (y + 8), .int 0, .ref (y + 9), .ref (y + 10), .int 0, .ref (y + 11), .ref (y + 12), .ref (y + 13), .ref (y + 14), .ref (y + 15), .ref (y + 16), .int 0, .long (-1), .ref (y + 17), .ref (y + 18), .ref (y + 19), .ref (y + 20), .ref (y + 21), .ref (y + 22), .int 0, .ref (y + 23), .ref (y + 24), .int 1, .ref (y + 25), .int 0, .int 0, .int 0, .int (-1), .int 0, .int 0, .int 0, .long 0])) := by
  refine Ct.of (cc := cX12_sendPending) (maxL := 3) (ret := none) (by decide) rfl (Nat.le_of_ble_eq_true rfl) ?_
  intro p9 e9 s9 m9 w9 t9 k9 B
  show Z p9 l e9 _ s9 m9 _ w9 t9 k9 _ G 3 0 [(0, .ref y)] [] Φ sz 0 0
  refine z_iconst (v := 0) B dX12_sendPending_0 rfl ?_
  refine z_istore_n (lv' := [(1, .int 0), (0, .ref y)]) B dX12_sendPending_1 rfl (Nat.le_of_ble_eq_true rfl) rfl ?_
  refine z_iload_n B dX12_sendPending_2 rfl 0 rfl ?_
  refine z_aload_n B dX12_sendPending_3 rfl 1 rfl ?_
  refine z_get (ref := "FlowExporterModel") (C := RX12) (T := TX12) (N := 54) (ci := 14) (v := .int 0) B (by decide +kernel) rfl 21 (by decide) (by decide +kernel) rfl hc0_ rfl dX12_sendPending_4 ?_
  refine z_icmp_ge (tgt := 132) B dX12_sendPending_7 rfl (fun c_1 => ?_) (fun h9 => absurd (by decide) h9)
  refine z_aload_n B dX12_sendPending_132 rfl 1 rfl ?_
  refine z_iconst (v := 0) B dX12_sendPending_133 rfl ?_
  refine z_put (ref := "FlowExporterModel") (C := RX12) (T := TX12) (N := 54) (ci := 14) (v := .int 0) B (by decide +kernel) tyX12 tyX12_ok nmX12 rfl 21 (by decide) (by decide +kernel) rfl (Or.inl rfl) hc0_ hna rfl rfl (Nat.le_of_ble_eq_true rfl) dX12_sendPending_134 (fun Φ1 hΦ1 => ?_)
  have h_1 : Φ1 y = some (o_ 14 [.int 0, .ref (y + 1), .ref (y + 2), .int 0, .int 1, .int 1, .int 0, .int 0, .ref (y + 3), .ref (y + 4), .int 0, .long 0, .ref (y + 5), .int 1, .int 0, .long ob, .long sp, .long 0, .long 0, .ref (y + 6), .ref (y + 7), .int 0, .ref (y + 8), .int 0, .ref (y + 9), .ref (y + 10), .int 0, .ref (y + 11), .ref (y + 12), .ref (y + 13), .ref (y + 14), .ref (y + 15), .ref (y + 16), .int 0, .long (-1), .ref (y + 17), .ref (y + 18), .ref (y + 19), .ref (y + 20), .ref (y + 21), .ref (y + 22), .int 0, .ref (y + 23), .ref (y + 24), .int 1, .ref (y + 25), .int 0, .int 0, .int 0, .int (-1), .int 0, .int 0, .int 0, .long 0]) := fset_at hΦ1
  exact z_ret_v B dX12_sendPending_137 ⟨rfl, rfl, (fun b9 h9a => ((fset_fr hΦ1 h9a).trans rfl)), h_1⟩

set_option maxHeartbeats 4000000 in
set_option maxRecDepth 100000 in
theorem m_X12_observe (G : EnvG) (l : Launch) (Φ : Hm) (sz : Nat) (y : Nat) (a : Int32) (b : Int32) (d : Int32) (e : Int32) (f : Int32) (hc0_ : Φ y = some (o_ 14 [.int 0, .ref (y + 1), .ref (y + 2), .int 0, .int 1, .int 1, .int 0, .int 0, .ref (y + 3), .ref (y + 4), .int 0, .long 0, .ref (y + 5), .int 0, .int 0, .long 0, .long 0, .long 0, .long 0, .ref (y + 6), .ref (y + 7), .int 0, .ref (y + 8), .int 0, .ref (y + 9), .ref (y + 10), .int 0, .ref (y + 11), .ref (y + 12), .ref (y + 13), .ref (y + 14), .ref (y + 15), .ref (y + 16), .int 0, .long (-1), .ref (y + 17), .ref (y + 18), .ref (y + 19), .ref (y + 20), .ref (y + 21), .ref (y + 22), .int 0, .ref (y + 23), .ref (y + 24), .int 0, .ref (y + 25), .int 0, .int 0, .int 0, .int (-1), .int 0, .int 0, .int 0, .long 0])) (hc5_ : Φ (y + 5) = some (al_ G 96 (fun _ => 0))) (hc23_ : Φ (y + 23) = some (ai_ G 96 (fun _ => 0))) (hc24_ : Φ (y + 24) = some (al_ G 48 (fun _ => 0))) (hna : G.2.2.2 ≤ y) (hp : pkP a b d e f) : Ct G l yX12_observe wsX12_observe ({ frames := 3, cells := 0, slots := 0, locals := 78 }) 0 0 [.ref y, .int a, .int b, .int d, .int e, .int f] Φ sz (fun v Φ1 sz1 => v = some (.int 1) ∧ (∃ fs : List Value, Φ1 y = some (o_ 14 fs) ∧ fs[0]? = some (.int 0)) ∧ ∀ b9 : Nat, y + 26 ≤ b9 → Φ1 b9 = Φ b9) := by
  refine Ct.of (cc := cX12_observe) (maxL := 7) (ret := (some .boolean)) (by decide) rfl (Nat.le_of_ble_eq_true rfl) ?_
  intro p9 e9 s9 m9 w9 t9 k9 B
  show Z p9 l e9 _ s9 m9 _ w9 t9 k9 _ G 7 0 [(0, .ref y), (1, .int a), (2, .int b), (3, .int d), (4, .int e), (5, .int f)] [] Φ sz 0 0
  refine z_aload_n B dX12_observe_0 rfl 0 rfl ?_
  refine z_iconst (v := 0) B dX12_observe_1 rfl ?_
  refine z_put (ref := "FlowExporterModel") (C := RX12) (T := TX12) (N := 54) (ci := 14) (v := .int 0) B (by decide +kernel) tyX12 tyX12_ok nmX12 rfl 0 (by decide) (by decide +kernel) rfl (Or.inl rfl) hc0_ hna rfl rfl (Nat.le_of_ble_eq_true rfl) dX12_observe_2 (fun Φ1 hΦ1 => ?_)
  have h_1 : Φ1 y = some (o_ 14 [.int 0, .ref (y + 1), .ref (y + 2), .int 0, .int 1, .int 1, .int 0, .int 0, .ref (y + 3), .ref (y + 4), .int 0, .long 0, .ref (y + 5), .int 0, .int 0, .long 0, .long 0, .long 0, .long 0, .ref (y + 6), .ref (y + 7), .int 0, .ref (y + 8), .int 0, .ref (y + 9), .ref (y + 10), .int 0, .ref (y + 11), .ref (y + 12), .ref (y + 13), .ref (y + 14), .ref (y + 15), .ref (y + 16), .int 0, .long (-1), .ref (y + 17), .ref (y + 18), .ref (y + 19), .ref (y + 20), .ref (y + 21), .ref (y + 22), .int 0, .ref (y + 23), .ref (y + 24), .int 0, .ref (y + 25), .int 0, .int 0, .int 0, .int (-1), .int 0, .int 0, .int 0, .long 0]) := fset_at hΦ1
  refine z_aload_n B dX12_observe_5 rfl 0 rfl ?_
  refine z_iload_n B dX12_observe_6 rfl 1 rfl ?_
  refine z_iload_n B dX12_observe_7 rfl 2 rfl ?_
  refine z_iload_n B dX12_observe_8 rfl 3 rfl ?_
  refine z_iload B dX12_observe_9 4 rfl ?_
  refine z_iload B dX12_observe_11 5 rfl ?_
  refine z_callS (As := [.int a, .int b, .int d, .int e, .int f]) (rest := [.ref y]) B (m_isPacket G l Φ1 sz y a b d e f hp.1 hp.2.1 hp.2.2.1 hp.2.2.2.1 hp.2.2.2.2) (va_cwS 5 B.1.2.2.2.2 gX12_observe_X12_isPacket rfl rfl rfl (by decide +kernel) ⟨Nat.le_of_ble_eq_true rfl, Nat.le_of_ble_eq_true rfl⟩) rfl rfl (Nat.le_of_ble_eq_true rfl) dX12_observe_13 ⟨Nat.le_of_ble_eq_true rfl, Nat.le_of_ble_eq_true rfl⟩ (fun v1 Φ2 sz1 st1 hp1 hs1 => ?_)
  obtain ⟨rfl, hq1, fr1⟩ := hp1
  replace hq1 : sz1 = sz := hq1
  subst sz1
  replace hs1 : st1 = [.int 1, .ref y] := hs1
  subst st1
  refine z_if_ne (tgt := 23) B dX12_observe_16 rfl (fun c_1 => ?_) (fun h9 => absurd h9 (by decide))
  refine z_iconst (v := 0) B dX12_observe_23 rfl ?_
  refine z_iconst (v := 1) B dX12_observe_24 rfl ?_
  have h_2 : Φ2 y = some (o_ 14 [.int 0, .ref (y + 1), .ref (y + 2), .int 0, .int 1, .int 1, .int 0, .int 0, .ref (y + 3), .ref (y + 4), .int 0, .long 0, .ref (y + 5), .int 0, .int 0, .long 0, .long 0, .long 0, .long 0, .ref (y + 6), .ref (y + 7), .int 0, .ref (y + 8), .int 0, .ref (y + 9), .ref (y + 10), .int 0, .ref (y + 11), .ref (y + 12), .ref (y + 13), .ref (y + 14), .ref (y + 15), .ref (y + 16), .int 0, .long (-1), .ref (y + 17), .ref (y + 18), .ref (y + 19), .ref (y + 20), .ref (y + 21), .ref (y + 22), .int 0, .ref (y + 23), .ref (y + 24), .int 0, .ref (y + 25), .int 0, .int 0, .int 0, .int (-1), .int 0, .int 0, .int 0, .long 0]) := ((fr1 y).trans h_1)
  refine z_callV (As := [.int 0, .int 1]) (rest := []) B (c_X12_throwsIf_0 G l Φ2 sz y 0 0 1 1 0 0 0 0 0 0 0 0 0 0 0 0 0 0 (-1) 0 0 0 0 0 (-1) 0 0 0 0 1 h_2 hna) (cwV 2 B.1.2.2.2.2 gX12_observe_X12_throwsIf rfl rfl rfl (by decide +kernel) ⟨Nat.le_of_ble_eq_true rfl, Nat.le_of_ble_eq_true rfl⟩) h_2 rfl rfl rfl rfl (Nat.le_of_ble_eq_true rfl) dX12_observe_25 ⟨Nat.le_of_ble_eq_true rfl, Nat.le_of_ble_eq_true rfl⟩ (fun v2 Φ3 sz2 st2 hp2 hs2 => ?_)
  obtain ⟨rfl, hq2, fr2⟩ := hp2
  replace hq2 : sz2 = sz := hq2
  subst sz2
  replace hs2 : st2 = [.int 0] := hs2
  subst st2
  refine z_if_eq (tgt := 33) B dX12_observe_28 rfl (fun c_2 => ?_) (fun h9 => absurd (by decide) h9)
  refine z_aload_n B dX12_observe_33 rfl 0 rfl ?_
  refine z_iload_n B dX12_observe_34 rfl 1 rfl ?_
  refine z_iload_n B dX12_observe_35 rfl 2 rfl ?_
  refine z_iload_n B dX12_observe_36 rfl 3 rfl ?_
  refine z_iload B dX12_observe_37 4 rfl ?_
  refine z_iload B dX12_observe_39 5 rfl ?_
  have h_3 : Φ3 y = some (o_ 14 [.int 0, .ref (y + 1), .ref (y + 2), .int 0, .int 1, .int 1, .int 0, .int 0, .ref (y + 3), .ref (y + 4), .int 0, .long 0, .ref (y + 5), .int 0, .int 0, .long 0, .long 0, .long 0, .long 0, .ref (y + 6), .ref (y + 7), .int 0, .ref (y + 8), .int 0, .ref (y + 9), .ref (y + 10), .int 0, .ref (y + 11), .ref (y + 12), .ref (y + 13), .ref (y + 14), .ref (y + 15), .ref (y + 16), .int 0, .long (-1), .ref (y + 17), .ref (y + 18), .ref (y + 19), .ref (y + 20), .ref (y + 21), .ref (y + 22), .int 0, .ref (y + 23), .ref (y + 24), .int 0, .ref (y + 25), .int 0, .int 0, .int 0, .int (-1), .int 0, .int 0, .int 0, .long 0]) := ((fr2 y).trans h_2)
  have h_4 : Φ3 (y + 5) = some (al_ G 96 (fun _ => 0)) := ((fr2 (y + 5)).trans ((fr1 (y + 5)).trans ((fset_fr hΦ1 (ne_off (x := y) (i := 5) (j := 0) rfl)).trans hc5_)))
  have h_5 : Φ3 (y + 23) = some (ai_ G 96 (fun _ => 0)) := ((fr2 (y + 23)).trans ((fr1 (y + 23)).trans ((fset_fr hΦ1 (ne_off (x := y) (i := 23) (j := 0) rfl)).trans hc23_)))
  have h_6 : Φ3 (y + 24) = some (al_ G 48 (fun _ => 0)) := ((fr2 (y + 24)).trans ((fr1 (y + 24)).trans ((fset_fr hΦ1 (ne_off (x := y) (i := 24) (j := 0) rfl)).trans hc24_)))
  refine z_callV (As := [.int a, .int b, .int d, .int e, .int f]) (rest := []) B (m_see_1 G l Φ3 sz y a b d e f h_3 h_4 h_5 h_6 hna) (cwV 5 B.1.2.2.2.2 gX12_observe_X12_see rfl rfl rfl (by decide +kernel) ⟨Nat.le_of_ble_eq_true rfl, Nat.le_of_ble_eq_true rfl⟩) h_3 rfl rfl rfl rfl (Nat.le_of_ble_eq_true rfl) dX12_observe_41 ⟨Nat.le_of_ble_eq_true rfl, Nat.le_of_ble_eq_true rfl⟩ (fun v3 Φ4 sz3 st3 hp3 hs3 => ?_)
  obtain ⟨rfl, hq3, fr3, h_7, h_8, h_9, h_10⟩ := hp3
  replace hq3 : sz3 = sz := hq3
  subst sz3
  replace hs3 : st3 = [.int 1] := hs3
  subst st3
  have h_11 : Φ4 y = some (o_ 14 [.int 0, .ref (y + 1), .ref (y + 2), .int 0, .int 1, .int 1, .int 0, .int 0, .ref (y + 3), .ref (y + 4), .int 0, .long 0, .ref (y + 5), .int 1, .int 0, .long 1, .long 1, .long 0, .long 0, .ref (y + 6), .ref (y + 7), .int 0, .ref (y + 8), .int 0, .ref (y + 9), .ref (y + 10), .int 0, .ref (y + 11), .ref (y + 12), .ref (y + 13), .ref (y + 14), .ref (y + 15), .ref (y + 16), .int 0, .long (-1), .ref (y + 17), .ref (y + 18), .ref (y + 19), .ref (y + 20), .ref (y + 21), .ref (y + 22), .int 0, .ref (y + 23), .ref (y + 24), .int 1, .ref (y + 25), .int 0, .int 0, .int 0, .int (-1), .int 0, .int 0, .int 0, .long 0]) := h_7
  have h_12 : Φ4 (y + 23) = some (ai_ G 96 (upd (upd (upd (upd (fun _ => 0) (0 : Int32).toNatClampNeg a) (1 : Int32).toNatClampNeg b) (2 : Int32).toNatClampNeg d) (3 : Int32).toNatClampNeg e)) := h_8
  have h_13 : Φ4 (y + 24) = some (al_ G 48 (vp_updL (vp_updL (vp_updL (vp_updL (fun _ => 0) (0 : Int32).toNatClampNeg 0) (1 : Int32).toNatClampNeg 0) (0 : Int32).toNatClampNeg 1) (1 : Int32).toNatClampNeg (0 + f.toInt64))) := h_9
  have h_14 : Φ4 (y + 5) = some (al_ G 96 (vp_updL (vp_updL (vp_updL (vp_updL (vp_updL (vp_updL (vp_updL (vp_updL (vp_updL (vp_updL (fun _ => 0) (0 : Int32).toNatClampNeg a.toInt64) (1 : Int32).toNatClampNeg b.toInt64) (2 : Int32).toNatClampNeg d.toInt64) (3 : Int32).toNatClampNeg e.toInt64) (4 : Int32).toNatClampNeg 0) (5 : Int32).toNatClampNeg 0) (6 : Int32).toNatClampNeg 0) (4 : Int32).toNatClampNeg 1) (5 : Int32).toNatClampNeg (0 + f.toInt64)) (7 : Int32).toNatClampNeg 0)) := h_10
  refine z_istore (lv' := [(6, .int 1), (0, .ref y), (1, .int a), (2, .int b), (3, .int d), (4, .int e), (5, .int f)]) B dX12_observe_44 (Nat.le_of_ble_eq_true rfl) rfl ?_
  refine z_aload_n B dX12_observe_46 rfl 1 rfl ?_
  refine z_callV (As := []) (rest := []) B (m_sendPending_q G l Φ4 sz y 1 1 h_11 hna) (cwV 0 B.1.2.2.2.2 gX12_observe_X12_sendPending rfl rfl rfl (by decide +kernel) ⟨Nat.le_of_ble_eq_true rfl, Nat.le_of_ble_eq_true rfl⟩) h_11 rfl rfl rfl rfl (Nat.le_of_ble_eq_true rfl) dX12_observe_47 ⟨Nat.le_of_ble_eq_true rfl, Nat.le_of_ble_eq_true rfl⟩ (fun v4 Φ5 sz4 st4 hp4 hs4 => ?_)
  obtain ⟨rfl, hq4, fr4, h_15⟩ := hp4
  replace hq4 : sz4 = sz := hq4
  subst sz4
  replace hs4 : st4 = [] := hs4
  subst st4
  have h_16 : Φ5 y = some (o_ 14 [.int 0, .ref (y + 1), .ref (y + 2), .int 0, .int 1, .int 1, .int 0, .int 0, .ref (y + 3), .ref (y + 4), .int 0, .long 0, .ref (y + 5), .int 1, .int 0, .long 1, .long 1, .long 0, .long 0, .ref (y + 6), .ref (y + 7), .int 0, .ref (y + 8), .int 0, .ref (y + 9), .ref (y + 10), .int 0, .ref (y + 11), .ref (y + 12), .ref (y + 13), .ref (y + 14), .ref (y + 15), .ref (y + 16), .int 0, .long (-1), .ref (y + 17), .ref (y + 18), .ref (y + 19), .ref (y + 20), .ref (y + 21), .ref (y + 22), .int 0, .ref (y + 23), .ref (y + 24), .int 1, .ref (y + 25), .int 0, .int 0, .int 0, .int (-1), .int 0, .int 0, .int 0, .long 0]) := h_15
  refine z_iload B dX12_observe_50 0 rfl ?_
  exact z_ret_z B dX12_observe_52 (by decide) ⟨rfl, ⟨_, h_16, rfl⟩, fun b9 h9 => ((fr4 b9 (Nat.ne_of_gt (Nat.lt_of_lt_of_le (lt_off (x := y) (i := 0) (j := 26) rfl) h9))).trans ((fr3 b9 (Nat.ne_of_gt (Nat.lt_of_lt_of_le (lt_off (x := y) (i := 0) (j := 26) rfl) h9)) (Nat.ne_of_gt (Nat.lt_of_lt_of_le (lt_off (x := y) (i := 23) (j := 26) rfl) h9)) (Nat.ne_of_gt (Nat.lt_of_lt_of_le (lt_off (x := y) (i := 24) (j := 26) rfl) h9)) (Nat.ne_of_gt (Nat.lt_of_lt_of_le (lt_off (x := y) (i := 5) (j := 26) rfl) h9))).trans ((fr2 b9).trans ((fr1 b9).trans ((fset_fr hΦ1 (Nat.ne_of_gt (Nat.lt_of_lt_of_le (lt_off (x := y) (i := 0) (j := 26) rfl) h9))).trans rfl)))))⟩
