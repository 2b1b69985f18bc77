section LAWCASES
variable {p : Program} {l : Launch} {e : Env} {s : State} {m : MethodId} {below : List Frame} {meth : Method} {c : Code} {b L : Nat} {xs : Nat → Int32} {G : m_G} {h o j : Nat} {x4 : Int32}
set_option maxHeartbeats 4000000 in
set_option maxRecDepth 100000 in
theorem lw_c21 (C0 : lw_At p s m meth c b L xs) (E : lw_E l G s x4 j L) (K : lw_Go p l e s m below meth c b G h o x4 (j + 1) 1940) : lw_Go p l e s m below meth c b G h o x4 j 1488 := by
  intro Z ρ σ u H locs ls k n J
  obtain ⟨hx, hb, hr, hml, hown, hts, hX, hbl, hlocks, hgv⟩ := id C0
  obtain ⟨hst, hM, hG1, hj, hv0, hv⟩ := E
  obtain ⟨hZ, hP, hS, hl, hk, hn⟩ := J
  have hown : s.vm.findClass RL = some m.cls := hown
  have hbA : ¬ (fun q : Nat => G.1 ≤ q) b := by rw [hG1]; exact Nat.not_le.mpr hbl
  have hq0 := LZ_q hZ
  refine lv_aload_n hx hb dL_law_1488 rfl (lv_at hl 1 rfl) ?_
  obtain ⟨w3, bb, u1, he, hf, Z1, ρ1, σ1, z1, z2, z3, z4⟩ := LN_stale (t0 := G.2.2.2) hZ
  refine m_calli (k := k) (n := n) (va_runV (As := []) (rest := []) ⟨hx, hb, hml, hown, w_lawH hts⟩ (c_X6_stale l G (x_ov Z u) w3 h bb he) (cwV 0 (w_lawH hts) gL_law_X6_stale rfl rfl rfl (by decide +kernel) ⟨(Nat.le_of_ble_eq_true rfl), (Nat.le_of_ble_eq_true rfl)⟩) (m_preV (C := RX6) (T := TX6) (N := 8) (ci := 9) hM hP hS rfl (by decide) (LZ_kd (t0 := G.2.2.2) hZ)) rfl rfl hl.1 rfl (lv_room (Nat.le_of_ble_eq_true rfl)) dL_law_1489 ⟨by show k + 0 ≤ 601024; omega, by show n + 0 ≤ 7293034; omega⟩) hS ⟨Nat.le_refl _, Nat.le_refl _⟩ (fun H locs hP hS => ?_)
  rw [← z2] at hP
  have e2 : Z1.2.1 = Z.2.1 := by rw [z1]
  rw [← e2] at hl
  refine lv_aload_n hx hb dL_law_1492 rfl (lv_at hl 2 rfl) ?_
  refine m_calli (k := k) (n := n) (va_runV (As := []) (rest := [.int bb]) ⟨hx, hb, hml, hown, w_lawH hts⟩ (c_X7_stale l G Z1 z3.1 u u1  bb hf) (cwV 0 (w_lawH hts) gL_law_X7_stale rfl rfl rfl (by decide +kernel) ⟨(Nat.le_of_ble_eq_true rfl), (Nat.le_of_ble_eq_true rfl)⟩) (m_preV (C := RX7) (T := TX7) (N := 32) (ci := 10) hM hP hS rfl (by decide) z3.1.1) rfl rfl hl.1 rfl (lv_room (Nat.le_of_ble_eq_true rfl)) dL_law_1493 ⟨by show k + 0 ≤ 601024; omega, by show n + 0 ≤ 7293034; omega⟩) hS ⟨Nat.le_refl _, Nat.le_refl _⟩ (fun H locs hP hS => ?_)
  exact lv_icmp_eq (tgt := 1940) hx hb dL_law_1496 (by decide) (fun _ => K Z1 ρ1 σ1 u1 H locs ls k n ⟨z3, hP, hS, hl, by omega, by omega⟩) (fun c9 => absurd rfl c9)
set_option maxHeartbeats 4000000 in
set_option maxRecDepth 100000 in
theorem lw_c22 (C0 : lw_At p s m meth c b L xs) (E : lw_E l G s x4 j L) (K : lw_Go p l e s m below meth c b G h o x4 (j + 1) 1940) : lw_Go p l e s m below meth c b G h o x4 j 1501 := by
  intro Z ρ σ u H locs ls k n J
  obtain ⟨hx, hb, hr, hml, hown, hts, hX, hbl, hlocks, hgv⟩ := id C0
  obtain ⟨hst, hM, hG1, hj, hv0, hv⟩ := E
  obtain ⟨hZ, hP, hS, hl, hk, hn⟩ := J
  have hown : s.vm.findClass RL = some m.cls := hown
  have hbA : ¬ (fun q : Nat => G.1 ≤ q) b := by rw [hG1]; exact Nat.not_le.mpr hbl
  have hq0 := LZ_q hZ
  refine lv_aload_n hx hb dL_law_1501 rfl (lv_at hl 1 rfl) ?_
  refine lv_aload_n hx hb dL_law_1502 rfl (lv_at hl 0 rfl) ?_
  refine lv_iload hx hb dL_law_1503 (lv_at hl 4 rfl) ?_
  refine lv_iconst (v := 1) hx hb dL_law_1505 (by decide) ?_
  refine lv_iadd hx hb dL_law_1506 ?_
  refine va_sld (i := x4 + 1) hx hb hX hbl hbA hS (hv 1 (by decide)) dL_law_1507 ?_
  refine lv_aload_n hx hb dL_law_1508 rfl (lv_at hl 3 rfl) ?_
  obtain ⟨w3, bb, u1, he, hf, hcv, hall⟩ := LG_wouldBeStale (t0 := G.2.2.2) hZ ((xs (x4 + 1).toNatClampNeg))
  have hq1 : q_n σ ≤ 400 := by
    obtain ⟨Z9, ρ9, σ9, y1, y2, y3, y4⟩ := hall (m_nx w3) (Nat.le_refl _)
    exact Nat.le_trans y4 (LZ_q y3)
  refine m_calln (k := k + 1) (n := n + 6) (vx_runSW (As := [.ref h, .int (xs (x4 + 1).toNatClampNeg), .ref o]) (rest := []) ⟨hx, hb, hml, hown, w_lawH hts⟩ (c_L_wouldBeStale l hst G (x_ov Z u) w3 h ((xs (x4 + 1).toNatClampNeg)) o (u1.1 31) he) (vx_cwSW 3 (w_lawH hts) gL_law_L_wouldBeStale rfl rfl rfl (by decide +kernel) ⟨(Nat.le_of_ble_eq_true rfl), (Nat.le_of_ble_eq_true rfl)⟩) (m_preS hM hP hS) rfl rfl hl.1 rfl (lv_room (Nat.le_of_ble_eq_true rfl)) dL_law_1509 ⟨by show k + 1 ≤ 601024; omega, by show n + 6 ≤ 7293034; omega⟩) hS ⟨Nat.le_refl _, Nat.le_refl _⟩ (fun nn H locs hnn hP hS => ?_)
  obtain ⟨Z1, ρ1, σ1, z1, z2, z3, z4⟩ := hall nn hnn
  rw [← z2] at hP
  have e2 : Z1.2.1 = Z.2.1 := by rw [z1]
  rw [← e2] at hl
  refine lv_istore (lv' := [(5, .int (u1.1 31)), (0, .ref b), (1, .ref h), (2, .ref Z1.2.1), (3, .ref o), (4, .int x4)]) hx hb dL_law_1512 hl (by decide) rfl (fun ls hl => ?_)
  refine lv_aload_n hx hb dL_law_1514 rfl (lv_at hl 3 rfl) ?_
  refine lv_aload_n hx hb dL_law_1515 rfl (lv_at hl 1 rfl) ?_
  refine lv_iload hx hb dL_law_1516 (lv_at hl 5 rfl) ?_
  refine lv_iconst (v := 1) hx hb dL_law_1518 (by decide) ?_
  refine lv_iadd hx hb dL_law_1519 ?_
  refine va_sld (i := x4 + 1) hx hb hX hbl hbA hS (hv 1 (by decide)) dL_law_1520 ?_
  refine m_calli (k := k + 1) (n := n + 6) (va_runV (As := [.int (xs (x4 + 1).toNatClampNeg)]) (rest := []) ⟨hx, hb, hml, hown, w_lawH hts⟩ (c_X7_wouldBeStale l G Z1 z3.1 u u1 ((xs (x4 + 1).toNatClampNeg)) bb hf) (cwV 1 (w_lawH hts) gL_law_X7_wouldBeStale rfl rfl rfl (by decide +kernel) ⟨(Nat.le_of_ble_eq_true rfl), (Nat.le_of_ble_eq_true rfl)⟩) (m_preV (C := RX7) (T := TX7) (N := 32) (ci := 10) hM hP hS rfl (by decide) z3.1.1) rfl rfl hl.1 rfl (lv_room (Nat.le_of_ble_eq_true rfl)) dL_law_1521 ⟨by show k + 1 + 0 ≤ 601024; omega, by show n + 6 + 0 ≤ 7293034; omega⟩) hS ⟨Nat.le_refl _, Nat.le_refl _⟩ (fun H locs hP hS => ?_)
  refine lv_istore (lv' := [(6, .int bb), (5, .int (u1.1 31)), (0, .ref b), (1, .ref h), (2, .ref Z1.2.1), (3, .ref o), (4, .int x4)]) hx hb dL_law_1524 hl (by decide) rfl (fun ls hl => ?_)
  refine lv_aload_n hx hb dL_law_1526 rfl (lv_at hl 4 rfl) ?_
  refine m_calli (k := k + 1) (n := n + 6) (va_runV (As := []) (rest := []) ⟨hx, hb, hml, hown, w_lawH hts⟩ (c_X7_thrown l G Z1 z3.1 u1 u1 (u1.1 31) rfl) (cwV 0 (w_lawH hts) gL_law_X7_thrown rfl rfl rfl (by decide +kernel) ⟨(Nat.le_of_ble_eq_true rfl), (Nat.le_of_ble_eq_true rfl)⟩) (m_preV (C := RX7) (T := TX7) (N := 32) (ci := 10) hM hP hS rfl (by decide) z3.1.1) rfl rfl hl.1 rfl (lv_room (Nat.le_of_ble_eq_true rfl)) dL_law_1527 ⟨by show k + 1 + 0 ≤ 601024; omega, by show n + 6 + 0 ≤ 7293034; omega⟩) hS ⟨Nat.le_refl _, Nat.le_refl _⟩ (fun H locs hP hS => ?_)
  refine lv_iload hx hb dL_law_1530 (lv_at hl 1 rfl) ?_
  refine lv_icmp_eq (tgt := 1537) hx hb dL_law_1532 (by decide) (fun _ => ?_) (fun c9 => absurd rfl c9)
  have fin : ∀ ls : Array Slot, lv_has ls 7 [(6, .int bb), (5, .int (u1.1 31)), (0, .ref b), (1, .ref h), (2, .ref Z1.2.1), (3, .ref o), (4, .int x4)] → W p l e room_1 s m #[Value.ref b] below meth c H locs (k + 1) (n + 6) (lw_Z below #[Value.ref b] s) (F0 m 1940 ls []) := fun ls hl => K Z1 ρ1 σ1 u1 H locs ls (k + 1) (n + 6) ⟨z3, hP, hS, lv_sub hl [2, 3, 4, 5, 6] rfl, by omega, by omega⟩
  refine lv_iload hx hb dL_law_1537 (lv_at hl 1 rfl) ?_
  refine lv_if_ne (tgt := 1554) hx hb dL_law_1539 (by decide) (fun _ => lv_goto (tgt := 1940) hx hb dL_law_1554 (by decide) (fin ls hl)) (fun c8 => ?_)
  have e9 : m_la (x_ov Z1 u1) o (0 : Int32).toNatClampNeg = cvI bb := by
    rw [← hcv c8]
    show m_la (x_ov Z1 u) o _ = m_la w3 o _
    rw [z2]
    rfl
  refine lv_aload_n hx hb dL_law_1542 rfl (lv_at hl 5 rfl) ?_
  refine lv_iconst (v := 0) hx hb dL_law_1543 (by decide) ?_
  refine m_lald hx hb hM.1 hP (LZ_o z3 u1) dL_law_1544 ?_
  rw [e9]
  refine lv_iload hx hb dL_law_1545 (lv_at hl 0 rfl) ?_
  refine lv_i2l (v := cvI bb) hx hb dL_law_1547 rfl ?_
  refine W.lcmp hx hb dL_law_1548 ?_
  exact lv_if_eq (tgt := 1554) hx hb dL_law_1549 (by decide) (fun _ => lv_goto (tgt := 1940) hx hb dL_law_1554 (by decide) (fin ls hl)) (fun c6 => absurd (lg_cmp_self _) c6)
set_option maxHeartbeats 4000000 in
set_option maxRecDepth 100000 in
theorem lw_c23 (C0 : lw_At p s m meth c b L xs) (E : lw_E l G s x4 j L) (K : lw_Go p l e s m below meth c b G h o x4 (j + 1) 1940) : lw_Go p l e s m below meth c b G h o x4 j 1557 := by
  intro Z ρ σ u H locs ls k n J
  obtain ⟨hx, hb, hr, hml, hown, hts, hX, hbl, hlocks, hgv⟩ := id C0
  obtain ⟨hst, hM, hG1, hj, hv0, hv⟩ := E
  obtain ⟨hZ, hP, hS, hl, hk, hn⟩ := J
  have hown : s.vm.findClass RL = some m.cls := hown
  have hbA : ¬ (fun q : Nat => G.1 ≤ q) b := by rw [hG1]; exact Nat.not_le.mpr hbl
  have hq0 := LZ_q hZ
  refine lv_aload_n hx hb dL_law_1557 rfl (lv_at hl 1 rfl) ?_
  refine lv_aload_n hx hb dL_law_1558 rfl (lv_at hl 3 rfl) ?_
  obtain ⟨w3, bb, u1, he, hf, hcv, hall⟩ := LG_keep (t0 := G.2.2.2) hZ 
  have hq1 : q_n σ ≤ 400 := by
    obtain ⟨Z9, ρ9, σ9, y1, y2, y3, y4⟩ := hall (m_nx w3) (Nat.le_refl _)
    exact Nat.le_trans y4 (LZ_q y3)
  refine m_calln (k := k + 6) (n := n + 636) (vx_runSW (As := [.ref h, .ref o]) (rest := []) ⟨hx, hb, hml, hown, w_lawH hts⟩ (c_L_keep l hst G (x_ov Z u) w3 h  o (u1.1 31) he) (vx_cwSW 2 (w_lawH hts) gL_law_L_keep rfl rfl rfl (by decide +kernel) ⟨(Nat.le_of_ble_eq_true rfl), (Nat.le_of_ble_eq_true rfl)⟩) (m_preS hM hP hS) rfl rfl hl.1 rfl (lv_room (Nat.le_of_ble_eq_true rfl)) dL_law_1559 ⟨by show k + 6 ≤ 601024; omega, by show n + 636 ≤ 7293034; omega⟩) hS ⟨Nat.le_refl _, Nat.le_refl _⟩ (fun nn H locs hnn hP hS => ?_)
  obtain ⟨Z1, ρ1, σ1, z1, z2, z3, z4⟩ := hall nn hnn
  rw [← z2] at hP
  have e2 : Z1.2.1 = Z.2.1 := by rw [z1]
  rw [← e2] at hl
  refine lv_istore (lv' := [(5, .int (u1.1 31)), (0, .ref b), (1, .ref h), (2, .ref Z1.2.1), (3, .ref o), (4, .int x4)]) hx hb dL_law_1562 hl (by decide) rfl (fun ls hl => ?_)
  refine lv_aload_n hx hb dL_law_1564 rfl (lv_at hl 3 rfl) ?_
  refine m_calli (k := k + 6) (n := n + 636) (va_runV (As := []) (rest := []) ⟨hx, hb, hml, hown, w_lawH hts⟩ (c_X7_keep l G Z1 z3.1 u u1  bb hf) (cwV 0 (w_lawH hts) gL_law_X7_keep rfl rfl rfl (by decide +kernel) ⟨(Nat.le_of_ble_eq_true rfl), (Nat.le_of_ble_eq_true rfl)⟩) (m_preV (C := RX7) (T := TX7) (N := 32) (ci := 10) hM hP hS rfl (by decide) z3.1.1) rfl rfl hl.1 rfl (lv_room (Nat.le_of_ble_eq_true rfl)) dL_law_1565 ⟨by show k + 6 + 0 ≤ 601024; omega, by show n + 636 + 0 ≤ 7293034; omega⟩) hS ⟨Nat.le_refl _, Nat.le_refl _⟩ (fun H locs hP hS => ?_)
  refine lv_istore (lv' := [(6, .int bb), (5, .int (u1.1 31)), (0, .ref b), (1, .ref h), (2, .ref Z1.2.1), (3, .ref o), (4, .int x4)]) hx hb dL_law_1568 hl (by decide) rfl (fun ls hl => ?_)
  refine lv_aload_n hx hb dL_law_1570 rfl (lv_at hl 4 rfl) ?_
  refine m_calli (k := k + 6) (n := n + 636) (va_runV (As := []) (rest := []) ⟨hx, hb, hml, hown, w_lawH hts⟩ (c_X7_thrown l G Z1 z3.1 u1 u1 (u1.1 31) rfl) (cwV 0 (w_lawH hts) gL_law_X7_thrown rfl rfl rfl (by decide +kernel) ⟨(Nat.le_of_ble_eq_true rfl), (Nat.le_of_ble_eq_true rfl)⟩) (m_preV (C := RX7) (T := TX7) (N := 32) (ci := 10) hM hP hS rfl (by decide) z3.1.1) rfl rfl hl.1 rfl (lv_room (Nat.le_of_ble_eq_true rfl)) dL_law_1571 ⟨by show k + 6 + 0 ≤ 601024; omega, by show n + 636 + 0 ≤ 7293034; omega⟩) hS ⟨Nat.le_refl _, Nat.le_refl _⟩ (fun H locs hP hS => ?_)
  refine lv_iload hx hb dL_law_1574 (lv_at hl 1 rfl) ?_
  refine lv_icmp_eq (tgt := 1581) hx hb dL_law_1576 (by decide) (fun _ => ?_) (fun c9 => absurd rfl c9)
  have fin : ∀ ls : Array Slot, lv_has ls 7 [(6, .int bb), (5, .int (u1.1 31)), (0, .ref b), (1, .ref h), (2, .ref Z1.2.1), (3, .ref o), (4, .int x4)] → W p l e room_1 s m #[Value.ref b] below meth c H locs (k + 6) (n + 636) (lw_Z below #[Value.ref b] s) (F0 m 1940 ls []) := fun ls hl => K Z1 ρ1 σ1 u1 H locs ls (k + 6) (n + 636) ⟨z3, hP, hS, lv_sub hl [2, 3, 4, 5, 6] rfl, by omega, by omega⟩
  refine lv_iload hx hb dL_law_1581 (lv_at hl 1 rfl) ?_
  refine lv_if_ne (tgt := 1598) hx hb dL_law_1583 (by decide) (fun _ => lv_goto (tgt := 1940) hx hb dL_law_1598 (by decide) (fin ls hl)) (fun c8 => ?_)
  have e9 : m_la (x_ov Z1 u1) o (0 : Int32).toNatClampNeg = cvI bb := by
    rw [← hcv c8]
    show m_la (x_ov Z1 u) o _ = m_la w3 o _
    rw [z2]
    rfl
  refine lv_aload_n hx hb dL_law_1586 rfl (lv_at hl 5 rfl) ?_
  refine lv_iconst (v := 0) hx hb dL_law_1587 (by decide) ?_
  refine m_lald hx hb hM.1 hP (LZ_o z3 u1) dL_law_1588 ?_
  rw [e9]
  refine lv_iload hx hb dL_law_1589 (lv_at hl 0 rfl) ?_
  refine lv_i2l (v := cvI bb) hx hb dL_law_1591 rfl ?_
  refine W.lcmp hx hb dL_law_1592 ?_
  exact lv_if_eq (tgt := 1598) hx hb dL_law_1593 (by decide) (fun _ => lv_goto (tgt := 1940) hx hb dL_law_1598 (by decide) (fin ls hl)) (fun c6 => absurd (lg_cmp_self _) c6)
set_option maxHeartbeats 4000000 in
set_option maxRecDepth 100000 in
theorem lw_c24 (C0 : lw_At p s m meth c b L xs) (E : lw_E l G s x4 j L) (K : lw_Go p l e s m below meth c b G h o x4 (j + 1) 1940) : lw_Go p l e s m below meth c b G h o x4 j 1601 := by
  intro Z ρ σ u H locs ls k n J
  obtain ⟨hx, hb, hr, hml, hown, hts, hX, hbl, hlocks, hgv⟩ := id C0
  obtain ⟨hst, hM, hG1, hj, hv0, hv⟩ := E
  obtain ⟨hZ, hP, hS, hl, hk, hn⟩ := J
  have hown : s.vm.findClass RL = some m.cls := hown
  have hbA : ¬ (fun q : Nat => G.1 ≤ q) b := by rw [hG1]; exact Nat.not_le.mpr hbl
  have hq0 := LZ_q hZ
  refine lv_aload_n hx hb dL_law_1601 rfl (lv_at hl 1 rfl) ?_
  refine lv_aload_n hx hb dL_law_1602 rfl (lv_at hl 0 rfl) ?_
  refine lv_iload hx hb dL_law_1603 (lv_at hl 4 rfl) ?_
  refine lv_iconst (v := 1) hx hb dL_law_1605 (by decide) ?_
  refine lv_iadd hx hb dL_law_1606 ?_
  refine va_sld (i := x4 + 1) hx hb hX hbl hbA hS (hv 1 (by decide)) dL_law_1607 ?_
  refine lv_aload_n hx hb dL_law_1608 rfl (lv_at hl 3 rfl) ?_
  obtain ⟨w3, bb, u1, he, hf, hcv, hall⟩ := LG_restore (t0 := G.2.2.2) hZ ((xs (x4 + 1).toNatClampNeg))
  have hq1 : q_n σ ≤ 400 := by
    obtain ⟨Z9, ρ9, σ9, y1, y2, y3, y4⟩ := hall (m_nx w3) (Nat.le_refl _)
    exact Nat.le_trans y4 (LZ_q y3)
  refine m_calln (k := k + 1) (n := n + 6) (vx_runSW (As := [.ref h, .int (xs (x4 + 1).toNatClampNeg), .ref o]) (rest := []) ⟨hx, hb, hml, hown, w_lawH hts⟩ (c_L_restore l hst G (x_ov Z u) w3 h ((xs (x4 + 1).toNatClampNeg)) o (u1.1 31) he) (vx_cwSW 3 (w_lawH hts) gL_law_L_restore rfl rfl rfl (by decide +kernel) ⟨(Nat.le_of_ble_eq_true rfl), (Nat.le_of_ble_eq_true rfl)⟩) (m_preS hM hP hS) rfl rfl hl.1 rfl (lv_room (Nat.le_of_ble_eq_true rfl)) dL_law_1609 ⟨by show k + 1 ≤ 601024; omega, by show n + 6 ≤ 7293034; omega⟩) hS ⟨Nat.le_refl _, Nat.le_refl _⟩ (fun nn H locs hnn hP hS => ?_)
  obtain ⟨Z1, ρ1, σ1, z1, z2, z3, z4⟩ := hall nn hnn
  rw [← z2] at hP
  have e2 : Z1.2.1 = Z.2.1 := by rw [z1]
  rw [← e2] at hl
  refine lv_istore (lv' := [(5, .int (u1.1 31)), (0, .ref b), (1, .ref h), (2, .ref Z1.2.1), (3, .ref o), (4, .int x4)]) hx hb dL_law_1612 hl (by decide) rfl (fun ls hl => ?_)
  refine lv_aload_n hx hb dL_law_1614 rfl (lv_at hl 3 rfl) ?_
  refine lv_aload_n hx hb dL_law_1615 rfl (lv_at hl 1 rfl) ?_
  refine lv_iload hx hb dL_law_1616 (lv_at hl 5 rfl) ?_
  refine lv_iconst (v := 1) hx hb dL_law_1618 (by decide) ?_
  refine lv_iadd hx hb dL_law_1619 ?_
  refine va_sld (i := x4 + 1) hx hb hX hbl hbA hS (hv 1 (by decide)) dL_law_1620 ?_
  refine m_calli (k := k + 1) (n := n + 6) (va_runV (As := [.int (xs (x4 + 1).toNatClampNeg)]) (rest := []) ⟨hx, hb, hml, hown, w_lawH hts⟩ (c_X7_restore l G Z1 z3.1 u u1 ((xs (x4 + 1).toNatClampNeg)) bb hf) (cwV 1 (w_lawH hts) gL_law_X7_restore rfl rfl rfl (by decide +kernel) ⟨(Nat.le_of_ble_eq_true rfl), (Nat.le_of_ble_eq_true rfl)⟩) (m_preV (C := RX7) (T := TX7) (N := 32) (ci := 10) hM hP hS rfl (by decide) z3.1.1) rfl rfl hl.1 rfl (lv_room (Nat.le_of_ble_eq_true rfl)) dL_law_1621 ⟨by show k + 1 + 0 ≤ 601024; omega, by show n + 6 + 0 ≤ 7293034; omega⟩) hS ⟨Nat.le_refl _, Nat.le_refl _⟩ (fun H locs hP hS => ?_)
  refine lv_istore (lv' := [(6, .int bb), (5, .int (u1.1 31)), (0, .ref b), (1, .ref h), (2, .ref Z1.2.1), (3, .ref o), (4, .int x4)]) hx hb dL_law_1624 hl (by decide) rfl (fun ls hl => ?_)
  refine lv_aload_n hx hb dL_law_1626 rfl (lv_at hl 4 rfl) ?_
  refine m_calli (k := k + 1) (n := n + 6) (va_runV (As := []) (rest := []) ⟨hx, hb, hml, hown, w_lawH hts⟩ (c_X7_thrown l G Z1 z3.1 u1 u1 (u1.1 31) rfl) (cwV 0 (w_lawH hts) gL_law_X7_thrown rfl rfl rfl (by decide +kernel) ⟨(Nat.le_of_ble_eq_true rfl), (Nat.le_of_ble_eq_true rfl)⟩) (m_preV (C := RX7) (T := TX7) (N := 32) (ci := 10) hM hP hS rfl (by decide) z3.1.1) rfl rfl hl.1 rfl (lv_room (Nat.le_of_ble_eq_true rfl)) dL_law_1627 ⟨by show k + 1 + 0 ≤ 601024; omega, by show n + 6 + 0 ≤ 7293034; omega⟩) hS ⟨Nat.le_refl _, Nat.le_refl _⟩ (fun H locs hP hS => ?_)
  refine lv_iload hx hb dL_law_1630 (lv_at hl 1 rfl) ?_
  refine lv_icmp_eq (tgt := 1637) hx hb dL_law_1632 (by decide) (fun _ => ?_) (fun c9 => absurd rfl c9)
  have fin : ∀ ls : Array Slot, lv_has ls 7 [(6, .int bb), (5, .int (u1.1 31)), (0, .ref b), (1, .ref h), (2, .ref Z1.2.1), (3, .ref o), (4, .int x4)] → W p l e room_1 s m #[Value.ref b] below meth c H locs (k + 1) (n + 6) (lw_Z below #[Value.ref b] s) (F0 m 1940 ls []) := fun ls hl => K Z1 ρ1 σ1 u1 H locs ls (k + 1) (n + 6) ⟨z3, hP, hS, lv_sub hl [2, 3, 4, 5, 6] rfl, by omega, by omega⟩
  refine lv_iload hx hb dL_law_1637 (lv_at hl 1 rfl) ?_
  refine lv_if_ne (tgt := 1654) hx hb dL_law_1639 (by decide) (fun _ => lv_goto (tgt := 1940) hx hb dL_law_1654 (by decide) (fin ls hl)) (fun c8 => ?_)
  have e9 : m_la (x_ov Z1 u1) o (0 : Int32).toNatClampNeg = cvI bb := by
    rw [← hcv c8]
    show m_la (x_ov Z1 u) o _ = m_la w3 o _
    rw [z2]
    rfl
  refine lv_aload_n hx hb dL_law_1642 rfl (lv_at hl 5 rfl) ?_
  refine lv_iconst (v := 0) hx hb dL_law_1643 (by decide) ?_
  refine m_lald hx hb hM.1 hP (LZ_o z3 u1) dL_law_1644 ?_
  rw [e9]
  refine lv_iload hx hb dL_law_1645 (lv_at hl 0 rfl) ?_
  refine lv_i2l (v := cvI bb) hx hb dL_law_1647 rfl ?_
  refine W.lcmp hx hb dL_law_1648 ?_
  exact lv_if_eq (tgt := 1654) hx hb dL_law_1649 (by decide) (fun _ => lv_goto (tgt := 1940) hx hb dL_law_1654 (by decide) (fin ls hl)) (fun c6 => absurd (lg_cmp_self _) c6)
set_option maxHeartbeats 4000000 in
set_option maxRecDepth 100000 in
theorem lw_c25 (C0 : lw_At p s m meth c b L xs) (E : lw_E l G s x4 j L) (K : lw_Go p l e s m below meth c b G h o x4 (j + 1) 1940) : lw_Go p l e s m below meth c b G h o x4 j 1657 := by
  intro Z ρ σ u H locs ls k n J
  obtain ⟨hx, hb, hr, hml, hown, hts, hX, hbl, hlocks, hgv⟩ := id C0
  obtain ⟨hst, hM, hG1, hj, hv0, hv⟩ := E
  obtain ⟨hZ, hP, hS, hl, hk, hn⟩ := J
  have hown : s.vm.findClass RL = some m.cls := hown
  have hbA : ¬ (fun q : Nat => G.1 ≤ q) b := by rw [hG1]; exact Nat.not_le.mpr hbl
  have hq0 := LZ_q hZ
  refine lv_aload_n hx hb dL_law_1657 rfl (lv_at hl 1 rfl) ?_
  obtain ⟨w3, bb, u1, he, hf, Z1, ρ1, σ1, z1, z2, z3, z4⟩ := LN_end (t0 := G.2.2.2) hZ
  refine m_calli (k := k) (n := n) (va_runV (As := []) (rest := []) ⟨hx, hb, hml, hown, w_lawH hts⟩ (c_X6_end l G (x_ov Z u) w3 h bb he) (cwV 0 (w_lawH hts) gL_law_X6_end rfl rfl rfl (by decide +kernel) ⟨(Nat.le_of_ble_eq_true rfl), (Nat.le_of_ble_eq_true rfl)⟩) (m_preV (C := RX6) (T := TX6) (N := 8) (ci := 9) hM hP hS rfl (by decide) (LZ_kd (t0 := G.2.2.2) hZ)) rfl rfl hl.1 rfl (lv_room (Nat.le_of_ble_eq_true rfl)) dL_law_1658 ⟨by show k + 0 ≤ 601024; omega, by show n + 0 ≤ 7293034; omega⟩) hS ⟨Nat.le_refl _, Nat.le_refl _⟩ (fun H locs hP hS => ?_)
  rw [← z2] at hP
  have e2 : Z1.2.1 = Z.2.1 := by rw [z1]
  rw [← e2] at hl
  refine lv_aload_n hx hb dL_law_1661 rfl (lv_at hl 2 rfl) ?_
  refine m_calli (k := k) (n := n) (va_runV (As := []) (rest := [.int bb]) ⟨hx, hb, hml, hown, w_lawH hts⟩ (c_X7_end l G Z1 z3.1 u u1  bb hf) (cwV 0 (w_lawH hts) gL_law_X7_end rfl rfl rfl (by decide +kernel) ⟨(Nat.le_of_ble_eq_true rfl), (Nat.le_of_ble_eq_true rfl)⟩) (m_preV (C := RX7) (T := TX7) (N := 32) (ci := 10) hM hP hS rfl (by decide) z3.1.1) rfl rfl hl.1 rfl (lv_room (Nat.le_of_ble_eq_true rfl)) dL_law_1662 ⟨by show k + 0 ≤ 601024; omega, by show n + 0 ≤ 7293034; omega⟩) hS ⟨Nat.le_refl _, Nat.le_refl _⟩ (fun H locs hP hS => ?_)
  exact lv_icmp_eq (tgt := 1940) hx hb dL_law_1665 (by decide) (fun _ => K Z1 ρ1 σ1 u1 H locs ls k n ⟨z3, hP, hS, hl, by omega, by omega⟩) (fun c9 => absurd rfl c9)
set_option maxHeartbeats 4000000 in
set_option maxRecDepth 100000 in
theorem lw_c26 (C0 : lw_At p s m meth c b L xs) (E : lw_E l G s x4 j L) (K : lw_Go p l e s m below meth c b G h o x4 (j + 1) 1940) : lw_Go p l e s m below meth c b G h o x4 j 1670 := by
  intro Z ρ σ u H locs ls k n J
  obtain ⟨hx, hb, hr, hml, hown, hts, hX, hbl, hlocks, hgv⟩ := id C0
  obtain ⟨hst, hM, hG1, hj, hv0, hv⟩ := E
  obtain ⟨hZ, hP, hS, hl, hk, hn⟩ := J
  have hown : s.vm.findClass RL = some m.cls := hown
  have hbA : ¬ (fun q : Nat => G.1 ≤ q) b := by rw [hG1]; exact Nat.not_le.mpr hbl
  have hq0 := LZ_q hZ
  refine lv_aload_n hx hb dL_law_1670 rfl (lv_at hl 1 rfl) ?_
  refine lv_aload_n hx hb dL_law_1671 rfl (lv_at hl 0 rfl) ?_
  refine lv_iload hx hb dL_law_1672 (lv_at hl 4 rfl) ?_
  refine lv_iconst (v := 1) hx hb dL_law_1674 (by decide) ?_
  refine lv_iadd hx hb dL_law_1675 ?_
  refine va_sld (i := x4 + 1) hx hb hX hbl hbA hS (hv 1 (by decide)) dL_law_1676 ?_
  refine lv_aload_n hx hb dL_law_1677 rfl (lv_at hl 3 rfl) ?_
  obtain ⟨w3, bb, u1, he, hf, hcv, hall⟩ := LG_isSetInOrder (t0 := G.2.2.2) hZ ((xs (x4 + 1).toNatClampNeg))
  have hq1 : q_n σ ≤ 400 := by
    obtain ⟨Z9, ρ9, σ9, y1, y2, y3, y4⟩ := hall (m_nx w3) (Nat.le_refl _)
    exact Nat.le_trans y4 (LZ_q y3)
  refine m_calln (k := k + 1) (n := n + 6) (vx_runSW (As := [.ref h, .int (xs (x4 + 1).toNatClampNeg), .ref o]) (rest := []) ⟨hx, hb, hml, hown, w_lawH hts⟩ (c_L_isSetInOrder l hst G (x_ov Z u) w3 h ((xs (x4 + 1).toNatClampNeg)) o (u1.1 31) he) (vx_cwSW 3 (w_lawH hts) gL_law_L_isSetInOrder rfl rfl rfl (by decide +kernel) ⟨(Nat.le_of_ble_eq_true rfl), (Nat.le_of_ble_eq_true rfl)⟩) (m_preS hM hP hS) rfl rfl hl.1 rfl (lv_room (Nat.le_of_ble_eq_true rfl)) dL_law_1678 ⟨by show k + 1 ≤ 601024; omega, by show n + 6 ≤ 7293034; omega⟩) hS ⟨Nat.le_refl _, Nat.le_refl _⟩ (fun nn H locs hnn hP hS => ?_)
  obtain ⟨Z1, ρ1, σ1, z1, z2, z3, z4⟩ := hall nn hnn
  rw [← z2] at hP
  have e2 : Z1.2.1 = Z.2.1 := by rw [z1]
  rw [← e2] at hl
  refine lv_istore (lv' := [(5, .int (u1.1 31)), (0, .ref b), (1, .ref h), (2, .ref Z1.2.1), (3, .ref o), (4, .int x4)]) hx hb dL_law_1681 hl (by decide) rfl (fun ls hl => ?_)
  refine lv_aload_n hx hb dL_law_1683 rfl (lv_at hl 3 rfl) ?_
  refine lv_aload_n hx hb dL_law_1684 rfl (lv_at hl 1 rfl) ?_
  refine lv_iload hx hb dL_law_1685 (lv_at hl 5 rfl) ?_
  refine lv_iconst (v := 1) hx hb dL_law_1687 (by decide) ?_
  refine lv_iadd hx hb dL_law_1688 ?_
  refine va_sld (i := x4 + 1) hx hb hX hbl hbA hS (hv 1 (by decide)) dL_law_1689 ?_
  refine m_calli (k := k + 1) (n := n + 6) (va_runV (As := [.int (xs (x4 + 1).toNatClampNeg)]) (rest := []) ⟨hx, hb, hml, hown, w_lawH hts⟩ (c_X7_isSetInOrder l G Z1 z3.1 u u1 ((xs (x4 + 1).toNatClampNeg)) bb hf) (cwV 1 (w_lawH hts) gL_law_X7_isSetInOrder rfl rfl rfl (by decide +kernel) ⟨(Nat.le_of_ble_eq_true rfl), (Nat.le_of_ble_eq_true rfl)⟩) (m_preV (C := RX7) (T := TX7) (N := 32) (ci := 10) hM hP hS rfl (by decide) z3.1.1) rfl rfl hl.1 rfl (lv_room (Nat.le_of_ble_eq_true rfl)) dL_law_1690 ⟨by show k + 1 + 0 ≤ 601024; omega, by show n + 6 + 0 ≤ 7293034; omega⟩) hS ⟨Nat.le_refl _, Nat.le_refl _⟩ (fun H locs hP hS => ?_)
  refine lv_istore (lv' := [(6, .int bb), (5, .int (u1.1 31)), (0, .ref b), (1, .ref h), (2, .ref Z1.2.1), (3, .ref o), (4, .int x4)]) hx hb dL_law_1693 hl (by decide) rfl (fun ls hl => ?_)
  refine lv_aload_n hx hb dL_law_1695 rfl (lv_at hl 4 rfl) ?_
  refine m_calli (k := k + 1) (n := n + 6) (va_runV (As := []) (rest := []) ⟨hx, hb, hml, hown, w_lawH hts⟩ (c_X7_thrown l G Z1 z3.1 u1 u1 (u1.1 31) rfl) (cwV 0 (w_lawH hts) gL_law_X7_thrown rfl rfl rfl (by decide +kernel) ⟨(Nat.le_of_ble_eq_true rfl), (Nat.le_of_ble_eq_true rfl)⟩) (m_preV (C := RX7) (T := TX7) (N := 32) (ci := 10) hM hP hS rfl (by decide) z3.1.1) rfl rfl hl.1 rfl (lv_room (Nat.le_of_ble_eq_true rfl)) dL_law_1696 ⟨by show k + 1 + 0 ≤ 601024; omega, by show n + 6 + 0 ≤ 7293034; omega⟩) hS ⟨Nat.le_refl _, Nat.le_refl _⟩ (fun H locs hP hS => ?_)
  refine lv_iload hx hb dL_law_1699 (lv_at hl 1 rfl) ?_
  refine lv_icmp_eq (tgt := 1706) hx hb dL_law_1701 (by decide) (fun _ => ?_) (fun c9 => absurd rfl c9)
  have fin : ∀ ls : Array Slot, lv_has ls 7 [(6, .int bb), (5, .int (u1.1 31)), (0, .ref b), (1, .ref h), (2, .ref Z1.2.1), (3, .ref o), (4, .int x4)] → W p l e room_1 s m #[Value.ref b] below meth c H locs (k + 1) (n + 6) (lw_Z below #[Value.ref b] s) (F0 m 1940 ls []) := fun ls hl => K Z1 ρ1 σ1 u1 H locs ls (k + 1) (n + 6) ⟨z3, hP, hS, lv_sub hl [2, 3, 4, 5, 6] rfl, by omega, by omega⟩
  refine lv_iload hx hb dL_law_1706 (lv_at hl 1 rfl) ?_
  refine lv_if_ne (tgt := 1730) hx hb dL_law_1708 (by decide) (fun _ => lv_goto (tgt := 1940) hx hb dL_law_1730 (by decide) (fin ls hl)) (fun c8 => ?_)
  have e9 : m_la (x_ov Z1 u1) o (0 : Int32).toNatClampNeg = cvB bb := by
    rw [← hcv c8]
    show m_la (x_ov Z1 u) o _ = m_la w3 o _
    rw [z2]
    rfl
  refine lv_aload_n hx hb dL_law_1711 rfl (lv_at hl 5 rfl) ?_
  refine lv_iconst (v := 0) hx hb dL_law_1712 (by decide) ?_
  refine m_lald hx hb hM.1 hP (LZ_o z3 u1) dL_law_1713 ?_
  rw [e9]
  refine lv_iload hx hb dL_law_1714 (lv_at hl 0 rfl) ?_
  refine lv_if_eq (tgt := 1723) hx hb dL_law_1716 (by decide) (fun c7 => ?_) (fun c7 => ?_)
  · rw [show cvB bb = 0 from if_pos c7]
    refine lv_lconst (v := 0) hx hb dL_law_1723 (by decide) ?_
    refine W.lcmp hx hb dL_law_1724 ?_
    exact lv_if_eq (tgt := 1730) hx hb dL_law_1725 (by decide) (fun _ => lv_goto (tgt := 1940) hx hb dL_law_1730 (by decide) (fin ls hl)) (fun c6 => absurd (lg_cmp_self _) c6)
  · rw [show cvB bb = 1 from if_neg c7]
    refine lv_lconst (v := 1) hx hb dL_law_1719 (by decide) ?_
    refine lv_goto (tgt := 1724) hx hb dL_law_1720 (by decide) ?_
    refine W.lcmp hx hb dL_law_1724 ?_
    exact lv_if_eq (tgt := 1730) hx hb dL_law_1725 (by decide) (fun _ => lv_goto (tgt := 1940) hx hb dL_law_1730 (by decide) (fin ls hl)) (fun c6 => absurd (lg_cmp_self _) c6)
set_option maxHeartbeats 4000000 in
set_option maxRecDepth 100000 in
theorem lw_c27 (C0 : lw_At p s m meth c b L xs) (E : lw_E l G s x4 j L) (K : lw_Go p l e s m below meth c b G h o x4 (j + 1) 1940) : lw_Go p l e s m below meth c b G h o x4 j 1733 := by
  intro Z ρ σ u H locs ls k n J
  obtain ⟨hx, hb, hr, hml, hown, hts, hX, hbl, hlocks, hgv⟩ := id C0
  obtain ⟨hst, hM, hG1, hj, hv0, hv⟩ := E
  obtain ⟨hZ, hP, hS, hl, hk, hn⟩ := J
  have hown : s.vm.findClass RL = some m.cls := hown
  have hbA : ¬ (fun q : Nat => G.1 ≤ q) b := by rw [hG1]; exact Nat.not_le.mpr hbl
  have hq0 := LZ_q hZ
  refine lv_aload_n hx hb dL_law_1733 rfl (lv_at hl 1 rfl) ?_
  refine lv_aload_n hx hb dL_law_1734 rfl (lv_at hl 0 rfl) ?_
  refine lv_iload hx hb dL_law_1735 (lv_at hl 4 rfl) ?_
  refine lv_iconst (v := 1) hx hb dL_law_1737 (by decide) ?_
  refine lv_iadd hx hb dL_law_1738 ?_
  refine va_sld (i := x4 + 1) hx hb hX hbl hbA hS (hv 1 (by decide)) dL_law_1739 ?_
  refine lv_aload_n hx hb dL_law_1740 rfl (lv_at hl 3 rfl) ?_
  obtain ⟨w3, bb, u1, he, hf, hcv, hall⟩ := LG_valueInOrder (t0 := G.2.2.2) hZ ((xs (x4 + 1).toNatClampNeg))
  have hq1 : q_n σ ≤ 400 := by
    obtain ⟨Z9, ρ9, σ9, y1, y2, y3, y4⟩ := hall (m_nx w3) (Nat.le_refl _)
    exact Nat.le_trans y4 (LZ_q y3)
  refine m_calln (k := k + 2) (n := n + 12) (vx_runSW (As := [.ref h, .int (xs (x4 + 1).toNatClampNeg), .ref o]) (rest := []) ⟨hx, hb, hml, hown, w_lawH hts⟩ (c_L_valueInOrder l hst G (x_ov Z u) w3 h ((xs (x4 + 1).toNatClampNeg)) o (u1.1 31) he) (vx_cwSW 3 (w_lawH hts) gL_law_L_valueInOrder rfl rfl rfl (by decide +kernel) ⟨(Nat.le_of_ble_eq_true rfl), (Nat.le_of_ble_eq_true rfl)⟩) (m_preS hM hP hS) rfl rfl hl.1 rfl (lv_room (Nat.le_of_ble_eq_true rfl)) dL_law_1741 ⟨by show k + 2 ≤ 601024; omega, by show n + 12 ≤ 7293034; omega⟩) hS ⟨Nat.le_refl _, Nat.le_refl _⟩ (fun nn H locs hnn hP hS => ?_)
  obtain ⟨Z1, ρ1, σ1, z1, z2, z3, z4⟩ := hall nn hnn
  rw [← z2] at hP
  have e2 : Z1.2.1 = Z.2.1 := by rw [z1]
  rw [← e2] at hl
  refine lv_istore (lv' := [(5, .int (u1.1 31)), (0, .ref b), (1, .ref h), (2, .ref Z1.2.1), (3, .ref o), (4, .int x4)]) hx hb dL_law_1744 hl (by decide) rfl (fun ls hl => ?_)
  refine lv_aload_n hx hb dL_law_1746 rfl (lv_at hl 3 rfl) ?_
  refine lv_aload_n hx hb dL_law_1747 rfl (lv_at hl 1 rfl) ?_
  refine lv_iload hx hb dL_law_1748 (lv_at hl 5 rfl) ?_
  refine lv_iconst (v := 1) hx hb dL_law_1750 (by decide) ?_
  refine lv_iadd hx hb dL_law_1751 ?_
  refine va_sld (i := x4 + 1) hx hb hX hbl hbA hS (hv 1 (by decide)) dL_law_1752 ?_
  refine m_calli (k := k + 2) (n := n + 12) (va_runV (As := [.int (xs (x4 + 1).toNatClampNeg)]) (rest := []) ⟨hx, hb, hml, hown, w_lawH hts⟩ (c_X7_valueInOrder l G Z1 z3.1 u u1 ((xs (x4 + 1).toNatClampNeg)) bb hf) (cwV 1 (w_lawH hts) gL_law_X7_valueInOrder rfl rfl rfl (by decide +kernel) ⟨(Nat.le_of_ble_eq_true rfl), (Nat.le_of_ble_eq_true rfl)⟩) (m_preV (C := RX7) (T := TX7) (N := 32) (ci := 10) hM hP hS rfl (by decide) z3.1.1) rfl rfl hl.1 rfl (lv_room (Nat.le_of_ble_eq_true rfl)) dL_law_1753 ⟨by show k + 2 + 0 ≤ 601024; omega, by show n + 12 + 0 ≤ 7293034; omega⟩) hS ⟨Nat.le_refl _, Nat.le_refl _⟩ (fun H locs hP hS => ?_)
  refine lv_istore (lv' := [(6, .int bb), (5, .int (u1.1 31)), (0, .ref b), (1, .ref h), (2, .ref Z1.2.1), (3, .ref o), (4, .int x4)]) hx hb dL_law_1756 hl (by decide) rfl (fun ls hl => ?_)
  refine lv_aload_n hx hb dL_law_1758 rfl (lv_at hl 4 rfl) ?_
  refine m_calli (k := k + 2) (n := n + 12) (va_runV (As := []) (rest := []) ⟨hx, hb, hml, hown, w_lawH hts⟩ (c_X7_thrown l G Z1 z3.1 u1 u1 (u1.1 31) rfl) (cwV 0 (w_lawH hts) gL_law_X7_thrown rfl rfl rfl (by decide +kernel) ⟨(Nat.le_of_ble_eq_true rfl), (Nat.le_of_ble_eq_true rfl)⟩) (m_preV (C := RX7) (T := TX7) (N := 32) (ci := 10) hM hP hS rfl (by decide) z3.1.1) rfl rfl hl.1 rfl (lv_room (Nat.le_of_ble_eq_true rfl)) dL_law_1759 ⟨by show k + 2 + 0 ≤ 601024; omega, by show n + 12 + 0 ≤ 7293034; omega⟩) hS ⟨Nat.le_refl _, Nat.le_refl _⟩ (fun H locs hP hS => ?_)
  refine lv_iload hx hb dL_law_1762 (lv_at hl 1 rfl) ?_
  refine lv_icmp_eq (tgt := 1769) hx hb dL_law_1764 (by decide) (fun _ => ?_) (fun c9 => absurd rfl c9)
  have fin : ∀ ls : Array Slot, lv_has ls 7 [(6, .int bb), (5, .int (u1.1 31)), (0, .ref b), (1, .ref h), (2, .ref Z1.2.1), (3, .ref o), (4, .int x4)] → W p l e room_1 s m #[Value.ref b] below meth c H locs (k + 2) (n + 12) (lw_Z below #[Value.ref b] s) (F0 m 1940 ls []) := fun ls hl => K Z1 ρ1 σ1 u1 H locs ls (k + 2) (n + 12) ⟨z3, hP, hS, lv_sub hl [2, 3, 4, 5, 6] rfl, by omega, by omega⟩
  refine lv_iload hx hb dL_law_1769 (lv_at hl 1 rfl) ?_
  refine lv_if_ne (tgt := 1786) hx hb dL_law_1771 (by decide) (fun _ => lv_goto (tgt := 1940) hx hb dL_law_1786 (by decide) (fin ls hl)) (fun c8 => ?_)
  have e9 : m_la (x_ov Z1 u1) o (0 : Int32).toNatClampNeg = cvI bb := by
    rw [← hcv c8]
    show m_la (x_ov Z1 u) o _ = m_la w3 o _
    rw [z2]
    rfl
  refine lv_aload_n hx hb dL_law_1774 rfl (lv_at hl 5 rfl) ?_
  refine lv_iconst (v := 0) hx hb dL_law_1775 (by decide) ?_
  refine m_lald hx hb hM.1 hP (LZ_o z3 u1) dL_law_1776 ?_
  rw [e9]
  refine lv_iload hx hb dL_law_1777 (lv_at hl 0 rfl) ?_
  refine lv_i2l (v := cvI bb) hx hb dL_law_1779 rfl ?_
  refine W.lcmp hx hb dL_law_1780 ?_
  exact lv_if_eq (tgt := 1786) hx hb dL_law_1781 (by decide) (fun _ => lv_goto (tgt := 1940) hx hb dL_law_1786 (by decide) (fin ls hl)) (fun c6 => absurd (lg_cmp_self _) c6)
end LAWCASES
