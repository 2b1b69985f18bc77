section LAWCASES
variable {p : Program} {l : Launch} {e : Env} {s : State} {m : MethodId} {below : List Frame} {meth : Method} {c : Code} {b L : Nat} {xs : Nat → Int32} {G : m_G} {h o j : Nat} {x4 : Int32}
set_option maxHeartbeats 4000000 in
set_option maxRecDepth 100000 in
theorem lw_c28 (C0 : lw_At p s m meth c b L xs) (E : lw_E l G s x4 j L) (K : lw_Go p l e s m below meth c b G h o x4 (j + 1) 1940) : lw_Go p l e s m below meth c b G h o x4 j 1789 := by
  intro Z ρ σ u H locs ls k n J
  obtain ⟨hx, hb, hr, hml, hown, hts, hX, hbl, hlocks, hgv⟩ := id C0
  obtain ⟨hst, hM, hG1, hj, hv0, hv⟩ := E
  obtain ⟨hZ, hP, hS, hl, hk, hn⟩ := J
  have hown : s.vm.findClass RL = some m.cls := hown
  have hbA : ¬ (fun q : Nat => G.1 ≤ q) b := by rw [hG1]; exact Nat.not_le.mpr hbl
  have hq0 := LZ_q hZ
  refine lv_aload_n hx hb dL_law_1789 rfl (lv_at hl 1 rfl) ?_
  obtain ⟨w3, bb, u1, he, hf, Z1, ρ1, σ1, z1, z2, z3, z4⟩ := LN_unlikeInOrder (t0 := G.2.2.2) hZ
  refine m_calli (k := k) (n := n) (va_runV (As := []) (rest := []) ⟨hx, hb, hml, hown, w_lawH hts⟩ (c_X6_unlikeInOrder l G (x_ov Z u) w3 h bb he) (cwV 0 (w_lawH hts) gL_law_X6_unlikeInOrder rfl rfl rfl (by decide +kernel) ⟨(Nat.le_of_ble_eq_true rfl), (Nat.le_of_ble_eq_true rfl)⟩) (m_preV (C := RX6) (T := TX6) (N := 8) (ci := 9) hM hP hS rfl (by decide) (LZ_kd (t0 := G.2.2.2) hZ)) rfl rfl hl.1 rfl (lv_room (Nat.le_of_ble_eq_true rfl)) dL_law_1790 ⟨by show k + 0 ≤ 601024; omega, by show n + 0 ≤ 7293034; omega⟩) hS ⟨Nat.le_refl _, Nat.le_refl _⟩ (fun H locs hP hS => ?_)
  rw [← z2] at hP
  have e2 : Z1.2.1 = Z.2.1 := by rw [z1]
  rw [← e2] at hl
  refine lv_aload_n hx hb dL_law_1793 rfl (lv_at hl 2 rfl) ?_
  refine m_calli (k := k) (n := n) (va_runV (As := []) (rest := [.int bb]) ⟨hx, hb, hml, hown, w_lawH hts⟩ (c_X7_unlikeInOrder l G Z1 z3.1 u u1  bb hf) (cwV 0 (w_lawH hts) gL_law_X7_unlikeInOrder rfl rfl rfl (by decide +kernel) ⟨(Nat.le_of_ble_eq_true rfl), (Nat.le_of_ble_eq_true rfl)⟩) (m_preV (C := RX7) (T := TX7) (N := 32) (ci := 10) hM hP hS rfl (by decide) z3.1.1) rfl rfl hl.1 rfl (lv_room (Nat.le_of_ble_eq_true rfl)) dL_law_1794 ⟨by show k + 0 ≤ 601024; omega, by show n + 0 ≤ 7293034; omega⟩) hS ⟨Nat.le_refl _, Nat.le_refl _⟩ (fun H locs hP hS => ?_)
  exact lv_icmp_eq (tgt := 1940) hx hb dL_law_1797 (by decide) (fun _ => K Z1 ρ1 σ1 u1 H locs ls k n ⟨z3, hP, hS, hl, by omega, by omega⟩) (fun c9 => absurd rfl c9)
set_option maxHeartbeats 4000000 in
set_option maxRecDepth 100000 in
theorem lw_c29 (C0 : lw_At p s m meth c b L xs) (E : lw_E l G s x4 j L) (K : lw_Go p l e s m below meth c b G h o x4 (j + 1) 1940) : lw_Go p l e s m below meth c b G h o x4 j 1802 := by
  intro Z ρ σ u H locs ls k n J
  obtain ⟨hx, hb, hr, hml, hown, hts, hX, hbl, hlocks, hgv⟩ := id C0
  obtain ⟨hst, hM, hG1, hj, hv0, hv⟩ := E
  obtain ⟨hZ, hP, hS, hl, hk, hn⟩ := J
  have hown : s.vm.findClass RL = some m.cls := hown
  have hbA : ¬ (fun q : Nat => G.1 ≤ q) b := by rw [hG1]; exact Nat.not_le.mpr hbl
  have hq0 := LZ_q hZ
  refine lv_aload_n hx hb dL_law_1802 rfl (lv_at hl 1 rfl) ?_
  obtain ⟨w3, bb, u1, he, hf, Z1, ρ1, σ1, z1, z2, z3, z4⟩ := LN_runs (t0 := G.2.2.2) hZ
  refine m_calli (k := k) (n := n) (va_runV (As := []) (rest := []) ⟨hx, hb, hml, hown, w_lawH hts⟩ (c_X6_runs l G (x_ov Z u) w3 h bb he) (cwV 0 (w_lawH hts) gL_law_X6_runs rfl rfl rfl (by decide +kernel) ⟨(Nat.le_of_ble_eq_true rfl), (Nat.le_of_ble_eq_true rfl)⟩) (m_preV (C := RX6) (T := TX6) (N := 8) (ci := 9) hM hP hS rfl (by decide) (LZ_kd (t0 := G.2.2.2) hZ)) rfl rfl hl.1 rfl (lv_room (Nat.le_of_ble_eq_true rfl)) dL_law_1803 ⟨by show k + 0 ≤ 601024; omega, by show n + 0 ≤ 7293034; omega⟩) hS ⟨Nat.le_refl _, Nat.le_refl _⟩ (fun H locs hP hS => ?_)
  rw [← z2] at hP
  have e2 : Z1.2.1 = Z.2.1 := by rw [z1]
  rw [← e2] at hl
  refine lv_aload_n hx hb dL_law_1806 rfl (lv_at hl 2 rfl) ?_
  refine m_calli (k := k) (n := n) (va_runV (As := []) (rest := [.int bb]) ⟨hx, hb, hml, hown, w_lawH hts⟩ (c_X7_runs_ l G Z1 z3.1 u u1  bb hf) (cwV 0 (w_lawH hts) gL_law_X7_runs_ rfl rfl rfl (by decide +kernel) ⟨(Nat.le_of_ble_eq_true rfl), (Nat.le_of_ble_eq_true rfl)⟩) (m_preV (C := RX7) (T := TX7) (N := 32) (ci := 10) hM hP hS rfl (by decide) z3.1.1) rfl rfl hl.1 rfl (lv_room (Nat.le_of_ble_eq_true rfl)) dL_law_1807 ⟨by show k + 0 ≤ 601024; omega, by show n + 0 ≤ 7293034; omega⟩) hS ⟨Nat.le_refl _, Nat.le_refl _⟩ (fun H locs hP hS => ?_)
  exact lv_icmp_eq (tgt := 1940) hx hb dL_law_1810 (by decide) (fun _ => K Z1 ρ1 σ1 u1 H locs ls k n ⟨z3, hP, hS, hl, by omega, by omega⟩) (fun c9 => absurd rfl c9)
set_option maxHeartbeats 4000000 in
set_option maxRecDepth 100000 in
theorem lw_c30 (C0 : lw_At p s m meth c b L xs) (E : lw_E l G s x4 j L) (K : lw_Go p l e s m below meth c b G h o x4 (j + 1) 1940) : lw_Go p l e s m below meth c b G h o x4 j 1815 := by
  intro Z ρ σ u H locs ls k n J
  obtain ⟨hx, hb, hr, hml, hown, hts, hX, hbl, hlocks, hgv⟩ := id C0
  obtain ⟨hst, hM, hG1, hj, hv0, hv⟩ := E
  obtain ⟨hZ, hP, hS, hl, hk, hn⟩ := J
  have hown : s.vm.findClass RL = some m.cls := hown
  have hbA : ¬ (fun q : Nat => G.1 ≤ q) b := by rw [hG1]; exact Nat.not_le.mpr hbl
  have hq0 := LZ_q hZ
  refine lv_aload_n hx hb dL_law_1815 rfl (lv_at hl 1 rfl) ?_
  obtain ⟨w3, bb, u1, he, hf, Z1, ρ1, σ1, z1, z2, z3, z4⟩ := LN_logged (t0 := G.2.2.2) hZ
  refine m_calli (k := k) (n := n) (va_runV (As := []) (rest := []) ⟨hx, hb, hml, hown, w_lawH hts⟩ (c_X6_logged l G (x_ov Z u) w3 h bb he) (cwV 0 (w_lawH hts) gL_law_X6_logged rfl rfl rfl (by decide +kernel) ⟨(Nat.le_of_ble_eq_true rfl), (Nat.le_of_ble_eq_true rfl)⟩) (m_preV (C := RX6) (T := TX6) (N := 8) (ci := 9) hM hP hS rfl (by decide) (LZ_kd (t0 := G.2.2.2) hZ)) rfl rfl hl.1 rfl (lv_room (Nat.le_of_ble_eq_true rfl)) dL_law_1816 ⟨by show k + 0 ≤ 601024; omega, by show n + 0 ≤ 7293034; omega⟩) hS ⟨Nat.le_refl _, Nat.le_refl _⟩ (fun H locs hP hS => ?_)
  rw [← z2] at hP
  have e2 : Z1.2.1 = Z.2.1 := by rw [z1]
  rw [← e2] at hl
  refine lv_aload_n hx hb dL_law_1819 rfl (lv_at hl 2 rfl) ?_
  refine m_calli (k := k) (n := n) (va_runV (As := []) (rest := [.int bb]) ⟨hx, hb, hml, hown, w_lawH hts⟩ (c_X7_logged l G Z1 z3.1 u u1  bb hf) (cwV 0 (w_lawH hts) gL_law_X7_logged rfl rfl rfl (by decide +kernel) ⟨(Nat.le_of_ble_eq_true rfl), (Nat.le_of_ble_eq_true rfl)⟩) (m_preV (C := RX7) (T := TX7) (N := 32) (ci := 10) hM hP hS rfl (by decide) z3.1.1) rfl rfl hl.1 rfl (lv_room (Nat.le_of_ble_eq_true rfl)) dL_law_1820 ⟨by show k + 0 ≤ 601024; omega, by show n + 0 ≤ 7293034; omega⟩) hS ⟨Nat.le_refl _, Nat.le_refl _⟩ (fun H locs hP hS => ?_)
  exact lv_icmp_eq (tgt := 1940) hx hb dL_law_1823 (by decide) (fun _ => K Z1 ρ1 σ1 u1 H locs ls k n ⟨z3, hP, hS, hl, by omega, by omega⟩) (fun c9 => absurd rfl c9)
set_option maxHeartbeats 4000000 in
set_option maxRecDepth 100000 in
theorem lw_c31 (C0 : lw_At p s m meth c b L xs) (E : lw_E l G s x4 j L) (K : lw_Go p l e s m below meth c b G h o x4 (j + 1) 1940) : lw_Go p l e s m below meth c b G h o x4 j 1828 := by
  intro Z ρ σ u H locs ls k n J
  obtain ⟨hx, hb, hr, hml, hown, hts, hX, hbl, hlocks, hgv⟩ := id C0
  obtain ⟨hst, hM, hG1, hj, hv0, hv⟩ := E
  obtain ⟨hZ, hP, hS, hl, hk, hn⟩ := J
  have hown : s.vm.findClass RL = some m.cls := hown
  have hbA : ¬ (fun q : Nat => G.1 ≤ q) b := by rw [hG1]; exact Nat.not_le.mpr hbl
  have hq0 := LZ_q hZ
  refine lv_aload_n hx hb dL_law_1828 rfl (lv_at hl 1 rfl) ?_
  refine lv_aload_n hx hb dL_law_1829 rfl (lv_at hl 0 rfl) ?_
  refine lv_iload hx hb dL_law_1830 (lv_at hl 4 rfl) ?_
  refine lv_iconst (v := 1) hx hb dL_law_1832 (by decide) ?_
  refine lv_iadd hx hb dL_law_1833 ?_
  refine va_sld (i := x4 + 1) hx hb hX hbl hbA hS (hv 1 (by decide)) dL_law_1834 ?_
  refine lv_aload_n hx hb dL_law_1835 rfl (lv_at hl 3 rfl) ?_
  obtain ⟨w3, bb, u1, he, hf, hcv, hall⟩ := LG_logAt (t0 := G.2.2.2) hZ ((xs (x4 + 1).toNatClampNeg))
  have hq1 : q_n σ ≤ 400 := by
    obtain ⟨Z9, ρ9, σ9, y1, y2, y3, y4⟩ := hall (m_nx w3) (Nat.le_refl _)
    exact Nat.le_trans y4 (LZ_q y3)
  refine m_calln (k := k + 1) (n := n + 6) (vx_runSW (As := [.ref h, .int (xs (x4 + 1).toNatClampNeg), .ref o]) (rest := []) ⟨hx, hb, hml, hown, w_lawH hts⟩ (c_L_logAt l hst G (x_ov Z u) w3 h ((xs (x4 + 1).toNatClampNeg)) o (u1.1 31) he) (vx_cwSW 3 (w_lawH hts) gL_law_L_logAt rfl rfl rfl (by decide +kernel) ⟨(Nat.le_of_ble_eq_true rfl), (Nat.le_of_ble_eq_true rfl)⟩) (m_preS hM hP hS) rfl rfl hl.1 rfl (lv_room (Nat.le_of_ble_eq_true rfl)) dL_law_1836 ⟨by show k + 1 ≤ 601024; omega, by show n + 6 ≤ 7293034; omega⟩) hS ⟨Nat.le_refl _, Nat.le_refl _⟩ (fun nn H locs hnn hP hS => ?_)
  obtain ⟨Z1, ρ1, σ1, z1, z2, z3, z4⟩ := hall nn hnn
  rw [← z2] at hP
  have e2 : Z1.2.1 = Z.2.1 := by rw [z1]
  rw [← e2] at hl
  refine lv_istore (lv' := [(5, .int (u1.1 31)), (0, .ref b), (1, .ref h), (2, .ref Z1.2.1), (3, .ref o), (4, .int x4)]) hx hb dL_law_1839 hl (by decide) rfl (fun ls hl => ?_)
  refine lv_aload_n hx hb dL_law_1841 rfl (lv_at hl 3 rfl) ?_
  refine lv_aload_n hx hb dL_law_1842 rfl (lv_at hl 1 rfl) ?_
  refine lv_iload hx hb dL_law_1843 (lv_at hl 5 rfl) ?_
  refine lv_iconst (v := 1) hx hb dL_law_1845 (by decide) ?_
  refine lv_iadd hx hb dL_law_1846 ?_
  refine va_sld (i := x4 + 1) hx hb hX hbl hbA hS (hv 1 (by decide)) dL_law_1847 ?_
  refine m_calli (k := k + 1) (n := n + 6) (va_runV (As := [.int (xs (x4 + 1).toNatClampNeg)]) (rest := []) ⟨hx, hb, hml, hown, w_lawH hts⟩ (c_X7_logAt l G Z1 z3.1 u u1 ((xs (x4 + 1).toNatClampNeg)) bb hf) (cwV 1 (w_lawH hts) gL_law_X7_logAt rfl rfl rfl (by decide +kernel) ⟨(Nat.le_of_ble_eq_true rfl), (Nat.le_of_ble_eq_true rfl)⟩) (m_preV (C := RX7) (T := TX7) (N := 32) (ci := 10) hM hP hS rfl (by decide) z3.1.1) rfl rfl hl.1 rfl (lv_room (Nat.le_of_ble_eq_true rfl)) dL_law_1848 ⟨by show k + 1 + 0 ≤ 601024; omega, by show n + 6 + 0 ≤ 7293034; omega⟩) hS ⟨Nat.le_refl _, Nat.le_refl _⟩ (fun H locs hP hS => ?_)
  refine lv_istore (lv' := [(6, .int bb), (5, .int (u1.1 31)), (0, .ref b), (1, .ref h), (2, .ref Z1.2.1), (3, .ref o), (4, .int x4)]) hx hb dL_law_1851 hl (by decide) rfl (fun ls hl => ?_)
  refine lv_aload_n hx hb dL_law_1853 rfl (lv_at hl 4 rfl) ?_
  refine m_calli (k := k + 1) (n := n + 6) (va_runV (As := []) (rest := []) ⟨hx, hb, hml, hown, w_lawH hts⟩ (c_X7_thrown l G Z1 z3.1 u1 u1 (u1.1 31) rfl) (cwV 0 (w_lawH hts) gL_law_X7_thrown rfl rfl rfl (by decide +kernel) ⟨(Nat.le_of_ble_eq_true rfl), (Nat.le_of_ble_eq_true rfl)⟩) (m_preV (C := RX7) (T := TX7) (N := 32) (ci := 10) hM hP hS rfl (by decide) z3.1.1) rfl rfl hl.1 rfl (lv_room (Nat.le_of_ble_eq_true rfl)) dL_law_1854 ⟨by show k + 1 + 0 ≤ 601024; omega, by show n + 6 + 0 ≤ 7293034; omega⟩) hS ⟨Nat.le_refl _, Nat.le_refl _⟩ (fun H locs hP hS => ?_)
  refine lv_iload hx hb dL_law_1857 (lv_at hl 1 rfl) ?_
  refine lv_icmp_eq (tgt := 1864) hx hb dL_law_1859 (by decide) (fun _ => ?_) (fun c9 => absurd rfl c9)
  have fin : ∀ ls : Array Slot, lv_has ls 7 [(6, .int bb), (5, .int (u1.1 31)), (0, .ref b), (1, .ref h), (2, .ref Z1.2.1), (3, .ref o), (4, .int x4)] → W p l e room_1 s m #[Value.ref b] below meth c H locs (k + 1) (n + 6) (lw_Z below #[Value.ref b] s) (F0 m 1940 ls []) := fun ls hl => K Z1 ρ1 σ1 u1 H locs ls (k + 1) (n + 6) ⟨z3, hP, hS, lv_sub hl [2, 3, 4, 5, 6] rfl, by omega, by omega⟩
  refine lv_iload hx hb dL_law_1864 (lv_at hl 1 rfl) ?_
  refine lv_if_ne (tgt := 1881) hx hb dL_law_1866 (by decide) (fun _ => lv_goto (tgt := 1940) hx hb dL_law_1881 (by decide) (fin ls hl)) (fun c8 => ?_)
  have e9 : m_la (x_ov Z1 u1) o (0 : Int32).toNatClampNeg = cvI bb := by
    rw [← hcv c8]
    show m_la (x_ov Z1 u) o _ = m_la w3 o _
    rw [z2]
    rfl
  refine lv_aload_n hx hb dL_law_1869 rfl (lv_at hl 5 rfl) ?_
  refine lv_iconst (v := 0) hx hb dL_law_1870 (by decide) ?_
  refine m_lald hx hb hM.1 hP (LZ_o z3 u1) dL_law_1871 ?_
  rw [e9]
  refine lv_iload hx hb dL_law_1872 (lv_at hl 0 rfl) ?_
  refine lv_i2l (v := cvI bb) hx hb dL_law_1874 rfl ?_
  refine W.lcmp hx hb dL_law_1875 ?_
  exact lv_if_eq (tgt := 1881) hx hb dL_law_1876 (by decide) (fun _ => lv_goto (tgt := 1940) hx hb dL_law_1881 (by decide) (fin ls hl)) (fun c6 => absurd (lg_cmp_self _) c6)
set_option maxHeartbeats 4000000 in
set_option maxRecDepth 100000 in
theorem lw_c32 (C0 : lw_At p s m meth c b L xs) (E : lw_E l G s x4 j L) (K : lw_Go p l e s m below meth c b G h o x4 (j + 1) 1940) : lw_Go p l e s m below meth c b G h o x4 j 1884 := by
  intro Z ρ σ u H locs ls k n J
  obtain ⟨hx, hb, hr, hml, hown, hts, hX, hbl, hlocks, hgv⟩ := id C0
  obtain ⟨hst, hM, hG1, hj, hv0, hv⟩ := E
  obtain ⟨hZ, hP, hS, hl, hk, hn⟩ := J
  have hown : s.vm.findClass RL = some m.cls := hown
  have hbA : ¬ (fun q : Nat => G.1 ≤ q) b := by rw [hG1]; exact Nat.not_le.mpr hbl
  have hq0 := LZ_q hZ
  refine lv_aload_n hx hb dL_law_1884 rfl (lv_at hl 1 rfl) ?_
  refine lv_aload_n hx hb dL_law_1885 rfl (lv_at hl 0 rfl) ?_
  refine lv_iload hx hb dL_law_1886 (lv_at hl 4 rfl) ?_
  refine lv_iconst (v := 1) hx hb dL_law_1888 (by decide) ?_
  refine lv_iadd hx hb dL_law_1889 ?_
  refine va_sld (i := x4 + 1) hx hb hX hbl hbA hS (hv 1 (by decide)) dL_law_1890 ?_
  refine lv_aload_n hx hb dL_law_1891 rfl (lv_at hl 3 rfl) ?_
  obtain ⟨w3, bb, u1, he, hf, hcv, hall⟩ := LG_forget (t0 := G.2.2.2) hZ ((xs (x4 + 1).toNatClampNeg))
  have hq1 : q_n σ ≤ 400 := by
    obtain ⟨Z9, ρ9, σ9, y1, y2, y3, y4⟩ := hall (m_nx w3) (Nat.le_refl _)
    exact Nat.le_trans y4 (LZ_q y3)
  refine m_calln (k := k + 1) (n := n + 6) (vx_runSW (As := [.ref h, .int (xs (x4 + 1).toNatClampNeg), .ref o]) (rest := []) ⟨hx, hb, hml, hown, w_lawH hts⟩ (c_L_forget l hst G (x_ov Z u) w3 h ((xs (x4 + 1).toNatClampNeg)) o (u1.1 31) he) (vx_cwSW 3 (w_lawH hts) gL_law_L_forget rfl rfl rfl (by decide +kernel) ⟨(Nat.le_of_ble_eq_true rfl), (Nat.le_of_ble_eq_true rfl)⟩) (m_preS hM hP hS) rfl rfl hl.1 rfl (lv_room (Nat.le_of_ble_eq_true rfl)) dL_law_1892 ⟨by show k + 1 ≤ 601024; omega, by show n + 6 ≤ 7293034; omega⟩) hS ⟨Nat.le_refl _, Nat.le_refl _⟩ (fun nn H locs hnn hP hS => ?_)
  obtain ⟨Z1, ρ1, σ1, z1, z2, z3, z4⟩ := hall nn hnn
  rw [← z2] at hP
  have e2 : Z1.2.1 = Z.2.1 := by rw [z1]
  rw [← e2] at hl
  refine lv_istore (lv' := [(5, .int (u1.1 31)), (0, .ref b), (1, .ref h), (2, .ref Z1.2.1), (3, .ref o), (4, .int x4)]) hx hb dL_law_1895 hl (by decide) rfl (fun ls hl => ?_)
  refine lv_aload_n hx hb dL_law_1897 rfl (lv_at hl 3 rfl) ?_
  refine lv_aload_n hx hb dL_law_1898 rfl (lv_at hl 1 rfl) ?_
  refine lv_iload hx hb dL_law_1899 (lv_at hl 5 rfl) ?_
  refine lv_iconst (v := 1) hx hb dL_law_1901 (by decide) ?_
  refine lv_iadd hx hb dL_law_1902 ?_
  refine va_sld (i := x4 + 1) hx hb hX hbl hbA hS (hv 1 (by decide)) dL_law_1903 ?_
  refine m_calli (k := k + 1) (n := n + 6) (va_runV (As := [.int (xs (x4 + 1).toNatClampNeg)]) (rest := []) ⟨hx, hb, hml, hown, w_lawH hts⟩ (c_X7_forget l G Z1 z3.1 u u1 ((xs (x4 + 1).toNatClampNeg)) bb hf) (cwV 1 (w_lawH hts) gL_law_X7_forget rfl rfl rfl (by decide +kernel) ⟨(Nat.le_of_ble_eq_true rfl), (Nat.le_of_ble_eq_true rfl)⟩) (m_preV (C := RX7) (T := TX7) (N := 32) (ci := 10) hM hP hS rfl (by decide) z3.1.1) rfl rfl hl.1 rfl (lv_room (Nat.le_of_ble_eq_true rfl)) dL_law_1904 ⟨by show k + 1 + 0 ≤ 601024; omega, by show n + 6 + 0 ≤ 7293034; omega⟩) hS ⟨Nat.le_refl _, Nat.le_refl _⟩ (fun H locs hP hS => ?_)
  refine lv_istore (lv' := [(6, .int bb), (5, .int (u1.1 31)), (0, .ref b), (1, .ref h), (2, .ref Z1.2.1), (3, .ref o), (4, .int x4)]) hx hb dL_law_1907 hl (by decide) rfl (fun ls hl => ?_)
  refine lv_aload_n hx hb dL_law_1909 rfl (lv_at hl 4 rfl) ?_
  refine m_calli (k := k + 1) (n := n + 6) (va_runV (As := []) (rest := []) ⟨hx, hb, hml, hown, w_lawH hts⟩ (c_X7_thrown l G Z1 z3.1 u1 u1 (u1.1 31) rfl) (cwV 0 (w_lawH hts) gL_law_X7_thrown rfl rfl rfl (by decide +kernel) ⟨(Nat.le_of_ble_eq_true rfl), (Nat.le_of_ble_eq_true rfl)⟩) (m_preV (C := RX7) (T := TX7) (N := 32) (ci := 10) hM hP hS rfl (by decide) z3.1.1) rfl rfl hl.1 rfl (lv_room (Nat.le_of_ble_eq_true rfl)) dL_law_1910 ⟨by show k + 1 + 0 ≤ 601024; omega, by show n + 6 + 0 ≤ 7293034; omega⟩) hS ⟨Nat.le_refl _, Nat.le_refl _⟩ (fun H locs hP hS => ?_)
  refine lv_iload hx hb dL_law_1913 (lv_at hl 1 rfl) ?_
  refine lv_icmp_eq (tgt := 1920) hx hb dL_law_1915 (by decide) (fun _ => ?_) (fun c9 => absurd rfl c9)
  have fin : ∀ ls : Array Slot, lv_has ls 7 [(6, .int bb), (5, .int (u1.1 31)), (0, .ref b), (1, .ref h), (2, .ref Z1.2.1), (3, .ref o), (4, .int x4)] → W p l e room_1 s m #[Value.ref b] below meth c H locs (k + 1) (n + 6) (lw_Z below #[Value.ref b] s) (F0 m 1940 ls []) := fun ls hl => K Z1 ρ1 σ1 u1 H locs ls (k + 1) (n + 6) ⟨z3, hP, hS, lv_sub hl [2, 3, 4, 5, 6] rfl, by omega, by omega⟩
  refine lv_iload hx hb dL_law_1920 (lv_at hl 1 rfl) ?_
  refine lv_if_ne (tgt := 1937) hx hb dL_law_1922 (by decide) (fun _ => lv_goto (tgt := 1940) hx hb dL_law_1937 (by decide) (fin ls hl)) (fun c8 => ?_)
  have e9 : m_la (x_ov Z1 u1) o (0 : Int32).toNatClampNeg = cvI bb := by
    rw [← hcv c8]
    show m_la (x_ov Z1 u) o _ = m_la w3 o _
    rw [z2]
    rfl
  refine lv_aload_n hx hb dL_law_1925 rfl (lv_at hl 5 rfl) ?_
  refine lv_iconst (v := 0) hx hb dL_law_1926 (by decide) ?_
  refine m_lald hx hb hM.1 hP (LZ_o z3 u1) dL_law_1927 ?_
  rw [e9]
  refine lv_iload hx hb dL_law_1928 (lv_at hl 0 rfl) ?_
  refine lv_i2l (v := cvI bb) hx hb dL_law_1930 rfl ?_
  refine W.lcmp hx hb dL_law_1931 ?_
  exact lv_if_eq (tgt := 1937) hx hb dL_law_1932 (by decide) (fun _ => lv_goto (tgt := 1940) hx hb dL_law_1937 (by decide) (fin ls hl)) (fun c6 => absurd (lg_cmp_self _) c6)
end LAWCASES
