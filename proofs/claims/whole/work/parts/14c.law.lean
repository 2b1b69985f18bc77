section LAWCASES
variable {p : Program} {l : Launch} {e : Env} {s : State} {m : MethodId} {below : List Frame} {meth : Method} {c : Code} {b L : Nat} {xs : Nat → Int32} {G : m_G} {h o j : Nat} {x4 : Int32}
set_option maxHeartbeats 4000000 in
set_option maxRecDepth 100000 in
theorem lw_c14 (C0 : lw_At p s m meth c b L xs) (E : lw_E l G s x4 j L) (K : lw_Go p l e s m below meth c b G h o x4 (j + 1) 1940) : lw_Go p l e s m below meth c b G h o x4 j 1077 := by
  intro Z ρ σ u H locs ls k n J
  obtain ⟨hx, hb, hr, hml, hown, hts, hX, hbl, hlocks, hgv⟩ := id C0
  obtain ⟨hst, hM, hG1, hj, hv0, hv⟩ := E
  obtain ⟨hZ, hP, hS, hl, hk, hn⟩ := J
  have hown : s.vm.findClass RL = some m.cls := hown
  have hbA : ¬ (fun q : Nat => G.1 ≤ q) b := by rw [hG1]; exact Nat.not_le.mpr hbl
  have hq0 := LZ_q hZ
  refine lv_aload_n hx hb dL_law_1077 rfl (lv_at hl 1 rfl) ?_
  refine lv_aload_n hx hb dL_law_1078 rfl (lv_at hl 0 rfl) ?_
  refine lv_iload hx hb dL_law_1079 (lv_at hl 4 rfl) ?_
  refine lv_iconst (v := 1) hx hb dL_law_1081 (by decide) ?_
  refine lv_iadd hx hb dL_law_1082 ?_
  refine va_sld (i := x4 + 1) hx hb hX hbl hbA hS (hv 1 (by decide)) dL_law_1083 ?_
  refine lv_aload_n hx hb dL_law_1084 rfl (lv_at hl 3 rfl) ?_
  obtain ⟨w3, bb, u1, he, hf, hcv, hall⟩ := LG_stamp (t0 := G.2.2.2) hZ ((xs (x4 + 1).toNatClampNeg))
  have hq1 : q_n σ ≤ 400 := by
    obtain ⟨Z9, ρ9, σ9, y1, y2, y3, y4⟩ := hall (m_nx w3) (Nat.le_refl _)
    exact Nat.le_trans y4 (LZ_q y3)
  refine m_calln (k := k + 1) (n := n + 6) (vx_runSW (As := [.ref h, .int (xs (x4 + 1).toNatClampNeg), .ref o]) (rest := []) ⟨hx, hb, hml, hown, w_lawH hts⟩ (c_L_stamp l hst G (x_ov Z u) w3 h ((xs (x4 + 1).toNatClampNeg)) o (u1.1 31) he) (vx_cwSW 3 (w_lawH hts) gL_law_L_stamp rfl rfl rfl (by decide +kernel) ⟨(Nat.le_of_ble_eq_true rfl), (Nat.le_of_ble_eq_true rfl)⟩) (m_preS hM hP hS) rfl rfl hl.1 rfl (lv_room (Nat.le_of_ble_eq_true rfl)) dL_law_1085 ⟨by show k + 1 ≤ 601024; omega, by show n + 6 ≤ 7293034; omega⟩) hS ⟨Nat.le_refl _, Nat.le_refl _⟩ (fun nn H locs hnn hP hS => ?_)
  obtain ⟨Z1, ρ1, σ1, z1, z2, z3, z4⟩ := hall nn hnn
  rw [← z2] at hP
  have e2 : Z1.2.1 = Z.2.1 := by rw [z1]
  rw [← e2] at hl
  refine lv_istore (lv' := [(5, .int (u1.1 31)), (0, .ref b), (1, .ref h), (2, .ref Z1.2.1), (3, .ref o), (4, .int x4)]) hx hb dL_law_1088 hl (by decide) rfl (fun ls hl => ?_)
  refine lv_aload_n hx hb dL_law_1090 rfl (lv_at hl 3 rfl) ?_
  refine lv_aload_n hx hb dL_law_1091 rfl (lv_at hl 1 rfl) ?_
  refine lv_iload hx hb dL_law_1092 (lv_at hl 5 rfl) ?_
  refine lv_iconst (v := 1) hx hb dL_law_1094 (by decide) ?_
  refine lv_iadd hx hb dL_law_1095 ?_
  refine va_sld (i := x4 + 1) hx hb hX hbl hbA hS (hv 1 (by decide)) dL_law_1096 ?_
  refine m_calli (k := k + 1) (n := n + 6) (va_runV (As := [.int (xs (x4 + 1).toNatClampNeg)]) (rest := []) ⟨hx, hb, hml, hown, w_lawH hts⟩ (c_X7_stamp l G Z1 z3.1 u u1 ((xs (x4 + 1).toNatClampNeg)) bb hf) (cwV 1 (w_lawH hts) gL_law_X7_stamp rfl rfl rfl (by decide +kernel) ⟨(Nat.le_of_ble_eq_true rfl), (Nat.le_of_ble_eq_true rfl)⟩) (m_preV (C := RX7) (T := TX7) (N := 32) (ci := 10) hM hP hS rfl (by decide) z3.1.1) rfl rfl hl.1 rfl (lv_room (Nat.le_of_ble_eq_true rfl)) dL_law_1097 ⟨by show k + 1 + 0 ≤ 601024; omega, by show n + 6 + 0 ≤ 7293034; omega⟩) hS ⟨Nat.le_refl _, Nat.le_refl _⟩ (fun H locs hP hS => ?_)
  refine lv_istore (lv' := [(6, .int bb), (5, .int (u1.1 31)), (0, .ref b), (1, .ref h), (2, .ref Z1.2.1), (3, .ref o), (4, .int x4)]) hx hb dL_law_1100 hl (by decide) rfl (fun ls hl => ?_)
  refine lv_aload_n hx hb dL_law_1102 rfl (lv_at hl 4 rfl) ?_
  refine m_calli (k := k + 1) (n := n + 6) (va_runV (As := []) (rest := []) ⟨hx, hb, hml, hown, w_lawH hts⟩ (c_X7_thrown l G Z1 z3.1 u1 u1 (u1.1 31) rfl) (cwV 0 (w_lawH hts) gL_law_X7_thrown rfl rfl rfl (by decide +kernel) ⟨(Nat.le_of_ble_eq_true rfl), (Nat.le_of_ble_eq_true rfl)⟩) (m_preV (C := RX7) (T := TX7) (N := 32) (ci := 10) hM hP hS rfl (by decide) z3.1.1) rfl rfl hl.1 rfl (lv_room (Nat.le_of_ble_eq_true rfl)) dL_law_1103 ⟨by show k + 1 + 0 ≤ 601024; omega, by show n + 6 + 0 ≤ 7293034; omega⟩) hS ⟨Nat.le_refl _, Nat.le_refl _⟩ (fun H locs hP hS => ?_)
  refine lv_iload hx hb dL_law_1106 (lv_at hl 1 rfl) ?_
  refine lv_icmp_eq (tgt := 1113) hx hb dL_law_1108 (by decide) (fun _ => ?_) (fun c9 => absurd rfl c9)
  have fin : ∀ ls : Array Slot, lv_has ls 7 [(6, .int bb), (5, .int (u1.1 31)), (0, .ref b), (1, .ref h), (2, .ref Z1.2.1), (3, .ref o), (4, .int x4)] → W p l e room_1 s m #[Value.ref b] below meth c H locs (k + 1) (n + 6) (lw_Z below #[Value.ref b] s) (F0 m 1940 ls []) := fun ls hl => K Z1 ρ1 σ1 u1 H locs ls (k + 1) (n + 6) ⟨z3, hP, hS, lv_sub hl [2, 3, 4, 5, 6] rfl, by omega, by omega⟩
  refine lv_iload hx hb dL_law_1113 (lv_at hl 1 rfl) ?_
  refine lv_if_ne (tgt := 1130) hx hb dL_law_1115 (by decide) (fun _ => lv_goto (tgt := 1940) hx hb dL_law_1130 (by decide) (fin ls hl)) (fun c8 => ?_)
  have e9 : m_la (x_ov Z1 u1) o (0 : Int32).toNatClampNeg = cvI bb := by
    rw [← hcv c8]
    show m_la (x_ov Z1 u) o _ = m_la w3 o _
    rw [z2]
    rfl
  refine lv_aload_n hx hb dL_law_1118 rfl (lv_at hl 5 rfl) ?_
  refine lv_iconst (v := 0) hx hb dL_law_1119 (by decide) ?_
  refine m_lald hx hb hM.1 hP (LZ_o z3 u1) dL_law_1120 ?_
  rw [e9]
  refine lv_iload hx hb dL_law_1121 (lv_at hl 0 rfl) ?_
  refine lv_i2l (v := cvI bb) hx hb dL_law_1123 rfl ?_
  refine W.lcmp hx hb dL_law_1124 ?_
  exact lv_if_eq (tgt := 1130) hx hb dL_law_1125 (by decide) (fun _ => lv_goto (tgt := 1940) hx hb dL_law_1130 (by decide) (fin ls hl)) (fun c6 => absurd (lg_cmp_self _) c6)
set_option maxHeartbeats 4000000 in
set_option maxRecDepth 100000 in
theorem lw_c15 (C0 : lw_At p s m meth c b L xs) (E : lw_E l G s x4 j L) (K : lw_Go p l e s m below meth c b G h o x4 (j + 1) 1940) : lw_Go p l e s m below meth c b G h o x4 j 1133 := by
  intro Z ρ σ u H locs ls k n J
  obtain ⟨hx, hb, hr, hml, hown, hts, hX, hbl, hlocks, hgv⟩ := id C0
  obtain ⟨hst, hM, hG1, hj, hv0, hv⟩ := E
  obtain ⟨hZ, hP, hS, hl, hk, hn⟩ := J
  have hown : s.vm.findClass RL = some m.cls := hown
  have hbA : ¬ (fun q : Nat => G.1 ≤ q) b := by rw [hG1]; exact Nat.not_le.mpr hbl
  have hq0 := LZ_q hZ
  refine lv_aload_n hx hb dL_law_1133 rfl (lv_at hl 1 rfl) ?_
  refine lv_aload_n hx hb dL_law_1134 rfl (lv_at hl 0 rfl) ?_
  refine lv_iload hx hb dL_law_1135 (lv_at hl 4 rfl) ?_
  refine lv_iconst (v := 1) hx hb dL_law_1137 (by decide) ?_
  refine lv_iadd hx hb dL_law_1138 ?_
  refine va_sld (i := x4 + 1) hx hb hX hbl hbA hS (hv 1 (by decide)) dL_law_1139 ?_
  refine lv_aload_n hx hb dL_law_1140 rfl (lv_at hl 3 rfl) ?_
  obtain ⟨w3, bb, u1, he, hf, hcv, hall⟩ := LG_lastRun (t0 := G.2.2.2) hZ ((xs (x4 + 1).toNatClampNeg))
  have hq1 : q_n σ ≤ 400 := by
    obtain ⟨Z9, ρ9, σ9, y1, y2, y3, y4⟩ := hall (m_nx w3) (Nat.le_refl _)
    exact Nat.le_trans y4 (LZ_q y3)
  refine m_calln (k := k + 1) (n := n + 6) (vx_runSW (As := [.ref h, .int (xs (x4 + 1).toNatClampNeg), .ref o]) (rest := []) ⟨hx, hb, hml, hown, w_lawH hts⟩ (c_L_lastRun l hst G (x_ov Z u) w3 h ((xs (x4 + 1).toNatClampNeg)) o (u1.1 31) he) (vx_cwSW 3 (w_lawH hts) gL_law_L_lastRun rfl rfl rfl (by decide +kernel) ⟨(Nat.le_of_ble_eq_true rfl), (Nat.le_of_ble_eq_true rfl)⟩) (m_preS hM hP hS) rfl rfl hl.1 rfl (lv_room (Nat.le_of_ble_eq_true rfl)) dL_law_1141 ⟨by show k + 1 ≤ 601024; omega, by show n + 6 ≤ 7293034; omega⟩) hS ⟨Nat.le_refl _, Nat.le_refl _⟩ (fun nn H locs hnn hP hS => ?_)
  obtain ⟨Z1, ρ1, σ1, z1, z2, z3, z4⟩ := hall nn hnn
  rw [← z2] at hP
  have e2 : Z1.2.1 = Z.2.1 := by rw [z1]
  rw [← e2] at hl
  refine lv_istore (lv' := [(5, .int (u1.1 31)), (0, .ref b), (1, .ref h), (2, .ref Z1.2.1), (3, .ref o), (4, .int x4)]) hx hb dL_law_1144 hl (by decide) rfl (fun ls hl => ?_)
  refine lv_aload_n hx hb dL_law_1146 rfl (lv_at hl 3 rfl) ?_
  refine lv_aload_n hx hb dL_law_1147 rfl (lv_at hl 1 rfl) ?_
  refine lv_iload hx hb dL_law_1148 (lv_at hl 5 rfl) ?_
  refine lv_iconst (v := 1) hx hb dL_law_1150 (by decide) ?_
  refine lv_iadd hx hb dL_law_1151 ?_
  refine va_sld (i := x4 + 1) hx hb hX hbl hbA hS (hv 1 (by decide)) dL_law_1152 ?_
  refine m_calli (k := k + 1) (n := n + 6) (va_runV (As := [.int (xs (x4 + 1).toNatClampNeg)]) (rest := []) ⟨hx, hb, hml, hown, w_lawH hts⟩ (c_X7_lastRun l G Z1 z3.1 u u1 ((xs (x4 + 1).toNatClampNeg)) bb hf) (cwV 1 (w_lawH hts) gL_law_X7_lastRun rfl rfl rfl (by decide +kernel) ⟨(Nat.le_of_ble_eq_true rfl), (Nat.le_of_ble_eq_true rfl)⟩) (m_preV (C := RX7) (T := TX7) (N := 32) (ci := 10) hM hP hS rfl (by decide) z3.1.1) rfl rfl hl.1 rfl (lv_room (Nat.le_of_ble_eq_true rfl)) dL_law_1153 ⟨by show k + 1 + 0 ≤ 601024; omega, by show n + 6 + 0 ≤ 7293034; omega⟩) hS ⟨Nat.le_refl _, Nat.le_refl _⟩ (fun H locs hP hS => ?_)
  refine lv_istore (lv' := [(6, .int bb), (5, .int (u1.1 31)), (0, .ref b), (1, .ref h), (2, .ref Z1.2.1), (3, .ref o), (4, .int x4)]) hx hb dL_law_1156 hl (by decide) rfl (fun ls hl => ?_)
  refine lv_aload_n hx hb dL_law_1158 rfl (lv_at hl 4 rfl) ?_
  refine m_calli (k := k + 1) (n := n + 6) (va_runV (As := []) (rest := []) ⟨hx, hb, hml, hown, w_lawH hts⟩ (c_X7_thrown l G Z1 z3.1 u1 u1 (u1.1 31) rfl) (cwV 0 (w_lawH hts) gL_law_X7_thrown rfl rfl rfl (by decide +kernel) ⟨(Nat.le_of_ble_eq_true rfl), (Nat.le_of_ble_eq_true rfl)⟩) (m_preV (C := RX7) (T := TX7) (N := 32) (ci := 10) hM hP hS rfl (by decide) z3.1.1) rfl rfl hl.1 rfl (lv_room (Nat.le_of_ble_eq_true rfl)) dL_law_1159 ⟨by show k + 1 + 0 ≤ 601024; omega, by show n + 6 + 0 ≤ 7293034; omega⟩) hS ⟨Nat.le_refl _, Nat.le_refl _⟩ (fun H locs hP hS => ?_)
  refine lv_iload hx hb dL_law_1162 (lv_at hl 1 rfl) ?_
  refine lv_icmp_eq (tgt := 1169) hx hb dL_law_1164 (by decide) (fun _ => ?_) (fun c9 => absurd rfl c9)
  have fin : ∀ ls : Array Slot, lv_has ls 7 [(6, .int bb), (5, .int (u1.1 31)), (0, .ref b), (1, .ref h), (2, .ref Z1.2.1), (3, .ref o), (4, .int x4)] → W p l e room_1 s m #[Value.ref b] below meth c H locs (k + 1) (n + 6) (lw_Z below #[Value.ref b] s) (F0 m 1940 ls []) := fun ls hl => K Z1 ρ1 σ1 u1 H locs ls (k + 1) (n + 6) ⟨z3, hP, hS, lv_sub hl [2, 3, 4, 5, 6] rfl, by omega, by omega⟩
  refine lv_iload hx hb dL_law_1169 (lv_at hl 1 rfl) ?_
  refine lv_if_ne (tgt := 1186) hx hb dL_law_1171 (by decide) (fun _ => lv_goto (tgt := 1940) hx hb dL_law_1186 (by decide) (fin ls hl)) (fun c8 => ?_)
  have e9 : m_la (x_ov Z1 u1) o (0 : Int32).toNatClampNeg = cvI bb := by
    rw [← hcv c8]
    show m_la (x_ov Z1 u) o _ = m_la w3 o _
    rw [z2]
    rfl
  refine lv_aload_n hx hb dL_law_1174 rfl (lv_at hl 5 rfl) ?_
  refine lv_iconst (v := 0) hx hb dL_law_1175 (by decide) ?_
  refine m_lald hx hb hM.1 hP (LZ_o z3 u1) dL_law_1176 ?_
  rw [e9]
  refine lv_iload hx hb dL_law_1177 (lv_at hl 0 rfl) ?_
  refine lv_i2l (v := cvI bb) hx hb dL_law_1179 rfl ?_
  refine W.lcmp hx hb dL_law_1180 ?_
  exact lv_if_eq (tgt := 1186) hx hb dL_law_1181 (by decide) (fun _ => lv_goto (tgt := 1940) hx hb dL_law_1186 (by decide) (fin ls hl)) (fun c6 => absurd (lg_cmp_self _) c6)
set_option maxHeartbeats 4000000 in
set_option maxRecDepth 100000 in
theorem lw_c16 (C0 : lw_At p s m meth c b L xs) (E : lw_E l G s x4 j L) (K : lw_Go p l e s m below meth c b G h o x4 (j + 1) 1940) : lw_Go p l e s m below meth c b G h o x4 j 1189 := by
  intro Z ρ σ u H locs ls k n J
  obtain ⟨hx, hb, hr, hml, hown, hts, hX, hbl, hlocks, hgv⟩ := id C0
  obtain ⟨hst, hM, hG1, hj, hv0, hv⟩ := E
  obtain ⟨hZ, hP, hS, hl, hk, hn⟩ := J
  have hown : s.vm.findClass RL = some m.cls := hown
  have hbA : ¬ (fun q : Nat => G.1 ≤ q) b := by rw [hG1]; exact Nat.not_le.mpr hbl
  have hq0 := LZ_q hZ
  refine lv_aload_n hx hb dL_law_1189 rfl (lv_at hl 1 rfl) ?_
  refine lv_aload_n hx hb dL_law_1190 rfl (lv_at hl 0 rfl) ?_
  refine lv_iload hx hb dL_law_1191 (lv_at hl 4 rfl) ?_
  refine lv_iconst (v := 1) hx hb dL_law_1193 (by decide) ?_
  refine lv_iadd hx hb dL_law_1194 ?_
  refine va_sld (i := x4 + 1) hx hb hX hbl hbA hS (hv 1 (by decide)) dL_law_1195 ?_
  refine lv_aload_n hx hb dL_law_1196 rfl (lv_at hl 3 rfl) ?_
  obtain ⟨w3, bb, u1, he, hf, hcv, hall⟩ := LG_hasResult (t0 := G.2.2.2) hZ ((xs (x4 + 1).toNatClampNeg))
  have hq1 : q_n σ ≤ 400 := by
    obtain ⟨Z9, ρ9, σ9, y1, y2, y3, y4⟩ := hall (m_nx w3) (Nat.le_refl _)
    exact Nat.le_trans y4 (LZ_q y3)
  refine m_calln (k := k + 1) (n := n + 6) (vx_runSW (As := [.ref h, .int (xs (x4 + 1).toNatClampNeg), .ref o]) (rest := []) ⟨hx, hb, hml, hown, w_lawH hts⟩ (c_L_hasResult l hst G (x_ov Z u) w3 h ((xs (x4 + 1).toNatClampNeg)) o (u1.1 31) he) (vx_cwSW 3 (w_lawH hts) gL_law_L_hasResult rfl rfl rfl (by decide +kernel) ⟨(Nat.le_of_ble_eq_true rfl), (Nat.le_of_ble_eq_true rfl)⟩) (m_preS hM hP hS) rfl rfl hl.1 rfl (lv_room (Nat.le_of_ble_eq_true rfl)) dL_law_1197 ⟨by show k + 1 ≤ 601024; omega, by show n + 6 ≤ 7293034; omega⟩) hS ⟨Nat.le_refl _, Nat.le_refl _⟩ (fun nn H locs hnn hP hS => ?_)
  obtain ⟨Z1, ρ1, σ1, z1, z2, z3, z4⟩ := hall nn hnn
  rw [← z2] at hP
  have e2 : Z1.2.1 = Z.2.1 := by rw [z1]
  rw [← e2] at hl
  refine lv_istore (lv' := [(5, .int (u1.1 31)), (0, .ref b), (1, .ref h), (2, .ref Z1.2.1), (3, .ref o), (4, .int x4)]) hx hb dL_law_1200 hl (by decide) rfl (fun ls hl => ?_)
  refine lv_aload_n hx hb dL_law_1202 rfl (lv_at hl 3 rfl) ?_
  refine lv_aload_n hx hb dL_law_1203 rfl (lv_at hl 1 rfl) ?_
  refine lv_iload hx hb dL_law_1204 (lv_at hl 5 rfl) ?_
  refine lv_iconst (v := 1) hx hb dL_law_1206 (by decide) ?_
  refine lv_iadd hx hb dL_law_1207 ?_
  refine va_sld (i := x4 + 1) hx hb hX hbl hbA hS (hv 1 (by decide)) dL_law_1208 ?_
  refine m_calli (k := k + 1) (n := n + 6) (va_runV (As := [.int (xs (x4 + 1).toNatClampNeg)]) (rest := []) ⟨hx, hb, hml, hown, w_lawH hts⟩ (c_X7_hasResult l G Z1 z3.1 u u1 ((xs (x4 + 1).toNatClampNeg)) bb hf) (cwV 1 (w_lawH hts) gL_law_X7_hasResult rfl rfl rfl (by decide +kernel) ⟨(Nat.le_of_ble_eq_true rfl), (Nat.le_of_ble_eq_true rfl)⟩) (m_preV (C := RX7) (T := TX7) (N := 32) (ci := 10) hM hP hS rfl (by decide) z3.1.1) rfl rfl hl.1 rfl (lv_room (Nat.le_of_ble_eq_true rfl)) dL_law_1209 ⟨by show k + 1 + 0 ≤ 601024; omega, by show n + 6 + 0 ≤ 7293034; omega⟩) hS ⟨Nat.le_refl _, Nat.le_refl _⟩ (fun H locs hP hS => ?_)
  refine lv_istore (lv' := [(6, .int bb), (5, .int (u1.1 31)), (0, .ref b), (1, .ref h), (2, .ref Z1.2.1), (3, .ref o), (4, .int x4)]) hx hb dL_law_1212 hl (by decide) rfl (fun ls hl => ?_)
  refine lv_aload_n hx hb dL_law_1214 rfl (lv_at hl 4 rfl) ?_
  refine m_calli (k := k + 1) (n := n + 6) (va_runV (As := []) (rest := []) ⟨hx, hb, hml, hown, w_lawH hts⟩ (c_X7_thrown l G Z1 z3.1 u1 u1 (u1.1 31) rfl) (cwV 0 (w_lawH hts) gL_law_X7_thrown rfl rfl rfl (by decide +kernel) ⟨(Nat.le_of_ble_eq_true rfl), (Nat.le_of_ble_eq_true rfl)⟩) (m_preV (C := RX7) (T := TX7) (N := 32) (ci := 10) hM hP hS rfl (by decide) z3.1.1) rfl rfl hl.1 rfl (lv_room (Nat.le_of_ble_eq_true rfl)) dL_law_1215 ⟨by show k + 1 + 0 ≤ 601024; omega, by show n + 6 + 0 ≤ 7293034; omega⟩) hS ⟨Nat.le_refl _, Nat.le_refl _⟩ (fun H locs hP hS => ?_)
  refine lv_iload hx hb dL_law_1218 (lv_at hl 1 rfl) ?_
  refine lv_icmp_eq (tgt := 1225) hx hb dL_law_1220 (by decide) (fun _ => ?_) (fun c9 => absurd rfl c9)
  have fin : ∀ ls : Array Slot, lv_has ls 7 [(6, .int bb), (5, .int (u1.1 31)), (0, .ref b), (1, .ref h), (2, .ref Z1.2.1), (3, .ref o), (4, .int x4)] → W p l e room_1 s m #[Value.ref b] below meth c H locs (k + 1) (n + 6) (lw_Z below #[Value.ref b] s) (F0 m 1940 ls []) := fun ls hl => K Z1 ρ1 σ1 u1 H locs ls (k + 1) (n + 6) ⟨z3, hP, hS, lv_sub hl [2, 3, 4, 5, 6] rfl, by omega, by omega⟩
  refine lv_iload hx hb dL_law_1225 (lv_at hl 1 rfl) ?_
  refine lv_if_ne (tgt := 1249) hx hb dL_law_1227 (by decide) (fun _ => lv_goto (tgt := 1940) hx hb dL_law_1249 (by decide) (fin ls hl)) (fun c8 => ?_)
  have e9 : m_la (x_ov Z1 u1) o (0 : Int32).toNatClampNeg = cvB bb := by
    rw [← hcv c8]
    show m_la (x_ov Z1 u) o _ = m_la w3 o _
    rw [z2]
    rfl
  refine lv_aload_n hx hb dL_law_1230 rfl (lv_at hl 5 rfl) ?_
  refine lv_iconst (v := 0) hx hb dL_law_1231 (by decide) ?_
  refine m_lald hx hb hM.1 hP (LZ_o z3 u1) dL_law_1232 ?_
  rw [e9]
  refine lv_iload hx hb dL_law_1233 (lv_at hl 0 rfl) ?_
  refine lv_if_eq (tgt := 1242) hx hb dL_law_1235 (by decide) (fun c7 => ?_) (fun c7 => ?_)
  · rw [show cvB bb = 0 from if_pos c7]
    refine lv_lconst (v := 0) hx hb dL_law_1242 (by decide) ?_
    refine W.lcmp hx hb dL_law_1243 ?_
    exact lv_if_eq (tgt := 1249) hx hb dL_law_1244 (by decide) (fun _ => lv_goto (tgt := 1940) hx hb dL_law_1249 (by decide) (fin ls hl)) (fun c6 => absurd (lg_cmp_self _) c6)
  · rw [show cvB bb = 1 from if_neg c7]
    refine lv_lconst (v := 1) hx hb dL_law_1238 (by decide) ?_
    refine lv_goto (tgt := 1243) hx hb dL_law_1239 (by decide) ?_
    refine W.lcmp hx hb dL_law_1243 ?_
    exact lv_if_eq (tgt := 1249) hx hb dL_law_1244 (by decide) (fun _ => lv_goto (tgt := 1940) hx hb dL_law_1249 (by decide) (fin ls hl)) (fun c6 => absurd (lg_cmp_self _) c6)
set_option maxHeartbeats 4000000 in
set_option maxRecDepth 100000 in
theorem lw_c17 (C0 : lw_At p s m meth c b L xs) (E : lw_E l G s x4 j L) (K : lw_Go p l e s m below meth c b G h o x4 (j + 1) 1940) : lw_Go p l e s m below meth c b G h o x4 j 1252 := by
  intro Z ρ σ u H locs ls k n J
  obtain ⟨hx, hb, hr, hml, hown, hts, hX, hbl, hlocks, hgv⟩ := id C0
  obtain ⟨hst, hM, hG1, hj, hv0, hv⟩ := E
  obtain ⟨hZ, hP, hS, hl, hk, hn⟩ := J
  have hown : s.vm.findClass RL = some m.cls := hown
  have hbA : ¬ (fun q : Nat => G.1 ≤ q) b := by rw [hG1]; exact Nat.not_le.mpr hbl
  have hq0 := LZ_q hZ
  refine lv_aload_n hx hb dL_law_1252 rfl (lv_at hl 1 rfl) ?_
  refine lv_aload_n hx hb dL_law_1253 rfl (lv_at hl 0 rfl) ?_
  refine lv_iload hx hb dL_law_1254 (lv_at hl 4 rfl) ?_
  refine lv_iconst (v := 1) hx hb dL_law_1256 (by decide) ?_
  refine lv_iadd hx hb dL_law_1257 ?_
  refine va_sld (i := x4 + 1) hx hb hX hbl hbA hS (hv 1 (by decide)) dL_law_1258 ?_
  refine lv_aload_n hx hb dL_law_1259 rfl (lv_at hl 0 rfl) ?_
  refine lv_iload hx hb dL_law_1260 (lv_at hl 4 rfl) ?_
  refine lv_iconst (v := 2) hx hb dL_law_1262 (by decide) ?_
  refine lv_iadd hx hb dL_law_1263 ?_
  refine va_sld (i := x4 + 2) hx hb hX hbl hbA hS (hv 2 (by decide)) dL_law_1264 ?_
  refine lv_aload_n hx hb dL_law_1265 rfl (lv_at hl 3 rfl) ?_
  obtain ⟨w3, bb, u1, he, hf, hcv, hall⟩ := LG_result (t0 := G.2.2.2) hZ ((xs (x4 + 1).toNatClampNeg)) ((xs (x4 + 2).toNatClampNeg))
  have hq1 : q_n σ ≤ 400 := by
    obtain ⟨Z9, ρ9, σ9, y1, y2, y3, y4⟩ := hall (m_nx w3) (Nat.le_refl _)
    exact Nat.le_trans y4 (LZ_q y3)
  refine m_calln (k := k + 4) (n := n + 24) (vx_runSW (As := [.ref h, .int (xs (x4 + 1).toNatClampNeg), .int (xs (x4 + 2).toNatClampNeg), .ref o]) (rest := []) ⟨hx, hb, hml, hown, w_lawH hts⟩ (c_L_result l hst G (x_ov Z u) w3 h ((xs (x4 + 1).toNatClampNeg)) ((xs (x4 + 2).toNatClampNeg)) o (u1.1 31) he) (vx_cwSW 4 (w_lawH hts) gL_law_L_result rfl rfl rfl (by decide +kernel) ⟨(Nat.le_of_ble_eq_true rfl), (Nat.le_of_ble_eq_true rfl)⟩) (m_preS hM hP hS) rfl rfl hl.1 rfl (lv_room (Nat.le_of_ble_eq_true rfl)) dL_law_1266 ⟨by show k + 4 ≤ 601024; omega, by show n + 24 ≤ 7293034; omega⟩) hS ⟨Nat.le_refl _, Nat.le_refl _⟩ (fun nn H locs hnn hP hS => ?_)
  obtain ⟨Z1, ρ1, σ1, z1, z2, z3, z4⟩ := hall nn hnn
  rw [← z2] at hP
  have e2 : Z1.2.1 = Z.2.1 := by rw [z1]
  rw [← e2] at hl
  refine lv_istore (lv' := [(5, .int (u1.1 31)), (0, .ref b), (1, .ref h), (2, .ref Z1.2.1), (3, .ref o), (4, .int x4)]) hx hb dL_law_1269 hl (by decide) rfl (fun ls hl => ?_)
  refine lv_aload_n hx hb dL_law_1271 rfl (lv_at hl 3 rfl) ?_
  refine lv_aload_n hx hb dL_law_1272 rfl (lv_at hl 1 rfl) ?_
  refine lv_iload hx hb dL_law_1273 (lv_at hl 5 rfl) ?_
  refine lv_iconst (v := 1) hx hb dL_law_1275 (by decide) ?_
  refine lv_iadd hx hb dL_law_1276 ?_
  refine va_sld (i := x4 + 1) hx hb hX hbl hbA hS (hv 1 (by decide)) dL_law_1277 ?_
  refine lv_aload_n hx hb dL_law_1278 rfl (lv_at hl 1 rfl) ?_
  refine lv_iload hx hb dL_law_1279 (lv_at hl 5 rfl) ?_
  refine lv_iconst (v := 2) hx hb dL_law_1281 (by decide) ?_
  refine lv_iadd hx hb dL_law_1282 ?_
  refine va_sld (i := x4 + 2) hx hb hX hbl hbA hS (hv 2 (by decide)) dL_law_1283 ?_
  refine m_calli (k := k + 4) (n := n + 24) (va_runV (As := [.int (xs (x4 + 1).toNatClampNeg), .int (xs (x4 + 2).toNatClampNeg)]) (rest := []) ⟨hx, hb, hml, hown, w_lawH hts⟩ (c_X7_result l G Z1 z3.1 u u1 ((xs (x4 + 1).toNatClampNeg)) ((xs (x4 + 2).toNatClampNeg)) bb hf) (cwV 2 (w_lawH hts) gL_law_X7_result rfl rfl rfl (by decide +kernel) ⟨(Nat.le_of_ble_eq_true rfl), (Nat.le_of_ble_eq_true rfl)⟩) (m_preV (C := RX7) (T := TX7) (N := 32) (ci := 10) hM hP hS rfl (by decide) z3.1.1) rfl rfl hl.1 rfl (lv_room (Nat.le_of_ble_eq_true rfl)) dL_law_1284 ⟨by show k + 4 + 0 ≤ 601024; omega, by show n + 24 + 0 ≤ 7293034; omega⟩) hS ⟨Nat.le_refl _, Nat.le_refl _⟩ (fun H locs hP hS => ?_)
  refine lv_istore (lv' := [(6, .int bb), (5, .int (u1.1 31)), (0, .ref b), (1, .ref h), (2, .ref Z1.2.1), (3, .ref o), (4, .int x4)]) hx hb dL_law_1287 hl (by decide) rfl (fun ls hl => ?_)
  refine lv_aload_n hx hb dL_law_1289 rfl (lv_at hl 4 rfl) ?_
  refine m_calli (k := k + 4) (n := n + 24) (va_runV (As := []) (rest := []) ⟨hx, hb, hml, hown, w_lawH hts⟩ (c_X7_thrown l G Z1 z3.1 u1 u1 (u1.1 31) rfl) (cwV 0 (w_lawH hts) gL_law_X7_thrown rfl rfl rfl (by decide +kernel) ⟨(Nat.le_of_ble_eq_true rfl), (Nat.le_of_ble_eq_true rfl)⟩) (m_preV (C := RX7) (T := TX7) (N := 32) (ci := 10) hM hP hS rfl (by decide) z3.1.1) rfl rfl hl.1 rfl (lv_room (Nat.le_of_ble_eq_true rfl)) dL_law_1290 ⟨by show k + 4 + 0 ≤ 601024; omega, by show n + 24 + 0 ≤ 7293034; omega⟩) hS ⟨Nat.le_refl _, Nat.le_refl _⟩ (fun H locs hP hS => ?_)
  refine lv_iload hx hb dL_law_1293 (lv_at hl 1 rfl) ?_
  refine lv_icmp_eq (tgt := 1300) hx hb dL_law_1295 (by decide) (fun _ => ?_) (fun c9 => absurd rfl c9)
  have fin : ∀ ls : Array Slot, lv_has ls 7 [(6, .int bb), (5, .int (u1.1 31)), (0, .ref b), (1, .ref h), (2, .ref Z1.2.1), (3, .ref o), (4, .int x4)] → W p l e room_1 s m #[Value.ref b] below meth c H locs (k + 4) (n + 24) (lw_Z below #[Value.ref b] s) (F0 m 1940 ls []) := fun ls hl => K Z1 ρ1 σ1 u1 H locs ls (k + 4) (n + 24) ⟨z3, hP, hS, lv_sub hl [2, 3, 4, 5, 6] rfl, by omega, by omega⟩
  refine lv_iload hx hb dL_law_1300 (lv_at hl 1 rfl) ?_
  refine lv_if_ne (tgt := 1317) hx hb dL_law_1302 (by decide) (fun _ => lv_goto (tgt := 1940) hx hb dL_law_1317 (by decide) (fin ls hl)) (fun c8 => ?_)
  have e9 : m_la (x_ov Z1 u1) o (0 : Int32).toNatClampNeg = cvI bb := by
    rw [← hcv c8]
    show m_la (x_ov Z1 u) o _ = m_la w3 o _
    rw [z2]
    rfl
  refine lv_aload_n hx hb dL_law_1305 rfl (lv_at hl 5 rfl) ?_
  refine lv_iconst (v := 0) hx hb dL_law_1306 (by decide) ?_
  refine m_lald hx hb hM.1 hP (LZ_o z3 u1) dL_law_1307 ?_
  rw [e9]
  refine lv_iload hx hb dL_law_1308 (lv_at hl 0 rfl) ?_
  refine lv_i2l (v := cvI bb) hx hb dL_law_1310 rfl ?_
  refine W.lcmp hx hb dL_law_1311 ?_
  exact lv_if_eq (tgt := 1317) hx hb dL_law_1312 (by decide) (fun _ => lv_goto (tgt := 1940) hx hb dL_law_1317 (by decide) (fin ls hl)) (fun c6 => absurd (lg_cmp_self _) c6)
set_option maxHeartbeats 4000000 in
set_option maxRecDepth 100000 in
theorem lw_c18 (C0 : lw_At p s m meth c b L xs) (E : lw_E l G s x4 j L) (K : lw_Go p l e s m below meth c b G h o x4 (j + 1) 1940) : lw_Go p l e s m below meth c b G h o x4 j 1320 := by
  intro Z ρ σ u H locs ls k n J
  obtain ⟨hx, hb, hr, hml, hown, hts, hX, hbl, hlocks, hgv⟩ := id C0
  obtain ⟨hst, hM, hG1, hj, hv0, hv⟩ := E
  obtain ⟨hZ, hP, hS, hl, hk, hn⟩ := J
  have hown : s.vm.findClass RL = some m.cls := hown
  have hbA : ¬ (fun q : Nat => G.1 ≤ q) b := by rw [hG1]; exact Nat.not_le.mpr hbl
  have hq0 := LZ_q hZ
  refine lv_aload_n hx hb dL_law_1320 rfl (lv_at hl 1 rfl) ?_
  refine lv_aload_n hx hb dL_law_1321 rfl (lv_at hl 0 rfl) ?_
  refine lv_iload hx hb dL_law_1322 (lv_at hl 4 rfl) ?_
  refine lv_iconst (v := 1) hx hb dL_law_1324 (by decide) ?_
  refine lv_iadd hx hb dL_law_1325 ?_
  refine va_sld (i := x4 + 1) hx hb hX hbl hbA hS (hv 1 (by decide)) dL_law_1326 ?_
  refine lv_aload_n hx hb dL_law_1327 rfl (lv_at hl 3 rfl) ?_
  obtain ⟨w3, bb, u1, he, hf, hcv, hall⟩ := LG_seen (t0 := G.2.2.2) hZ ((xs (x4 + 1).toNatClampNeg))
  have hq1 : q_n σ ≤ 400 := by
    obtain ⟨Z9, ρ9, σ9, y1, y2, y3, y4⟩ := hall (m_nx w3) (Nat.le_refl _)
    exact Nat.le_trans y4 (LZ_q y3)
  refine m_calln (k := k + 1) (n := n + 6) (vx_runSW (As := [.ref h, .int (xs (x4 + 1).toNatClampNeg), .ref o]) (rest := []) ⟨hx, hb, hml, hown, w_lawH hts⟩ (c_L_seen l hst G (x_ov Z u) w3 h ((xs (x4 + 1).toNatClampNeg)) o (u1.1 31) he) (vx_cwSW 3 (w_lawH hts) gL_law_L_seen rfl rfl rfl (by decide +kernel) ⟨(Nat.le_of_ble_eq_true rfl), (Nat.le_of_ble_eq_true rfl)⟩) (m_preS hM hP hS) rfl rfl hl.1 rfl (lv_room (Nat.le_of_ble_eq_true rfl)) dL_law_1328 ⟨by show k + 1 ≤ 601024; omega, by show n + 6 ≤ 7293034; omega⟩) hS ⟨Nat.le_refl _, Nat.le_refl _⟩ (fun nn H locs hnn hP hS => ?_)
  obtain ⟨Z1, ρ1, σ1, z1, z2, z3, z4⟩ := hall nn hnn
  rw [← z2] at hP
  have e2 : Z1.2.1 = Z.2.1 := by rw [z1]
  rw [← e2] at hl
  refine lv_istore (lv' := [(5, .int (u1.1 31)), (0, .ref b), (1, .ref h), (2, .ref Z1.2.1), (3, .ref o), (4, .int x4)]) hx hb dL_law_1331 hl (by decide) rfl (fun ls hl => ?_)
  refine lv_aload_n hx hb dL_law_1333 rfl (lv_at hl 3 rfl) ?_
  refine lv_aload_n hx hb dL_law_1334 rfl (lv_at hl 1 rfl) ?_
  refine lv_iload hx hb dL_law_1335 (lv_at hl 5 rfl) ?_
  refine lv_iconst (v := 1) hx hb dL_law_1337 (by decide) ?_
  refine lv_iadd hx hb dL_law_1338 ?_
  refine va_sld (i := x4 + 1) hx hb hX hbl hbA hS (hv 1 (by decide)) dL_law_1339 ?_
  refine m_calli (k := k + 1) (n := n + 6) (va_runV (As := [.int (xs (x4 + 1).toNatClampNeg)]) (rest := []) ⟨hx, hb, hml, hown, w_lawH hts⟩ (c_X7_seen l G Z1 z3.1 u u1 ((xs (x4 + 1).toNatClampNeg)) bb hf) (cwV 1 (w_lawH hts) gL_law_X7_seen rfl rfl rfl (by decide +kernel) ⟨(Nat.le_of_ble_eq_true rfl), (Nat.le_of_ble_eq_true rfl)⟩) (m_preV (C := RX7) (T := TX7) (N := 32) (ci := 10) hM hP hS rfl (by decide) z3.1.1) rfl rfl hl.1 rfl (lv_room (Nat.le_of_ble_eq_true rfl)) dL_law_1340 ⟨by show k + 1 + 0 ≤ 601024; omega, by show n + 6 + 0 ≤ 7293034; omega⟩) hS ⟨Nat.le_refl _, Nat.le_refl _⟩ (fun H locs hP hS => ?_)
  refine lv_istore (lv' := [(6, .int bb), (5, .int (u1.1 31)), (0, .ref b), (1, .ref h), (2, .ref Z1.2.1), (3, .ref o), (4, .int x4)]) hx hb dL_law_1343 hl (by decide) rfl (fun ls hl => ?_)
  refine lv_aload_n hx hb dL_law_1345 rfl (lv_at hl 4 rfl) ?_
  refine m_calli (k := k + 1) (n := n + 6) (va_runV (As := []) (rest := []) ⟨hx, hb, hml, hown, w_lawH hts⟩ (c_X7_thrown l G Z1 z3.1 u1 u1 (u1.1 31) rfl) (cwV 0 (w_lawH hts) gL_law_X7_thrown rfl rfl rfl (by decide +kernel) ⟨(Nat.le_of_ble_eq_true rfl), (Nat.le_of_ble_eq_true rfl)⟩) (m_preV (C := RX7) (T := TX7) (N := 32) (ci := 10) hM hP hS rfl (by decide) z3.1.1) rfl rfl hl.1 rfl (lv_room (Nat.le_of_ble_eq_true rfl)) dL_law_1346 ⟨by show k + 1 + 0 ≤ 601024; omega, by show n + 6 + 0 ≤ 7293034; omega⟩) hS ⟨Nat.le_refl _, Nat.le_refl _⟩ (fun H locs hP hS => ?_)
  refine lv_iload hx hb dL_law_1349 (lv_at hl 1 rfl) ?_
  refine lv_icmp_eq (tgt := 1356) hx hb dL_law_1351 (by decide) (fun _ => ?_) (fun c9 => absurd rfl c9)
  have fin : ∀ ls : Array Slot, lv_has ls 7 [(6, .int bb), (5, .int (u1.1 31)), (0, .ref b), (1, .ref h), (2, .ref Z1.2.1), (3, .ref o), (4, .int x4)] → W p l e room_1 s m #[Value.ref b] below meth c H locs (k + 1) (n + 6) (lw_Z below #[Value.ref b] s) (F0 m 1940 ls []) := fun ls hl => K Z1 ρ1 σ1 u1 H locs ls (k + 1) (n + 6) ⟨z3, hP, hS, lv_sub hl [2, 3, 4, 5, 6] rfl, by omega, by omega⟩
  refine lv_iload hx hb dL_law_1356 (lv_at hl 1 rfl) ?_
  refine lv_if_ne (tgt := 1373) hx hb dL_law_1358 (by decide) (fun _ => lv_goto (tgt := 1940) hx hb dL_law_1373 (by decide) (fin ls hl)) (fun c8 => ?_)
  have e9 : m_la (x_ov Z1 u1) o (0 : Int32).toNatClampNeg = cvI bb := by
    rw [← hcv c8]
    show m_la (x_ov Z1 u) o _ = m_la w3 o _
    rw [z2]
    rfl
  refine lv_aload_n hx hb dL_law_1361 rfl (lv_at hl 5 rfl) ?_
  refine lv_iconst (v := 0) hx hb dL_law_1362 (by decide) ?_
  refine m_lald hx hb hM.1 hP (LZ_o z3 u1) dL_law_1363 ?_
  rw [e9]
  refine lv_iload hx hb dL_law_1364 (lv_at hl 0 rfl) ?_
  refine lv_i2l (v := cvI bb) hx hb dL_law_1366 rfl ?_
  refine W.lcmp hx hb dL_law_1367 ?_
  exact lv_if_eq (tgt := 1373) hx hb dL_law_1368 (by decide) (fun _ => lv_goto (tgt := 1940) hx hb dL_law_1373 (by decide) (fin ls hl)) (fun c6 => absurd (lg_cmp_self _) c6)
set_option maxHeartbeats 4000000 in
set_option maxRecDepth 100000 in
theorem lw_c19 (C0 : lw_At p s m meth c b L xs) (E : lw_E l G s x4 j L) (K : lw_Go p l e s m below meth c b G h o x4 (j + 1) 1940) : lw_Go p l e s m below meth c b G h o x4 j 1376 := by
  intro Z ρ σ u H locs ls k n J
  obtain ⟨hx, hb, hr, hml, hown, hts, hX, hbl, hlocks, hgv⟩ := id C0
  obtain ⟨hst, hM, hG1, hj, hv0, hv⟩ := E
  obtain ⟨hZ, hP, hS, hl, hk, hn⟩ := J
  have hown : s.vm.findClass RL = some m.cls := hown
  have hbA : ¬ (fun q : Nat => G.1 ≤ q) b := by rw [hG1]; exact Nat.not_le.mpr hbl
  have hq0 := LZ_q hZ
  refine lv_aload_n hx hb dL_law_1376 rfl (lv_at hl 1 rfl) ?_
  refine lv_aload_n hx hb dL_law_1377 rfl (lv_at hl 0 rfl) ?_
  refine lv_iload hx hb dL_law_1378 (lv_at hl 4 rfl) ?_
  refine lv_iconst (v := 1) hx hb dL_law_1380 (by decide) ?_
  refine lv_iadd hx hb dL_law_1381 ?_
  refine va_sld (i := x4 + 1) hx hb hX hbl hbA hS (hv 1 (by decide)) dL_law_1382 ?_
  refine lv_aload_n hx hb dL_law_1383 rfl (lv_at hl 3 rfl) ?_
  obtain ⟨w3, bb, u1, he, hf, hcv, hall⟩ := LG_timesSeen (t0 := G.2.2.2) hZ ((xs (x4 + 1).toNatClampNeg))
  have hq1 : q_n σ ≤ 400 := by
    obtain ⟨Z9, ρ9, σ9, y1, y2, y3, y4⟩ := hall (m_nx w3) (Nat.le_refl _)
    exact Nat.le_trans y4 (LZ_q y3)
  refine m_calln (k := k + 1) (n := n + 6) (vx_runSW (As := [.ref h, .int (xs (x4 + 1).toNatClampNeg), .ref o]) (rest := []) ⟨hx, hb, hml, hown, w_lawH hts⟩ (c_L_timesSeen l hst G (x_ov Z u) w3 h ((xs (x4 + 1).toNatClampNeg)) o (u1.1 31) he) (vx_cwSW 3 (w_lawH hts) gL_law_L_timesSeen rfl rfl rfl (by decide +kernel) ⟨(Nat.le_of_ble_eq_true rfl), (Nat.le_of_ble_eq_true rfl)⟩) (m_preS hM hP hS) rfl rfl hl.1 rfl (lv_room (Nat.le_of_ble_eq_true rfl)) dL_law_1384 ⟨by show k + 1 ≤ 601024; omega, by show n + 6 ≤ 7293034; omega⟩) hS ⟨Nat.le_refl _, Nat.le_refl _⟩ (fun nn H locs hnn hP hS => ?_)
  obtain ⟨Z1, ρ1, σ1, z1, z2, z3, z4⟩ := hall nn hnn
  rw [← z2] at hP
  have e2 : Z1.2.1 = Z.2.1 := by rw [z1]
  rw [← e2] at hl
  refine lv_istore (lv' := [(5, .int (u1.1 31)), (0, .ref b), (1, .ref h), (2, .ref Z1.2.1), (3, .ref o), (4, .int x4)]) hx hb dL_law_1387 hl (by decide) rfl (fun ls hl => ?_)
  refine lv_aload_n hx hb dL_law_1389 rfl (lv_at hl 3 rfl) ?_
  refine lv_aload_n hx hb dL_law_1390 rfl (lv_at hl 1 rfl) ?_
  refine lv_iload hx hb dL_law_1391 (lv_at hl 5 rfl) ?_
  refine lv_iconst (v := 1) hx hb dL_law_1393 (by decide) ?_
  refine lv_iadd hx hb dL_law_1394 ?_
  refine va_sld (i := x4 + 1) hx hb hX hbl hbA hS (hv 1 (by decide)) dL_law_1395 ?_
  refine m_calli (k := k + 1) (n := n + 6) (va_runV (As := [.int (xs (x4 + 1).toNatClampNeg)]) (rest := []) ⟨hx, hb, hml, hown, w_lawH hts⟩ (c_X7_timesSeen l G Z1 z3.1 u u1 ((xs (x4 + 1).toNatClampNeg)) bb hf) (cwV 1 (w_lawH hts) gL_law_X7_timesSeen rfl rfl rfl (by decide +kernel) ⟨(Nat.le_of_ble_eq_true rfl), (Nat.le_of_ble_eq_true rfl)⟩) (m_preV (C := RX7) (T := TX7) (N := 32) (ci := 10) hM hP hS rfl (by decide) z3.1.1) rfl rfl hl.1 rfl (lv_room (Nat.le_of_ble_eq_true rfl)) dL_law_1396 ⟨by show k + 1 + 0 ≤ 601024; omega, by show n + 6 + 0 ≤ 7293034; omega⟩) hS ⟨Nat.le_refl _, Nat.le_refl _⟩ (fun H locs hP hS => ?_)
  refine lv_istore (lv' := [(6, .int bb), (5, .int (u1.1 31)), (0, .ref b), (1, .ref h), (2, .ref Z1.2.1), (3, .ref o), (4, .int x4)]) hx hb dL_law_1399 hl (by decide) rfl (fun ls hl => ?_)
  refine lv_aload_n hx hb dL_law_1401 rfl (lv_at hl 4 rfl) ?_
  refine m_calli (k := k + 1) (n := n + 6) (va_runV (As := []) (rest := []) ⟨hx, hb, hml, hown, w_lawH hts⟩ (c_X7_thrown l G Z1 z3.1 u1 u1 (u1.1 31) rfl) (cwV 0 (w_lawH hts) gL_law_X7_thrown rfl rfl rfl (by decide +kernel) ⟨(Nat.le_of_ble_eq_true rfl), (Nat.le_of_ble_eq_true rfl)⟩) (m_preV (C := RX7) (T := TX7) (N := 32) (ci := 10) hM hP hS rfl (by decide) z3.1.1) rfl rfl hl.1 rfl (lv_room (Nat.le_of_ble_eq_true rfl)) dL_law_1402 ⟨by show k + 1 + 0 ≤ 601024; omega, by show n + 6 + 0 ≤ 7293034; omega⟩) hS ⟨Nat.le_refl _, Nat.le_refl _⟩ (fun H locs hP hS => ?_)
  refine lv_iload hx hb dL_law_1405 (lv_at hl 1 rfl) ?_
  refine lv_icmp_eq (tgt := 1412) hx hb dL_law_1407 (by decide) (fun _ => ?_) (fun c9 => absurd rfl c9)
  have fin : ∀ ls : Array Slot, lv_has ls 7 [(6, .int bb), (5, .int (u1.1 31)), (0, .ref b), (1, .ref h), (2, .ref Z1.2.1), (3, .ref o), (4, .int x4)] → W p l e room_1 s m #[Value.ref b] below meth c H locs (k + 1) (n + 6) (lw_Z below #[Value.ref b] s) (F0 m 1940 ls []) := fun ls hl => K Z1 ρ1 σ1 u1 H locs ls (k + 1) (n + 6) ⟨z3, hP, hS, lv_sub hl [2, 3, 4, 5, 6] rfl, by omega, by omega⟩
  refine lv_iload hx hb dL_law_1412 (lv_at hl 1 rfl) ?_
  refine lv_if_ne (tgt := 1429) hx hb dL_law_1414 (by decide) (fun _ => lv_goto (tgt := 1940) hx hb dL_law_1429 (by decide) (fin ls hl)) (fun c8 => ?_)
  have e9 : m_la (x_ov Z1 u1) o (0 : Int32).toNatClampNeg = cvI bb := by
    rw [← hcv c8]
    show m_la (x_ov Z1 u) o _ = m_la w3 o _
    rw [z2]
    rfl
  refine lv_aload_n hx hb dL_law_1417 rfl (lv_at hl 5 rfl) ?_
  refine lv_iconst (v := 0) hx hb dL_law_1418 (by decide) ?_
  refine m_lald hx hb hM.1 hP (LZ_o z3 u1) dL_law_1419 ?_
  rw [e9]
  refine lv_iload hx hb dL_law_1420 (lv_at hl 0 rfl) ?_
  refine lv_i2l (v := cvI bb) hx hb dL_law_1422 rfl ?_
  refine W.lcmp hx hb dL_law_1423 ?_
  exact lv_if_eq (tgt := 1429) hx hb dL_law_1424 (by decide) (fun _ => lv_goto (tgt := 1940) hx hb dL_law_1429 (by decide) (fin ls hl)) (fun c6 => absurd (lg_cmp_self _) c6)
set_option maxHeartbeats 4000000 in
set_option maxRecDepth 100000 in
theorem lw_c20 (C0 : lw_At p s m meth c b L xs) (E : lw_E l G s x4 j L) (K : lw_Go p l e s m below meth c b G h o x4 (j + 1) 1940) : lw_Go p l e s m below meth c b G h o x4 j 1432 := by
  intro Z ρ σ u H locs ls k n J
  obtain ⟨hx, hb, hr, hml, hown, hts, hX, hbl, hlocks, hgv⟩ := id C0
  obtain ⟨hst, hM, hG1, hj, hv0, hv⟩ := E
  obtain ⟨hZ, hP, hS, hl, hk, hn⟩ := J
  have hown : s.vm.findClass RL = some m.cls := hown
  have hbA : ¬ (fun q : Nat => G.1 ≤ q) b := by rw [hG1]; exact Nat.not_le.mpr hbl
  have hq0 := LZ_q hZ
  refine lv_aload_n hx hb dL_law_1432 rfl (lv_at hl 1 rfl) ?_
  refine lv_aload_n hx hb dL_law_1433 rfl (lv_at hl 0 rfl) ?_
  refine lv_iload hx hb dL_law_1434 (lv_at hl 4 rfl) ?_
  refine lv_iconst (v := 1) hx hb dL_law_1436 (by decide) ?_
  refine lv_iadd hx hb dL_law_1437 ?_
  refine va_sld (i := x4 + 1) hx hb hX hbl hbA hS (hv 1 (by decide)) dL_law_1438 ?_
  refine lv_aload_n hx hb dL_law_1439 rfl (lv_at hl 3 rfl) ?_
  obtain ⟨w3, bb, u1, he, hf, hcv, hall⟩ := LG_why (t0 := G.2.2.2) hZ ((xs (x4 + 1).toNatClampNeg))
  have hq1 : q_n σ ≤ 400 := by
    obtain ⟨Z9, ρ9, σ9, y1, y2, y3, y4⟩ := hall (m_nx w3) (Nat.le_refl _)
    exact Nat.le_trans y4 (LZ_q y3)
  refine m_calln (k := k + 1) (n := n + 6) (vx_runSW (As := [.ref h, .int (xs (x4 + 1).toNatClampNeg), .ref o]) (rest := []) ⟨hx, hb, hml, hown, w_lawH hts⟩ (c_L_why l hst G (x_ov Z u) w3 h ((xs (x4 + 1).toNatClampNeg)) o (u1.1 31) he) (vx_cwSW 3 (w_lawH hts) gL_law_L_why rfl rfl rfl (by decide +kernel) ⟨(Nat.le_of_ble_eq_true rfl), (Nat.le_of_ble_eq_true rfl)⟩) (m_preS hM hP hS) rfl rfl hl.1 rfl (lv_room (Nat.le_of_ble_eq_true rfl)) dL_law_1440 ⟨by show k + 1 ≤ 601024; omega, by show n + 6 ≤ 7293034; omega⟩) hS ⟨Nat.le_refl _, Nat.le_refl _⟩ (fun nn H locs hnn hP hS => ?_)
  obtain ⟨Z1, ρ1, σ1, z1, z2, z3, z4⟩ := hall nn hnn
  rw [← z2] at hP
  have e2 : Z1.2.1 = Z.2.1 := by rw [z1]
  rw [← e2] at hl
  refine lv_istore (lv' := [(5, .int (u1.1 31)), (0, .ref b), (1, .ref h), (2, .ref Z1.2.1), (3, .ref o), (4, .int x4)]) hx hb dL_law_1443 hl (by decide) rfl (fun ls hl => ?_)
  refine lv_aload_n hx hb dL_law_1445 rfl (lv_at hl 3 rfl) ?_
  refine lv_aload_n hx hb dL_law_1446 rfl (lv_at hl 1 rfl) ?_
  refine lv_iload hx hb dL_law_1447 (lv_at hl 5 rfl) ?_
  refine lv_iconst (v := 1) hx hb dL_law_1449 (by decide) ?_
  refine lv_iadd hx hb dL_law_1450 ?_
  refine va_sld (i := x4 + 1) hx hb hX hbl hbA hS (hv 1 (by decide)) dL_law_1451 ?_
  refine m_calli (k := k + 1) (n := n + 6) (va_runV (As := [.int (xs (x4 + 1).toNatClampNeg)]) (rest := []) ⟨hx, hb, hml, hown, w_lawH hts⟩ (c_X7_why l G Z1 z3.1 u u1 ((xs (x4 + 1).toNatClampNeg)) bb hf) (cwV 1 (w_lawH hts) gL_law_X7_why rfl rfl rfl (by decide +kernel) ⟨(Nat.le_of_ble_eq_true rfl), (Nat.le_of_ble_eq_true rfl)⟩) (m_preV (C := RX7) (T := TX7) (N := 32) (ci := 10) hM hP hS rfl (by decide) z3.1.1) rfl rfl hl.1 rfl (lv_room (Nat.le_of_ble_eq_true rfl)) dL_law_1452 ⟨by show k + 1 + 0 ≤ 601024; omega, by show n + 6 + 0 ≤ 7293034; omega⟩) hS ⟨Nat.le_refl _, Nat.le_refl _⟩ (fun H locs hP hS => ?_)
  refine lv_istore (lv' := [(6, .int bb), (5, .int (u1.1 31)), (0, .ref b), (1, .ref h), (2, .ref Z1.2.1), (3, .ref o), (4, .int x4)]) hx hb dL_law_1455 hl (by decide) rfl (fun ls hl => ?_)
  refine lv_aload_n hx hb dL_law_1457 rfl (lv_at hl 4 rfl) ?_
  refine m_calli (k := k + 1) (n := n + 6) (va_runV (As := []) (rest := []) ⟨hx, hb, hml, hown, w_lawH hts⟩ (c_X7_thrown l G Z1 z3.1 u1 u1 (u1.1 31) rfl) (cwV 0 (w_lawH hts) gL_law_X7_thrown rfl rfl rfl (by decide +kernel) ⟨(Nat.le_of_ble_eq_true rfl), (Nat.le_of_ble_eq_true rfl)⟩) (m_preV (C := RX7) (T := TX7) (N := 32) (ci := 10) hM hP hS rfl (by decide) z3.1.1) rfl rfl hl.1 rfl (lv_room (Nat.le_of_ble_eq_true rfl)) dL_law_1458 ⟨by show k + 1 + 0 ≤ 601024; omega, by show n + 6 + 0 ≤ 7293034; omega⟩) hS ⟨Nat.le_refl _, Nat.le_refl _⟩ (fun H locs hP hS => ?_)
  refine lv_iload hx hb dL_law_1461 (lv_at hl 1 rfl) ?_
  refine lv_icmp_eq (tgt := 1468) hx hb dL_law_1463 (by decide) (fun _ => ?_) (fun c9 => absurd rfl c9)
  have fin : ∀ ls : Array Slot, lv_has ls 7 [(6, .int bb), (5, .int (u1.1 31)), (0, .ref b), (1, .ref h), (2, .ref Z1.2.1), (3, .ref o), (4, .int x4)] → W p l e room_1 s m #[Value.ref b] below meth c H locs (k + 1) (n + 6) (lw_Z below #[Value.ref b] s) (F0 m 1940 ls []) := fun ls hl => K Z1 ρ1 σ1 u1 H locs ls (k + 1) (n + 6) ⟨z3, hP, hS, lv_sub hl [2, 3, 4, 5, 6] rfl, by omega, by omega⟩
  refine lv_iload hx hb dL_law_1468 (lv_at hl 1 rfl) ?_
  refine lv_if_ne (tgt := 1485) hx hb dL_law_1470 (by decide) (fun _ => lv_goto (tgt := 1940) hx hb dL_law_1485 (by decide) (fin ls hl)) (fun c8 => ?_)
  have e9 : m_la (x_ov Z1 u1) o (0 : Int32).toNatClampNeg = cvI bb := by
    rw [← hcv c8]
    show m_la (x_ov Z1 u) o _ = m_la w3 o _
    rw [z2]
    rfl
  refine lv_aload_n hx hb dL_law_1473 rfl (lv_at hl 5 rfl) ?_
  refine lv_iconst (v := 0) hx hb dL_law_1474 (by decide) ?_
  refine m_lald hx hb hM.1 hP (LZ_o z3 u1) dL_law_1475 ?_
  rw [e9]
  refine lv_iload hx hb dL_law_1476 (lv_at hl 0 rfl) ?_
  refine lv_i2l (v := cvI bb) hx hb dL_law_1478 rfl ?_
  refine W.lcmp hx hb dL_law_1479 ?_
  exact lv_if_eq (tgt := 1485) hx hb dL_law_1480 (by decide) (fun _ => lv_goto (tgt := 1940) hx hb dL_law_1485 (by decide) (fin ls hl)) (fun c6 => absurd (lg_cmp_self _) c6)
end LAWCASES
