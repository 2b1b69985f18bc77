section LAWCASES
variable {p : Program} {l : Launch} {e : Env} {s : State} {m : MethodId} {below : List Frame} {meth : Method} {c : Code} {b L : Nat} {xs : Nat → Int32} {G : m_G} {h o j : Nat} {x4 : Int32}
set_option maxHeartbeats 4000000 in
set_option maxRecDepth 100000 in
theorem lw_c7 (C0 : lw_At p s m meth c b L xs) (E : lw_E l G s x4 j L) (K : lw_Go p l e s m below meth c b G h o x4 (j + 1) 1940) : lw_Go p l e s m below meth c b G h o x4 j 611 := by
  intro Z ρ σ u H locs ls k n J
  obtain ⟨hx, hb, hr, hml, hown, hts, hX, hbl, hlocks, hgv⟩ := id C0
  obtain ⟨hst, hM, hG1, hj, hv0, hv⟩ := E
  obtain ⟨hZ, hP, hS, hl, hk, hn⟩ := J
  have hown : s.vm.findClass RL = some m.cls := hown
  have hbA : ¬ (fun q : Nat => G.1 ≤ q) b := by rw [hG1]; exact Nat.not_le.mpr hbl
  have hq0 := LZ_q hZ
  refine lv_aload_n hx hb dL_law_611 rfl (lv_at hl 1 rfl) ?_
  refine lv_aload_n hx hb dL_law_612 rfl (lv_at hl 0 rfl) ?_
  refine lv_iload hx hb dL_law_613 (lv_at hl 4 rfl) ?_
  refine lv_iconst (v := 1) hx hb dL_law_615 (by decide) ?_
  refine lv_iadd hx hb dL_law_616 ?_
  refine va_sld (i := x4 + 1) hx hb hX hbl hbA hS (hv 1 (by decide)) dL_law_617 ?_
  refine lv_aload_n hx hb dL_law_618 rfl (lv_at hl 0 rfl) ?_
  refine lv_iload hx hb dL_law_619 (lv_at hl 4 rfl) ?_
  refine lv_iconst (v := 2) hx hb dL_law_621 (by decide) ?_
  refine lv_iadd hx hb dL_law_622 ?_
  refine va_sld (i := x4 + 2) hx hb hX hbl hbA hS (hv 2 (by decide)) dL_law_623 ?_
  refine lv_aload_n hx hb dL_law_624 rfl (lv_at hl 3 rfl) ?_
  obtain ⟨w3, bb, u1, he, hf, hcv, hall⟩ := LG_sourceChar (t0 := G.2.2.2) hZ ((xs (x4 + 1).toNatClampNeg)) ((xs (x4 + 2).toNatClampNeg))
  have hq1 : q_n σ ≤ 400 := by
    obtain ⟨Z9, ρ9, σ9, y1, y2, y3, y4⟩ := hall (m_nx w3) (Nat.le_refl _)
    exact Nat.le_trans y4 (LZ_q y3)
  refine m_calln (k := k + 46) (n := n + 6332) (vx_runSW (As := [.ref h, .int (xs (x4 + 1).toNatClampNeg), .int (xs (x4 + 2).toNatClampNeg), .ref o]) (rest := []) ⟨hx, hb, hml, hown, w_lawH hts⟩ (c_L_sourceChar l hst G (x_ov Z u) w3 h ((xs (x4 + 1).toNatClampNeg)) ((xs (x4 + 2).toNatClampNeg)) o (u1.1 31) he) (vx_cwSW 4 (w_lawH hts) gL_law_L_sourceChar rfl rfl rfl (by decide +kernel) ⟨(Nat.le_of_ble_eq_true rfl), (Nat.le_of_ble_eq_true rfl)⟩) (m_preS hM hP hS) rfl rfl hl.1 rfl (lv_room (Nat.le_of_ble_eq_true rfl)) dL_law_625 ⟨by show k + 46 ≤ 601024; omega, by show n + 6332 ≤ 7293034; omega⟩) hS ⟨Nat.le_refl _, Nat.le_refl _⟩ (fun nn H locs hnn hP hS => ?_)
  obtain ⟨Z1, ρ1, σ1, z1, z2, z3, z4⟩ := hall nn hnn
  rw [← z2] at hP
  have e2 : Z1.2.1 = Z.2.1 := by rw [z1]
  rw [← e2] at hl
  refine lv_istore (lv' := [(5, .int (u1.1 31)), (0, .ref b), (1, .ref h), (2, .ref Z1.2.1), (3, .ref o), (4, .int x4)]) hx hb dL_law_628 hl (by decide) rfl (fun ls hl => ?_)
  refine lv_aload_n hx hb dL_law_630 rfl (lv_at hl 3 rfl) ?_
  refine lv_aload_n hx hb dL_law_631 rfl (lv_at hl 1 rfl) ?_
  refine lv_iload hx hb dL_law_632 (lv_at hl 5 rfl) ?_
  refine lv_iconst (v := 1) hx hb dL_law_634 (by decide) ?_
  refine lv_iadd hx hb dL_law_635 ?_
  refine va_sld (i := x4 + 1) hx hb hX hbl hbA hS (hv 1 (by decide)) dL_law_636 ?_
  refine lv_aload_n hx hb dL_law_637 rfl (lv_at hl 1 rfl) ?_
  refine lv_iload hx hb dL_law_638 (lv_at hl 5 rfl) ?_
  refine lv_iconst (v := 2) hx hb dL_law_640 (by decide) ?_
  refine lv_iadd hx hb dL_law_641 ?_
  refine va_sld (i := x4 + 2) hx hb hX hbl hbA hS (hv 2 (by decide)) dL_law_642 ?_
  refine m_calli (k := k + 46) (n := n + 6332) (va_runV (As := [.int (xs (x4 + 1).toNatClampNeg), .int (xs (x4 + 2).toNatClampNeg)]) (rest := []) ⟨hx, hb, hml, hown, w_lawH hts⟩ (c_X7_sourceChar l G Z1 z3.1 u u1 ((xs (x4 + 1).toNatClampNeg)) ((xs (x4 + 2).toNatClampNeg)) bb hf) (cwV 2 (w_lawH hts) gL_law_X7_sourceChar rfl rfl rfl (by decide +kernel) ⟨(Nat.le_of_ble_eq_true rfl), (Nat.le_of_ble_eq_true rfl)⟩) (m_preV (C := RX7) (T := TX7) (N := 32) (ci := 10) hM hP hS rfl (by decide) z3.1.1) rfl rfl hl.1 rfl (lv_room (Nat.le_of_ble_eq_true rfl)) dL_law_643 ⟨by show k + 46 + 0 ≤ 601024; omega, by show n + 6332 + 0 ≤ 7293034; omega⟩) hS ⟨Nat.le_refl _, Nat.le_refl _⟩ (fun H locs hP hS => ?_)
  refine lv_istore (lv' := [(6, .int bb), (5, .int (u1.1 31)), (0, .ref b), (1, .ref h), (2, .ref Z1.2.1), (3, .ref o), (4, .int x4)]) hx hb dL_law_646 hl (by decide) rfl (fun ls hl => ?_)
  refine lv_aload_n hx hb dL_law_648 rfl (lv_at hl 4 rfl) ?_
  refine m_calli (k := k + 46) (n := n + 6332) (va_runV (As := []) (rest := []) ⟨hx, hb, hml, hown, w_lawH hts⟩ (c_X7_thrown l G Z1 z3.1 u1 u1 (u1.1 31) rfl) (cwV 0 (w_lawH hts) gL_law_X7_thrown rfl rfl rfl (by decide +kernel) ⟨(Nat.le_of_ble_eq_true rfl), (Nat.le_of_ble_eq_true rfl)⟩) (m_preV (C := RX7) (T := TX7) (N := 32) (ci := 10) hM hP hS rfl (by decide) z3.1.1) rfl rfl hl.1 rfl (lv_room (Nat.le_of_ble_eq_true rfl)) dL_law_649 ⟨by show k + 46 + 0 ≤ 601024; omega, by show n + 6332 + 0 ≤ 7293034; omega⟩) hS ⟨Nat.le_refl _, Nat.le_refl _⟩ (fun H locs hP hS => ?_)
  refine lv_iload hx hb dL_law_652 (lv_at hl 1 rfl) ?_
  refine lv_icmp_eq (tgt := 659) hx hb dL_law_654 (by decide) (fun _ => ?_) (fun c9 => absurd rfl c9)
  have fin : ∀ ls : Array Slot, lv_has ls 7 [(6, .int bb), (5, .int (u1.1 31)), (0, .ref b), (1, .ref h), (2, .ref Z1.2.1), (3, .ref o), (4, .int x4)] → W p l e room_1 s m #[Value.ref b] below meth c H locs (k + 46) (n + 6332) (lw_Z below #[Value.ref b] s) (F0 m 1940 ls []) := fun ls hl => K Z1 ρ1 σ1 u1 H locs ls (k + 46) (n + 6332) ⟨z3, hP, hS, lv_sub hl [2, 3, 4, 5, 6] rfl, by omega, by omega⟩
  refine lv_iload hx hb dL_law_659 (lv_at hl 1 rfl) ?_
  refine lv_if_ne (tgt := 676) hx hb dL_law_661 (by decide) (fun _ => lv_goto (tgt := 1940) hx hb dL_law_676 (by decide) (fin ls hl)) (fun c8 => ?_)
  have e9 : m_la (x_ov Z1 u1) o (0 : Int32).toNatClampNeg = cvI bb := by
    rw [← hcv c8]
    show m_la (x_ov Z1 u) o _ = m_la w3 o _
    rw [z2]
    rfl
  refine lv_aload_n hx hb dL_law_664 rfl (lv_at hl 5 rfl) ?_
  refine lv_iconst (v := 0) hx hb dL_law_665 (by decide) ?_
  refine m_lald hx hb hM.1 hP (LZ_o z3 u1) dL_law_666 ?_
  rw [e9]
  refine lv_iload hx hb dL_law_667 (lv_at hl 0 rfl) ?_
  refine lv_i2l (v := cvI bb) hx hb dL_law_669 rfl ?_
  refine W.lcmp hx hb dL_law_670 ?_
  exact lv_if_eq (tgt := 676) hx hb dL_law_671 (by decide) (fun _ => lv_goto (tgt := 1940) hx hb dL_law_676 (by decide) (fin ls hl)) (fun c6 => absurd (lg_cmp_self _) c6)
set_option maxHeartbeats 4000000 in
set_option maxRecDepth 100000 in
theorem lw_c8 (C0 : lw_At p s m meth c b L xs) (E : lw_E l G s x4 j L) (K : lw_Go p l e s m below meth c b G h o x4 (j + 1) 1940) : lw_Go p l e s m below meth c b G h o x4 j 679 := by
  intro Z ρ σ u H locs ls k n J
  obtain ⟨hx, hb, hr, hml, hown, hts, hX, hbl, hlocks, hgv⟩ := id C0
  obtain ⟨hst, hM, hG1, hj, hv0, hv⟩ := E
  obtain ⟨hZ, hP, hS, hl, hk, hn⟩ := J
  have hown : s.vm.findClass RL = some m.cls := hown
  have hbA : ¬ (fun q : Nat => G.1 ≤ q) b := by rw [hG1]; exact Nat.not_le.mpr hbl
  have hq0 := LZ_q hZ
  refine lv_aload_n hx hb dL_law_679 rfl (lv_at hl 1 rfl) ?_
  refine lv_aload_n hx hb dL_law_680 rfl (lv_at hl 0 rfl) ?_
  refine lv_iload hx hb dL_law_681 (lv_at hl 4 rfl) ?_
  refine lv_iconst (v := 1) hx hb dL_law_683 (by decide) ?_
  refine lv_iadd hx hb dL_law_684 ?_
  refine va_sld (i := x4 + 1) hx hb hX hbl hbA hS (hv 1 (by decide)) dL_law_685 ?_
  refine lv_aload_n hx hb dL_law_686 rfl (lv_at hl 0 rfl) ?_
  refine lv_iload hx hb dL_law_687 (lv_at hl 4 rfl) ?_
  refine lv_iconst (v := 2) hx hb dL_law_689 (by decide) ?_
  refine lv_iadd hx hb dL_law_690 ?_
  refine va_sld (i := x4 + 2) hx hb hX hbl hbA hS (hv 2 (by decide)) dL_law_691 ?_
  refine lv_aload_n hx hb dL_law_692 rfl (lv_at hl 0 rfl) ?_
  refine lv_iload hx hb dL_law_693 (lv_at hl 4 rfl) ?_
  refine lv_iconst (v := 3) hx hb dL_law_695 (by decide) ?_
  refine lv_iadd hx hb dL_law_696 ?_
  refine va_sld (i := x4 + 3) hx hb hX hbl hbA hS (hv 3 (by decide)) dL_law_697 ?_
  refine lv_aload_n hx hb dL_law_698 rfl (lv_at hl 3 rfl) ?_
  obtain ⟨w3, bb, u1, he, hf, hcv, hall⟩ := LG_grant (t0 := G.2.2.2) hZ ((xs (x4 + 1).toNatClampNeg)) ((xs (x4 + 2).toNatClampNeg)) ((xs (x4 + 3).toNatClampNeg))
  have hq1 : q_n σ ≤ 400 := by
    obtain ⟨Z9, ρ9, σ9, y1, y2, y3, y4⟩ := hall (m_nx w3) (Nat.le_refl _)
    exact Nat.le_trans y4 (LZ_q y3)
  refine m_calln (k := k + 3) (n := n + 18) (vx_runSW (As := [.ref h, .int (xs (x4 + 1).toNatClampNeg), .int (xs (x4 + 2).toNatClampNeg), .int (xs (x4 + 3).toNatClampNeg), .ref o]) (rest := []) ⟨hx, hb, hml, hown, w_lawH hts⟩ (c_L_grant l hst G (x_ov Z u) w3 h ((xs (x4 + 1).toNatClampNeg)) ((xs (x4 + 2).toNatClampNeg)) ((xs (x4 + 3).toNatClampNeg)) o (u1.1 31) he) (vx_cwSW 5 (w_lawH hts) gL_law_L_grant rfl rfl rfl (by decide +kernel) ⟨(Nat.le_of_ble_eq_true rfl), (Nat.le_of_ble_eq_true rfl)⟩) (m_preS hM hP hS) rfl rfl hl.1 rfl (lv_room (Nat.le_of_ble_eq_true rfl)) dL_law_699 ⟨by show k + 3 ≤ 601024; omega, by show n + 18 ≤ 7293034; omega⟩) hS ⟨Nat.le_refl _, Nat.le_refl _⟩ (fun nn H locs hnn hP hS => ?_)
  obtain ⟨Z1, ρ1, σ1, z1, z2, z3, z4⟩ := hall nn hnn
  rw [← z2] at hP
  have e2 : Z1.2.1 = Z.2.1 := by rw [z1]
  rw [← e2] at hl
  refine lv_istore (lv' := [(5, .int (u1.1 31)), (0, .ref b), (1, .ref h), (2, .ref Z1.2.1), (3, .ref o), (4, .int x4)]) hx hb dL_law_702 hl (by decide) rfl (fun ls hl => ?_)
  refine lv_aload_n hx hb dL_law_704 rfl (lv_at hl 3 rfl) ?_
  refine lv_aload_n hx hb dL_law_705 rfl (lv_at hl 1 rfl) ?_
  refine lv_iload hx hb dL_law_706 (lv_at hl 5 rfl) ?_
  refine lv_iconst (v := 1) hx hb dL_law_708 (by decide) ?_
  refine lv_iadd hx hb dL_law_709 ?_
  refine va_sld (i := x4 + 1) hx hb hX hbl hbA hS (hv 1 (by decide)) dL_law_710 ?_
  refine lv_aload_n hx hb dL_law_711 rfl (lv_at hl 1 rfl) ?_
  refine lv_iload hx hb dL_law_712 (lv_at hl 5 rfl) ?_
  refine lv_iconst (v := 2) hx hb dL_law_714 (by decide) ?_
  refine lv_iadd hx hb dL_law_715 ?_
  refine va_sld (i := x4 + 2) hx hb hX hbl hbA hS (hv 2 (by decide)) dL_law_716 ?_
  refine lv_aload_n hx hb dL_law_717 rfl (lv_at hl 1 rfl) ?_
  refine lv_iload hx hb dL_law_718 (lv_at hl 5 rfl) ?_
  refine lv_iconst (v := 3) hx hb dL_law_720 (by decide) ?_
  refine lv_iadd hx hb dL_law_721 ?_
  refine va_sld (i := x4 + 3) hx hb hX hbl hbA hS (hv 3 (by decide)) dL_law_722 ?_
  refine m_calli (k := k + 3) (n := n + 18) (va_runV (As := [.int (xs (x4 + 1).toNatClampNeg), .int (xs (x4 + 2).toNatClampNeg), .int (xs (x4 + 3).toNatClampNeg)]) (rest := []) ⟨hx, hb, hml, hown, w_lawH hts⟩ (c_X7_grant l G Z1 z3.1 u u1 ((xs (x4 + 1).toNatClampNeg)) ((xs (x4 + 2).toNatClampNeg)) ((xs (x4 + 3).toNatClampNeg)) bb hf) (cwV 3 (w_lawH hts) gL_law_X7_grant rfl rfl rfl (by decide +kernel) ⟨(Nat.le_of_ble_eq_true rfl), (Nat.le_of_ble_eq_true rfl)⟩) (m_preV (C := RX7) (T := TX7) (N := 32) (ci := 10) hM hP hS rfl (by decide) z3.1.1) rfl rfl hl.1 rfl (lv_room (Nat.le_of_ble_eq_true rfl)) dL_law_723 ⟨by show k + 3 + 0 ≤ 601024; omega, by show n + 18 + 0 ≤ 7293034; omega⟩) hS ⟨Nat.le_refl _, Nat.le_refl _⟩ (fun H locs hP hS => ?_)
  refine lv_istore (lv' := [(6, .int bb), (5, .int (u1.1 31)), (0, .ref b), (1, .ref h), (2, .ref Z1.2.1), (3, .ref o), (4, .int x4)]) hx hb dL_law_726 hl (by decide) rfl (fun ls hl => ?_)
  refine lv_aload_n hx hb dL_law_728 rfl (lv_at hl 4 rfl) ?_
  refine m_calli (k := k + 3) (n := n + 18) (va_runV (As := []) (rest := []) ⟨hx, hb, hml, hown, w_lawH hts⟩ (c_X7_thrown l G Z1 z3.1 u1 u1 (u1.1 31) rfl) (cwV 0 (w_lawH hts) gL_law_X7_thrown rfl rfl rfl (by decide +kernel) ⟨(Nat.le_of_ble_eq_true rfl), (Nat.le_of_ble_eq_true rfl)⟩) (m_preV (C := RX7) (T := TX7) (N := 32) (ci := 10) hM hP hS rfl (by decide) z3.1.1) rfl rfl hl.1 rfl (lv_room (Nat.le_of_ble_eq_true rfl)) dL_law_729 ⟨by show k + 3 + 0 ≤ 601024; omega, by show n + 18 + 0 ≤ 7293034; omega⟩) hS ⟨Nat.le_refl _, Nat.le_refl _⟩ (fun H locs hP hS => ?_)
  refine lv_iload hx hb dL_law_732 (lv_at hl 1 rfl) ?_
  refine lv_icmp_eq (tgt := 739) hx hb dL_law_734 (by decide) (fun _ => ?_) (fun c9 => absurd rfl c9)
  have fin : ∀ ls : Array Slot, lv_has ls 7 [(6, .int bb), (5, .int (u1.1 31)), (0, .ref b), (1, .ref h), (2, .ref Z1.2.1), (3, .ref o), (4, .int x4)] → W p l e room_1 s m #[Value.ref b] below meth c H locs (k + 3) (n + 18) (lw_Z below #[Value.ref b] s) (F0 m 1940 ls []) := fun ls hl => K Z1 ρ1 σ1 u1 H locs ls (k + 3) (n + 18) ⟨z3, hP, hS, lv_sub hl [2, 3, 4, 5, 6] rfl, by omega, by omega⟩
  refine lv_iload hx hb dL_law_739 (lv_at hl 1 rfl) ?_
  refine lv_if_ne (tgt := 756) hx hb dL_law_741 (by decide) (fun _ => lv_goto (tgt := 1940) hx hb dL_law_756 (by decide) (fin ls hl)) (fun c8 => ?_)
  have e9 : m_la (x_ov Z1 u1) o (0 : Int32).toNatClampNeg = cvI bb := by
    rw [← hcv c8]
    show m_la (x_ov Z1 u) o _ = m_la w3 o _
    rw [z2]
    rfl
  refine lv_aload_n hx hb dL_law_744 rfl (lv_at hl 5 rfl) ?_
  refine lv_iconst (v := 0) hx hb dL_law_745 (by decide) ?_
  refine m_lald hx hb hM.1 hP (LZ_o z3 u1) dL_law_746 ?_
  rw [e9]
  refine lv_iload hx hb dL_law_747 (lv_at hl 0 rfl) ?_
  refine lv_i2l (v := cvI bb) hx hb dL_law_749 rfl ?_
  refine W.lcmp hx hb dL_law_750 ?_
  exact lv_if_eq (tgt := 756) hx hb dL_law_751 (by decide) (fun _ => lv_goto (tgt := 1940) hx hb dL_law_756 (by decide) (fin ls hl)) (fun c6 => absurd (lg_cmp_self _) c6)
set_option maxHeartbeats 4000000 in
set_option maxRecDepth 100000 in
theorem lw_c9 (C0 : lw_At p s m meth c b L xs) (E : lw_E l G s x4 j L) (K : lw_Go p l e s m below meth c b G h o x4 (j + 1) 1940) : lw_Go p l e s m below meth c b G h o x4 j 759 := by
  intro Z ρ σ u H locs ls k n J
  obtain ⟨hx, hb, hr, hml, hown, hts, hX, hbl, hlocks, hgv⟩ := id C0
  obtain ⟨hst, hM, hG1, hj, hv0, hv⟩ := E
  obtain ⟨hZ, hP, hS, hl, hk, hn⟩ := J
  have hown : s.vm.findClass RL = some m.cls := hown
  have hbA : ¬ (fun q : Nat => G.1 ≤ q) b := by rw [hG1]; exact Nat.not_le.mpr hbl
  have hq0 := LZ_q hZ
  refine lv_aload_n hx hb dL_law_759 rfl (lv_at hl 1 rfl) ?_
  refine lv_aload_n hx hb dL_law_760 rfl (lv_at hl 0 rfl) ?_
  refine lv_iload hx hb dL_law_761 (lv_at hl 4 rfl) ?_
  refine lv_iconst (v := 1) hx hb dL_law_763 (by decide) ?_
  refine lv_iadd hx hb dL_law_764 ?_
  refine va_sld (i := x4 + 1) hx hb hX hbl hbA hS (hv 1 (by decide)) dL_law_765 ?_
  refine lv_aload_n hx hb dL_law_766 rfl (lv_at hl 0 rfl) ?_
  refine lv_iload hx hb dL_law_767 (lv_at hl 4 rfl) ?_
  refine lv_iconst (v := 2) hx hb dL_law_769 (by decide) ?_
  refine lv_iadd hx hb dL_law_770 ?_
  refine va_sld (i := x4 + 2) hx hb hX hbl hbA hS (hv 2 (by decide)) dL_law_771 ?_
  refine lv_aload_n hx hb dL_law_772 rfl (lv_at hl 3 rfl) ?_
  obtain ⟨w3, bb, u1, he, hf, hcv, hall⟩ := LG_right (t0 := G.2.2.2) hZ ((xs (x4 + 1).toNatClampNeg)) ((xs (x4 + 2).toNatClampNeg))
  have hq1 : q_n σ ≤ 400 := by
    obtain ⟨Z9, ρ9, σ9, y1, y2, y3, y4⟩ := hall (m_nx w3) (Nat.le_refl _)
    exact Nat.le_trans y4 (LZ_q y3)
  refine m_calln (k := k + 2) (n := n + 12) (vx_runSW (As := [.ref h, .int (xs (x4 + 1).toNatClampNeg), .int (xs (x4 + 2).toNatClampNeg), .ref o]) (rest := []) ⟨hx, hb, hml, hown, w_lawH hts⟩ (c_L_right l hst G (x_ov Z u) w3 h ((xs (x4 + 1).toNatClampNeg)) ((xs (x4 + 2).toNatClampNeg)) o (u1.1 31) he) (vx_cwSW 4 (w_lawH hts) gL_law_L_right rfl rfl rfl (by decide +kernel) ⟨(Nat.le_of_ble_eq_true rfl), (Nat.le_of_ble_eq_true rfl)⟩) (m_preS hM hP hS) rfl rfl hl.1 rfl (lv_room (Nat.le_of_ble_eq_true rfl)) dL_law_773 ⟨by show k + 2 ≤ 601024; omega, by show n + 12 ≤ 7293034; omega⟩) hS ⟨Nat.le_refl _, Nat.le_refl _⟩ (fun nn H locs hnn hP hS => ?_)
  obtain ⟨Z1, ρ1, σ1, z1, z2, z3, z4⟩ := hall nn hnn
  rw [← z2] at hP
  have e2 : Z1.2.1 = Z.2.1 := by rw [z1]
  rw [← e2] at hl
  refine lv_istore (lv' := [(5, .int (u1.1 31)), (0, .ref b), (1, .ref h), (2, .ref Z1.2.1), (3, .ref o), (4, .int x4)]) hx hb dL_law_776 hl (by decide) rfl (fun ls hl => ?_)
  refine lv_aload_n hx hb dL_law_778 rfl (lv_at hl 3 rfl) ?_
  refine lv_aload_n hx hb dL_law_779 rfl (lv_at hl 1 rfl) ?_
  refine lv_iload hx hb dL_law_780 (lv_at hl 5 rfl) ?_
  refine lv_iconst (v := 1) hx hb dL_law_782 (by decide) ?_
  refine lv_iadd hx hb dL_law_783 ?_
  refine va_sld (i := x4 + 1) hx hb hX hbl hbA hS (hv 1 (by decide)) dL_law_784 ?_
  refine lv_aload_n hx hb dL_law_785 rfl (lv_at hl 1 rfl) ?_
  refine lv_iload hx hb dL_law_786 (lv_at hl 5 rfl) ?_
  refine lv_iconst (v := 2) hx hb dL_law_788 (by decide) ?_
  refine lv_iadd hx hb dL_law_789 ?_
  refine va_sld (i := x4 + 2) hx hb hX hbl hbA hS (hv 2 (by decide)) dL_law_790 ?_
  refine m_calli (k := k + 2) (n := n + 12) (va_runV (As := [.int (xs (x4 + 1).toNatClampNeg), .int (xs (x4 + 2).toNatClampNeg)]) (rest := []) ⟨hx, hb, hml, hown, w_lawH hts⟩ (c_X7_right l G Z1 z3.1 u u1 ((xs (x4 + 1).toNatClampNeg)) ((xs (x4 + 2).toNatClampNeg)) bb hf) (cwV 2 (w_lawH hts) gL_law_X7_right rfl rfl rfl (by decide +kernel) ⟨(Nat.le_of_ble_eq_true rfl), (Nat.le_of_ble_eq_true rfl)⟩) (m_preV (C := RX7) (T := TX7) (N := 32) (ci := 10) hM hP hS rfl (by decide) z3.1.1) rfl rfl hl.1 rfl (lv_room (Nat.le_of_ble_eq_true rfl)) dL_law_791 ⟨by show k + 2 + 0 ≤ 601024; omega, by show n + 12 + 0 ≤ 7293034; omega⟩) hS ⟨Nat.le_refl _, Nat.le_refl _⟩ (fun H locs hP hS => ?_)
  refine lv_istore (lv' := [(6, .int bb), (5, .int (u1.1 31)), (0, .ref b), (1, .ref h), (2, .ref Z1.2.1), (3, .ref o), (4, .int x4)]) hx hb dL_law_794 hl (by decide) rfl (fun ls hl => ?_)
  refine lv_aload_n hx hb dL_law_796 rfl (lv_at hl 4 rfl) ?_
  refine m_calli (k := k + 2) (n := n + 12) (va_runV (As := []) (rest := []) ⟨hx, hb, hml, hown, w_lawH hts⟩ (c_X7_thrown l G Z1 z3.1 u1 u1 (u1.1 31) rfl) (cwV 0 (w_lawH hts) gL_law_X7_thrown rfl rfl rfl (by decide +kernel) ⟨(Nat.le_of_ble_eq_true rfl), (Nat.le_of_ble_eq_true rfl)⟩) (m_preV (C := RX7) (T := TX7) (N := 32) (ci := 10) hM hP hS rfl (by decide) z3.1.1) rfl rfl hl.1 rfl (lv_room (Nat.le_of_ble_eq_true rfl)) dL_law_797 ⟨by show k + 2 + 0 ≤ 601024; omega, by show n + 12 + 0 ≤ 7293034; omega⟩) hS ⟨Nat.le_refl _, Nat.le_refl _⟩ (fun H locs hP hS => ?_)
  refine lv_iload hx hb dL_law_800 (lv_at hl 1 rfl) ?_
  refine lv_icmp_eq (tgt := 807) hx hb dL_law_802 (by decide) (fun _ => ?_) (fun c9 => absurd rfl c9)
  have fin : ∀ ls : Array Slot, lv_has ls 7 [(6, .int bb), (5, .int (u1.1 31)), (0, .ref b), (1, .ref h), (2, .ref Z1.2.1), (3, .ref o), (4, .int x4)] → W p l e room_1 s m #[Value.ref b] below meth c H locs (k + 2) (n + 12) (lw_Z below #[Value.ref b] s) (F0 m 1940 ls []) := fun ls hl => K Z1 ρ1 σ1 u1 H locs ls (k + 2) (n + 12) ⟨z3, hP, hS, lv_sub hl [2, 3, 4, 5, 6] rfl, by omega, by omega⟩
  refine lv_iload hx hb dL_law_807 (lv_at hl 1 rfl) ?_
  refine lv_if_ne (tgt := 824) hx hb dL_law_809 (by decide) (fun _ => lv_goto (tgt := 1940) hx hb dL_law_824 (by decide) (fin ls hl)) (fun c8 => ?_)
  have e9 : m_la (x_ov Z1 u1) o (0 : Int32).toNatClampNeg = cvI bb := by
    rw [← hcv c8]
    show m_la (x_ov Z1 u) o _ = m_la w3 o _
    rw [z2]
    rfl
  refine lv_aload_n hx hb dL_law_812 rfl (lv_at hl 5 rfl) ?_
  refine lv_iconst (v := 0) hx hb dL_law_813 (by decide) ?_
  refine m_lald hx hb hM.1 hP (LZ_o z3 u1) dL_law_814 ?_
  rw [e9]
  refine lv_iload hx hb dL_law_815 (lv_at hl 0 rfl) ?_
  refine lv_i2l (v := cvI bb) hx hb dL_law_817 rfl ?_
  refine W.lcmp hx hb dL_law_818 ?_
  exact lv_if_eq (tgt := 824) hx hb dL_law_819 (by decide) (fun _ => lv_goto (tgt := 1940) hx hb dL_law_824 (by decide) (fin ls hl)) (fun c6 => absurd (lg_cmp_self _) c6)
set_option maxHeartbeats 4000000 in
set_option maxRecDepth 100000 in
theorem lw_c10 (C0 : lw_At p s m meth c b L xs) (E : lw_E l G s x4 j L) (K : lw_Go p l e s m below meth c b G h o x4 (j + 1) 1940) : lw_Go p l e s m below meth c b G h o x4 j 827 := by
  intro Z ρ σ u H locs ls k n J
  obtain ⟨hx, hb, hr, hml, hown, hts, hX, hbl, hlocks, hgv⟩ := id C0
  obtain ⟨hst, hM, hG1, hj, hv0, hv⟩ := E
  obtain ⟨hZ, hP, hS, hl, hk, hn⟩ := J
  have hown : s.vm.findClass RL = some m.cls := hown
  have hbA : ¬ (fun q : Nat => G.1 ≤ q) b := by rw [hG1]; exact Nat.not_le.mpr hbl
  have hq0 := LZ_q hZ
  refine lv_aload_n hx hb dL_law_827 rfl (lv_at hl 1 rfl) ?_
  refine lv_aload_n hx hb dL_law_828 rfl (lv_at hl 0 rfl) ?_
  refine lv_iload hx hb dL_law_829 (lv_at hl 4 rfl) ?_
  refine lv_iconst (v := 1) hx hb dL_law_831 (by decide) ?_
  refine lv_iadd hx hb dL_law_832 ?_
  refine va_sld (i := x4 + 1) hx hb hX hbl hbA hS (hv 1 (by decide)) dL_law_833 ?_
  refine lv_aload_n hx hb dL_law_834 rfl (lv_at hl 0 rfl) ?_
  refine lv_iload hx hb dL_law_835 (lv_at hl 4 rfl) ?_
  refine lv_iconst (v := 2) hx hb dL_law_837 (by decide) ?_
  refine lv_iadd hx hb dL_law_838 ?_
  refine va_sld (i := x4 + 2) hx hb hX hbl hbA hS (hv 2 (by decide)) dL_law_839 ?_
  refine lv_aload_n hx hb dL_law_840 rfl (lv_at hl 3 rfl) ?_
  obtain ⟨w3, bb, u1, he, hf, hcv, hall⟩ := LG_run (t0 := G.2.2.2) hZ ((xs (x4 + 1).toNatClampNeg)) ((xs (x4 + 2).toNatClampNeg))
  have hq1 : q_n σ ≤ 400 := by
    obtain ⟨Z9, ρ9, σ9, y1, y2, y3, y4⟩ := hall (m_nx w3) (Nat.le_refl _)
    exact Nat.le_trans y4 (LZ_q y3)
  refine m_calln (k := k + 7) (n := n + 1233) (vx_runSW (As := [.ref h, .int (xs (x4 + 1).toNatClampNeg), .int (xs (x4 + 2).toNatClampNeg), .ref o]) (rest := []) ⟨hx, hb, hml, hown, w_lawH hts⟩ (c_L_run l hst G (x_ov Z u) w3 h ((xs (x4 + 1).toNatClampNeg)) ((xs (x4 + 2).toNatClampNeg)) o (u1.1 31) he) (vx_cwSW 4 (w_lawH hts) gL_law_L_run rfl rfl rfl (by decide +kernel) ⟨(Nat.le_of_ble_eq_true rfl), (Nat.le_of_ble_eq_true rfl)⟩) (m_preS hM hP hS) rfl rfl hl.1 rfl (lv_room (Nat.le_of_ble_eq_true rfl)) dL_law_841 ⟨by show k + 7 ≤ 601024; omega, by show n + 1233 ≤ 7293034; omega⟩) hS ⟨Nat.le_refl _, Nat.le_refl _⟩ (fun nn H locs hnn hP hS => ?_)
  obtain ⟨Z1, ρ1, σ1, z1, z2, z3, z4⟩ := hall nn hnn
  rw [← z2] at hP
  have e2 : Z1.2.1 = Z.2.1 := by rw [z1]
  rw [← e2] at hl
  refine lv_istore (lv' := [(5, .int (u1.1 31)), (0, .ref b), (1, .ref h), (2, .ref Z1.2.1), (3, .ref o), (4, .int x4)]) hx hb dL_law_844 hl (by decide) rfl (fun ls hl => ?_)
  refine lv_aload_n hx hb dL_law_846 rfl (lv_at hl 3 rfl) ?_
  refine lv_aload_n hx hb dL_law_847 rfl (lv_at hl 1 rfl) ?_
  refine lv_iload hx hb dL_law_848 (lv_at hl 5 rfl) ?_
  refine lv_iconst (v := 1) hx hb dL_law_850 (by decide) ?_
  refine lv_iadd hx hb dL_law_851 ?_
  refine va_sld (i := x4 + 1) hx hb hX hbl hbA hS (hv 1 (by decide)) dL_law_852 ?_
  refine lv_aload_n hx hb dL_law_853 rfl (lv_at hl 1 rfl) ?_
  refine lv_iload hx hb dL_law_854 (lv_at hl 5 rfl) ?_
  refine lv_iconst (v := 2) hx hb dL_law_856 (by decide) ?_
  refine lv_iadd hx hb dL_law_857 ?_
  refine va_sld (i := x4 + 2) hx hb hX hbl hbA hS (hv 2 (by decide)) dL_law_858 ?_
  refine m_calli (k := k + 7) (n := n + 1233) (va_runV (As := [.int (xs (x4 + 1).toNatClampNeg), .int (xs (x4 + 2).toNatClampNeg)]) (rest := []) ⟨hx, hb, hml, hown, w_lawH hts⟩ (c_X7_run l G Z1 z3.1 u u1 ((xs (x4 + 1).toNatClampNeg)) ((xs (x4 + 2).toNatClampNeg)) bb hf) (cwV 2 (w_lawH hts) gL_law_X7_run rfl rfl rfl (by decide +kernel) ⟨(Nat.le_of_ble_eq_true rfl), (Nat.le_of_ble_eq_true rfl)⟩) (m_preV (C := RX7) (T := TX7) (N := 32) (ci := 10) hM hP hS rfl (by decide) z3.1.1) rfl rfl hl.1 rfl (lv_room (Nat.le_of_ble_eq_true rfl)) dL_law_859 ⟨by show k + 7 + 0 ≤ 601024; omega, by show n + 1233 + 0 ≤ 7293034; omega⟩) hS ⟨Nat.le_refl _, Nat.le_refl _⟩ (fun H locs hP hS => ?_)
  refine lv_istore (lv' := [(6, .int bb), (5, .int (u1.1 31)), (0, .ref b), (1, .ref h), (2, .ref Z1.2.1), (3, .ref o), (4, .int x4)]) hx hb dL_law_862 hl (by decide) rfl (fun ls hl => ?_)
  refine lv_aload_n hx hb dL_law_864 rfl (lv_at hl 4 rfl) ?_
  refine m_calli (k := k + 7) (n := n + 1233) (va_runV (As := []) (rest := []) ⟨hx, hb, hml, hown, w_lawH hts⟩ (c_X7_thrown l G Z1 z3.1 u1 u1 (u1.1 31) rfl) (cwV 0 (w_lawH hts) gL_law_X7_thrown rfl rfl rfl (by decide +kernel) ⟨(Nat.le_of_ble_eq_true rfl), (Nat.le_of_ble_eq_true rfl)⟩) (m_preV (C := RX7) (T := TX7) (N := 32) (ci := 10) hM hP hS rfl (by decide) z3.1.1) rfl rfl hl.1 rfl (lv_room (Nat.le_of_ble_eq_true rfl)) dL_law_865 ⟨by show k + 7 + 0 ≤ 601024; omega, by show n + 1233 + 0 ≤ 7293034; omega⟩) hS ⟨Nat.le_refl _, Nat.le_refl _⟩ (fun H locs hP hS => ?_)
  refine lv_iload hx hb dL_law_868 (lv_at hl 1 rfl) ?_
  refine lv_icmp_eq (tgt := 875) hx hb dL_law_870 (by decide) (fun _ => ?_) (fun c9 => absurd rfl c9)
  have fin : ∀ ls : Array Slot, lv_has ls 7 [(6, .int bb), (5, .int (u1.1 31)), (0, .ref b), (1, .ref h), (2, .ref Z1.2.1), (3, .ref o), (4, .int x4)] → W p l e room_1 s m #[Value.ref b] below meth c H locs (k + 7) (n + 1233) (lw_Z below #[Value.ref b] s) (F0 m 1940 ls []) := fun ls hl => K Z1 ρ1 σ1 u1 H locs ls (k + 7) (n + 1233) ⟨z3, hP, hS, lv_sub hl [2, 3, 4, 5, 6] rfl, by omega, by omega⟩
  refine lv_iload hx hb dL_law_875 (lv_at hl 1 rfl) ?_
  refine lv_if_ne (tgt := 899) hx hb dL_law_877 (by decide) (fun _ => lv_goto (tgt := 1940) hx hb dL_law_899 (by decide) (fin ls hl)) (fun c8 => ?_)
  have e9 : m_la (x_ov Z1 u1) o (0 : Int32).toNatClampNeg = cvB bb := by
    rw [← hcv c8]
    show m_la (x_ov Z1 u) o _ = m_la w3 o _
    rw [z2]
    rfl
  refine lv_aload_n hx hb dL_law_880 rfl (lv_at hl 5 rfl) ?_
  refine lv_iconst (v := 0) hx hb dL_law_881 (by decide) ?_
  refine m_lald hx hb hM.1 hP (LZ_o z3 u1) dL_law_882 ?_
  rw [e9]
  refine lv_iload hx hb dL_law_883 (lv_at hl 0 rfl) ?_
  refine lv_if_eq (tgt := 892) hx hb dL_law_885 (by decide) (fun c7 => ?_) (fun c7 => ?_)
  · rw [show cvB bb = 0 from if_pos c7]
    refine lv_lconst (v := 0) hx hb dL_law_892 (by decide) ?_
    refine W.lcmp hx hb dL_law_893 ?_
    exact lv_if_eq (tgt := 899) hx hb dL_law_894 (by decide) (fun _ => lv_goto (tgt := 1940) hx hb dL_law_899 (by decide) (fin ls hl)) (fun c6 => absurd (lg_cmp_self _) c6)
  · rw [show cvB bb = 1 from if_neg c7]
    refine lv_lconst (v := 1) hx hb dL_law_888 (by decide) ?_
    refine lv_goto (tgt := 893) hx hb dL_law_889 (by decide) ?_
    refine W.lcmp hx hb dL_law_893 ?_
    exact lv_if_eq (tgt := 899) hx hb dL_law_894 (by decide) (fun _ => lv_goto (tgt := 1940) hx hb dL_law_899 (by decide) (fin ls hl)) (fun c6 => absurd (lg_cmp_self _) c6)
set_option maxHeartbeats 4000000 in
set_option maxRecDepth 100000 in
theorem lw_c11 (C0 : lw_At p s m meth c b L xs) (E : lw_E l G s x4 j L) (K : lw_Go p l e s m below meth c b G h o x4 (j + 1) 1940) : lw_Go p l e s m below meth c b G h o x4 j 902 := by
  intro Z ρ σ u H locs ls k n J
  obtain ⟨hx, hb, hr, hml, hown, hts, hX, hbl, hlocks, hgv⟩ := id C0
  obtain ⟨hst, hM, hG1, hj, hv0, hv⟩ := E
  obtain ⟨hZ, hP, hS, hl, hk, hn⟩ := J
  have hown : s.vm.findClass RL = some m.cls := hown
  have hbA : ¬ (fun q : Nat => G.1 ≤ q) b := by rw [hG1]; exact Nat.not_le.mpr hbl
  have hq0 := LZ_q hZ
  refine lv_aload_n hx hb dL_law_902 rfl (lv_at hl 1 rfl) ?_
  refine lv_aload_n hx hb dL_law_903 rfl (lv_at hl 0 rfl) ?_
  refine lv_iload hx hb dL_law_904 (lv_at hl 4 rfl) ?_
  refine lv_iconst (v := 1) hx hb dL_law_906 (by decide) ?_
  refine lv_iadd hx hb dL_law_907 ?_
  refine va_sld (i := x4 + 1) hx hb hX hbl hbA hS (hv 1 (by decide)) dL_law_908 ?_
  refine lv_aload_n hx hb dL_law_909 rfl (lv_at hl 3 rfl) ?_
  obtain ⟨K9, hK9, w3, bb, u1, he, hf, hcv, hall⟩ := LG_refresh (t0 := G.2.2.2) hZ ((xs (x4 + 1).toNatClampNeg))
  have hq1 : q_n σ + K9 ≤ 400 := by
    obtain ⟨Z9, ρ9, σ9, y1, y2, y3, y4⟩ := hall (m_nx w3) (Nat.le_refl _)
    exact Nat.le_trans y4 (LZ_q y3)
  refine m_calln (k := k + (2 + 4 * K9)) (n := n + (12 + 1215 * K9)) (vx_runSW (As := [.ref h, .int (xs (x4 + 1).toNatClampNeg), .ref o]) (rest := []) ⟨hx, hb, hml, hown, w_lawH hts⟩ (c_L_refresh l hst G (x_ov Z u) w3 h ((xs (x4 + 1).toNatClampNeg)) o (u1.1 31) K9 hK9 he) (vx_cwSW 3 (w_lawH hts) gL_law_L_refresh rfl rfl rfl (by decide +kernel) ⟨(Nat.le_of_ble_eq_true rfl), (Nat.le_of_ble_eq_true rfl)⟩) (m_preS hM hP hS) rfl rfl hl.1 rfl (lv_room (Nat.le_of_ble_eq_true rfl)) dL_law_910 ⟨by show k + (2 + 4 * K9) ≤ 601024; omega, by show n + (12 + 1215 * K9) ≤ 7293034; omega⟩) hS ⟨Nat.le_refl _, Nat.le_refl _⟩ (fun nn H locs hnn hP hS => ?_)
  obtain ⟨Z1, ρ1, σ1, z1, z2, z3, z4⟩ := hall nn hnn
  rw [← z2] at hP
  have e2 : Z1.2.1 = Z.2.1 := by rw [z1]
  rw [← e2] at hl
  refine lv_istore (lv' := [(5, .int (u1.1 31)), (0, .ref b), (1, .ref h), (2, .ref Z1.2.1), (3, .ref o), (4, .int x4)]) hx hb dL_law_913 hl (by decide) rfl (fun ls hl => ?_)
  refine lv_aload_n hx hb dL_law_915 rfl (lv_at hl 3 rfl) ?_
  refine lv_aload_n hx hb dL_law_916 rfl (lv_at hl 1 rfl) ?_
  refine lv_iload hx hb dL_law_917 (lv_at hl 5 rfl) ?_
  refine lv_iconst (v := 1) hx hb dL_law_919 (by decide) ?_
  refine lv_iadd hx hb dL_law_920 ?_
  refine va_sld (i := x4 + 1) hx hb hX hbl hbA hS (hv 1 (by decide)) dL_law_921 ?_
  refine m_calli (k := k + (2 + 4 * K9)) (n := n + (12 + 1215 * K9)) (va_runV (As := [.int (xs (x4 + 1).toNatClampNeg)]) (rest := []) ⟨hx, hb, hml, hown, w_lawH hts⟩ (c_X7_refresh l G Z1 z3.1 u u1 ((xs (x4 + 1).toNatClampNeg)) bb hf) (cwV 1 (w_lawH hts) gL_law_X7_refresh rfl rfl rfl (by decide +kernel) ⟨(Nat.le_of_ble_eq_true rfl), (Nat.le_of_ble_eq_true rfl)⟩) (m_preV (C := RX7) (T := TX7) (N := 32) (ci := 10) hM hP hS rfl (by decide) z3.1.1) rfl rfl hl.1 rfl (lv_room (Nat.le_of_ble_eq_true rfl)) dL_law_922 ⟨by show k + (2 + 4 * K9) + 0 ≤ 601024; omega, by show n + (12 + 1215 * K9) + 0 ≤ 7293034; omega⟩) hS ⟨Nat.le_refl _, Nat.le_refl _⟩ (fun H locs hP hS => ?_)
  refine lv_istore (lv' := [(6, .int bb), (5, .int (u1.1 31)), (0, .ref b), (1, .ref h), (2, .ref Z1.2.1), (3, .ref o), (4, .int x4)]) hx hb dL_law_925 hl (by decide) rfl (fun ls hl => ?_)
  refine lv_aload_n hx hb dL_law_927 rfl (lv_at hl 4 rfl) ?_
  refine m_calli (k := k + (2 + 4 * K9)) (n := n + (12 + 1215 * K9)) (va_runV (As := []) (rest := []) ⟨hx, hb, hml, hown, w_lawH hts⟩ (c_X7_thrown l G Z1 z3.1 u1 u1 (u1.1 31) rfl) (cwV 0 (w_lawH hts) gL_law_X7_thrown rfl rfl rfl (by decide +kernel) ⟨(Nat.le_of_ble_eq_true rfl), (Nat.le_of_ble_eq_true rfl)⟩) (m_preV (C := RX7) (T := TX7) (N := 32) (ci := 10) hM hP hS rfl (by decide) z3.1.1) rfl rfl hl.1 rfl (lv_room (Nat.le_of_ble_eq_true rfl)) dL_law_928 ⟨by show k + (2 + 4 * K9) + 0 ≤ 601024; omega, by show n + (12 + 1215 * K9) + 0 ≤ 7293034; omega⟩) hS ⟨Nat.le_refl _, Nat.le_refl _⟩ (fun H locs hP hS => ?_)
  refine lv_iload hx hb dL_law_931 (lv_at hl 1 rfl) ?_
  refine lv_icmp_eq (tgt := 938) hx hb dL_law_933 (by decide) (fun _ => ?_) (fun c9 => absurd rfl c9)
  have fin : ∀ ls : Array Slot, lv_has ls 7 [(6, .int bb), (5, .int (u1.1 31)), (0, .ref b), (1, .ref h), (2, .ref Z1.2.1), (3, .ref o), (4, .int x4)] → W p l e room_1 s m #[Value.ref b] below meth c H locs (k + (2 + 4 * K9)) (n + (12 + 1215 * K9)) (lw_Z below #[Value.ref b] s) (F0 m 1940 ls []) := fun ls hl => K Z1 ρ1 σ1 u1 H locs ls (k + (2 + 4 * K9)) (n + (12 + 1215 * K9)) ⟨z3, hP, hS, lv_sub hl [2, 3, 4, 5, 6] rfl, by omega, by omega⟩
  refine lv_iload hx hb dL_law_938 (lv_at hl 1 rfl) ?_
  refine lv_if_ne (tgt := 955) hx hb dL_law_940 (by decide) (fun _ => lv_goto (tgt := 1940) hx hb dL_law_955 (by decide) (fin ls hl)) (fun c8 => ?_)
  have e9 : m_la (x_ov Z1 u1) o (0 : Int32).toNatClampNeg = cvI bb := by
    rw [← hcv c8]
    show m_la (x_ov Z1 u) o _ = m_la w3 o _
    rw [z2]
    rfl
  refine lv_aload_n hx hb dL_law_943 rfl (lv_at hl 5 rfl) ?_
  refine lv_iconst (v := 0) hx hb dL_law_944 (by decide) ?_
  refine m_lald hx hb hM.1 hP (LZ_o z3 u1) dL_law_945 ?_
  rw [e9]
  refine lv_iload hx hb dL_law_946 (lv_at hl 0 rfl) ?_
  refine lv_i2l (v := cvI bb) hx hb dL_law_948 rfl ?_
  refine W.lcmp hx hb dL_law_949 ?_
  exact lv_if_eq (tgt := 955) hx hb dL_law_950 (by decide) (fun _ => lv_goto (tgt := 1940) hx hb dL_law_955 (by decide) (fin ls hl)) (fun c6 => absurd (lg_cmp_self _) c6)
set_option maxHeartbeats 4000000 in
set_option maxRecDepth 100000 in
theorem lw_c12 (C0 : lw_At p s m meth c b L xs) (E : lw_E l G s x4 j L) (K : lw_Go p l e s m below meth c b G h o x4 (j + 1) 1940) : lw_Go p l e s m below meth c b G h o x4 j 958 := by
  intro Z ρ σ u H locs ls k n J
  obtain ⟨hx, hb, hr, hml, hown, hts, hX, hbl, hlocks, hgv⟩ := id C0
  obtain ⟨hst, hM, hG1, hj, hv0, hv⟩ := E
  obtain ⟨hZ, hP, hS, hl, hk, hn⟩ := J
  have hown : s.vm.findClass RL = some m.cls := hown
  have hbA : ¬ (fun q : Nat => G.1 ≤ q) b := by rw [hG1]; exact Nat.not_le.mpr hbl
  have hq0 := LZ_q hZ
  refine lv_aload_n hx hb dL_law_958 rfl (lv_at hl 1 rfl) ?_
  refine lv_aload_n hx hb dL_law_959 rfl (lv_at hl 0 rfl) ?_
  refine lv_iload hx hb dL_law_960 (lv_at hl 4 rfl) ?_
  refine lv_iconst (v := 1) hx hb dL_law_962 (by decide) ?_
  refine lv_iadd hx hb dL_law_963 ?_
  refine va_sld (i := x4 + 1) hx hb hX hbl hbA hS (hv 1 (by decide)) dL_law_964 ?_
  refine lv_aload_n hx hb dL_law_965 rfl (lv_at hl 3 rfl) ?_
  obtain ⟨w3, bb, u1, he, hf, hcv, hall⟩ := LG_isSet (t0 := G.2.2.2) hZ ((xs (x4 + 1).toNatClampNeg))
  have hq1 : q_n σ ≤ 400 := by
    obtain ⟨Z9, ρ9, σ9, y1, y2, y3, y4⟩ := hall (m_nx w3) (Nat.le_refl _)
    exact Nat.le_trans y4 (LZ_q y3)
  refine m_calln (k := k + 1) (n := n + 6) (vx_runSW (As := [.ref h, .int (xs (x4 + 1).toNatClampNeg), .ref o]) (rest := []) ⟨hx, hb, hml, hown, w_lawH hts⟩ (c_L_isSet l hst G (x_ov Z u) w3 h ((xs (x4 + 1).toNatClampNeg)) o (u1.1 31) he) (vx_cwSW 3 (w_lawH hts) gL_law_L_isSet rfl rfl rfl (by decide +kernel) ⟨(Nat.le_of_ble_eq_true rfl), (Nat.le_of_ble_eq_true rfl)⟩) (m_preS hM hP hS) rfl rfl hl.1 rfl (lv_room (Nat.le_of_ble_eq_true rfl)) dL_law_966 ⟨by show k + 1 ≤ 601024; omega, by show n + 6 ≤ 7293034; omega⟩) hS ⟨Nat.le_refl _, Nat.le_refl _⟩ (fun nn H locs hnn hP hS => ?_)
  obtain ⟨Z1, ρ1, σ1, z1, z2, z3, z4⟩ := hall nn hnn
  rw [← z2] at hP
  have e2 : Z1.2.1 = Z.2.1 := by rw [z1]
  rw [← e2] at hl
  refine lv_istore (lv' := [(5, .int (u1.1 31)), (0, .ref b), (1, .ref h), (2, .ref Z1.2.1), (3, .ref o), (4, .int x4)]) hx hb dL_law_969 hl (by decide) rfl (fun ls hl => ?_)
  refine lv_aload_n hx hb dL_law_971 rfl (lv_at hl 3 rfl) ?_
  refine lv_aload_n hx hb dL_law_972 rfl (lv_at hl 1 rfl) ?_
  refine lv_iload hx hb dL_law_973 (lv_at hl 5 rfl) ?_
  refine lv_iconst (v := 1) hx hb dL_law_975 (by decide) ?_
  refine lv_iadd hx hb dL_law_976 ?_
  refine va_sld (i := x4 + 1) hx hb hX hbl hbA hS (hv 1 (by decide)) dL_law_977 ?_
  refine m_calli (k := k + 1) (n := n + 6) (va_runV (As := [.int (xs (x4 + 1).toNatClampNeg)]) (rest := []) ⟨hx, hb, hml, hown, w_lawH hts⟩ (c_X7_isSet l G Z1 z3.1 u u1 ((xs (x4 + 1).toNatClampNeg)) bb hf) (cwV 1 (w_lawH hts) gL_law_X7_isSet rfl rfl rfl (by decide +kernel) ⟨(Nat.le_of_ble_eq_true rfl), (Nat.le_of_ble_eq_true rfl)⟩) (m_preV (C := RX7) (T := TX7) (N := 32) (ci := 10) hM hP hS rfl (by decide) z3.1.1) rfl rfl hl.1 rfl (lv_room (Nat.le_of_ble_eq_true rfl)) dL_law_978 ⟨by show k + 1 + 0 ≤ 601024; omega, by show n + 6 + 0 ≤ 7293034; omega⟩) hS ⟨Nat.le_refl _, Nat.le_refl _⟩ (fun H locs hP hS => ?_)
  refine lv_istore (lv' := [(6, .int bb), (5, .int (u1.1 31)), (0, .ref b), (1, .ref h), (2, .ref Z1.2.1), (3, .ref o), (4, .int x4)]) hx hb dL_law_981 hl (by decide) rfl (fun ls hl => ?_)
  refine lv_aload_n hx hb dL_law_983 rfl (lv_at hl 4 rfl) ?_
  refine m_calli (k := k + 1) (n := n + 6) (va_runV (As := []) (rest := []) ⟨hx, hb, hml, hown, w_lawH hts⟩ (c_X7_thrown l G Z1 z3.1 u1 u1 (u1.1 31) rfl) (cwV 0 (w_lawH hts) gL_law_X7_thrown rfl rfl rfl (by decide +kernel) ⟨(Nat.le_of_ble_eq_true rfl), (Nat.le_of_ble_eq_true rfl)⟩) (m_preV (C := RX7) (T := TX7) (N := 32) (ci := 10) hM hP hS rfl (by decide) z3.1.1) rfl rfl hl.1 rfl (lv_room (Nat.le_of_ble_eq_true rfl)) dL_law_984 ⟨by show k + 1 + 0 ≤ 601024; omega, by show n + 6 + 0 ≤ 7293034; omega⟩) hS ⟨Nat.le_refl _, Nat.le_refl _⟩ (fun H locs hP hS => ?_)
  refine lv_iload hx hb dL_law_987 (lv_at hl 1 rfl) ?_
  refine lv_icmp_eq (tgt := 994) hx hb dL_law_989 (by decide) (fun _ => ?_) (fun c9 => absurd rfl c9)
  have fin : ∀ ls : Array Slot, lv_has ls 7 [(6, .int bb), (5, .int (u1.1 31)), (0, .ref b), (1, .ref h), (2, .ref Z1.2.1), (3, .ref o), (4, .int x4)] → W p l e room_1 s m #[Value.ref b] below meth c H locs (k + 1) (n + 6) (lw_Z below #[Value.ref b] s) (F0 m 1940 ls []) := fun ls hl => K Z1 ρ1 σ1 u1 H locs ls (k + 1) (n + 6) ⟨z3, hP, hS, lv_sub hl [2, 3, 4, 5, 6] rfl, by omega, by omega⟩
  refine lv_iload hx hb dL_law_994 (lv_at hl 1 rfl) ?_
  refine lv_if_ne (tgt := 1018) hx hb dL_law_996 (by decide) (fun _ => lv_goto (tgt := 1940) hx hb dL_law_1018 (by decide) (fin ls hl)) (fun c8 => ?_)
  have e9 : m_la (x_ov Z1 u1) o (0 : Int32).toNatClampNeg = cvB bb := by
    rw [← hcv c8]
    show m_la (x_ov Z1 u) o _ = m_la w3 o _
    rw [z2]
    rfl
  refine lv_aload_n hx hb dL_law_999 rfl (lv_at hl 5 rfl) ?_
  refine lv_iconst (v := 0) hx hb dL_law_1000 (by decide) ?_
  refine m_lald hx hb hM.1 hP (LZ_o z3 u1) dL_law_1001 ?_
  rw [e9]
  refine lv_iload hx hb dL_law_1002 (lv_at hl 0 rfl) ?_
  refine lv_if_eq (tgt := 1011) hx hb dL_law_1004 (by decide) (fun c7 => ?_) (fun c7 => ?_)
  · rw [show cvB bb = 0 from if_pos c7]
    refine lv_lconst (v := 0) hx hb dL_law_1011 (by decide) ?_
    refine W.lcmp hx hb dL_law_1012 ?_
    exact lv_if_eq (tgt := 1018) hx hb dL_law_1013 (by decide) (fun _ => lv_goto (tgt := 1940) hx hb dL_law_1018 (by decide) (fin ls hl)) (fun c6 => absurd (lg_cmp_self _) c6)
  · rw [show cvB bb = 1 from if_neg c7]
    refine lv_lconst (v := 1) hx hb dL_law_1007 (by decide) ?_
    refine lv_goto (tgt := 1012) hx hb dL_law_1008 (by decide) ?_
    refine W.lcmp hx hb dL_law_1012 ?_
    exact lv_if_eq (tgt := 1018) hx hb dL_law_1013 (by decide) (fun _ => lv_goto (tgt := 1940) hx hb dL_law_1018 (by decide) (fin ls hl)) (fun c6 => absurd (lg_cmp_self _) c6)
set_option maxHeartbeats 4000000 in
set_option maxRecDepth 100000 in
theorem lw_c13 (C0 : lw_At p s m meth c b L xs) (E : lw_E l G s x4 j L) (K : lw_Go p l e s m below meth c b G h o x4 (j + 1) 1940) : lw_Go p l e s m below meth c b G h o x4 j 1021 := by
  intro Z ρ σ u H locs ls k n J
  obtain ⟨hx, hb, hr, hml, hown, hts, hX, hbl, hlocks, hgv⟩ := id C0
  obtain ⟨hst, hM, hG1, hj, hv0, hv⟩ := E
  obtain ⟨hZ, hP, hS, hl, hk, hn⟩ := J
  have hown : s.vm.findClass RL = some m.cls := hown
  have hbA : ¬ (fun q : Nat => G.1 ≤ q) b := by rw [hG1]; exact Nat.not_le.mpr hbl
  have hq0 := LZ_q hZ
  refine lv_aload_n hx hb dL_law_1021 rfl (lv_at hl 1 rfl) ?_
  refine lv_aload_n hx hb dL_law_1022 rfl (lv_at hl 0 rfl) ?_
  refine lv_iload hx hb dL_law_1023 (lv_at hl 4 rfl) ?_
  refine lv_iconst (v := 1) hx hb dL_law_1025 (by decide) ?_
  refine lv_iadd hx hb dL_law_1026 ?_
  refine va_sld (i := x4 + 1) hx hb hX hbl hbA hS (hv 1 (by decide)) dL_law_1027 ?_
  refine lv_aload_n hx hb dL_law_1028 rfl (lv_at hl 3 rfl) ?_
  obtain ⟨w3, bb, u1, he, hf, hcv, hall⟩ := LG_value (t0 := G.2.2.2) hZ ((xs (x4 + 1).toNatClampNeg))
  have hq1 : q_n σ ≤ 400 := by
    obtain ⟨Z9, ρ9, σ9, y1, y2, y3, y4⟩ := hall (m_nx w3) (Nat.le_refl _)
    exact Nat.le_trans y4 (LZ_q y3)
  refine m_calln (k := k + 2) (n := n + 12) (vx_runSW (As := [.ref h, .int (xs (x4 + 1).toNatClampNeg), .ref o]) (rest := []) ⟨hx, hb, hml, hown, w_lawH hts⟩ (c_L_value l hst G (x_ov Z u) w3 h ((xs (x4 + 1).toNatClampNeg)) o (u1.1 31) he) (vx_cwSW 3 (w_lawH hts) gL_law_L_value rfl rfl rfl (by decide +kernel) ⟨(Nat.le_of_ble_eq_true rfl), (Nat.le_of_ble_eq_true rfl)⟩) (m_preS hM hP hS) rfl rfl hl.1 rfl (lv_room (Nat.le_of_ble_eq_true rfl)) dL_law_1029 ⟨by show k + 2 ≤ 601024; omega, by show n + 12 ≤ 7293034; omega⟩) hS ⟨Nat.le_refl _, Nat.le_refl _⟩ (fun nn H locs hnn hP hS => ?_)
  obtain ⟨Z1, ρ1, σ1, z1, z2, z3, z4⟩ := hall nn hnn
  rw [← z2] at hP
  have e2 : Z1.2.1 = Z.2.1 := by rw [z1]
  rw [← e2] at hl
  refine lv_istore (lv' := [(5, .int (u1.1 31)), (0, .ref b), (1, .ref h), (2, .ref Z1.2.1), (3, .ref o), (4, .int x4)]) hx hb dL_law_1032 hl (by decide) rfl (fun ls hl => ?_)
  refine lv_aload_n hx hb dL_law_1034 rfl (lv_at hl 3 rfl) ?_
  refine lv_aload_n hx hb dL_law_1035 rfl (lv_at hl 1 rfl) ?_
  refine lv_iload hx hb dL_law_1036 (lv_at hl 5 rfl) ?_
  refine lv_iconst (v := 1) hx hb dL_law_1038 (by decide) ?_
  refine lv_iadd hx hb dL_law_1039 ?_
  refine va_sld (i := x4 + 1) hx hb hX hbl hbA hS (hv 1 (by decide)) dL_law_1040 ?_
  refine m_calli (k := k + 2) (n := n + 12) (va_runV (As := [.int (xs (x4 + 1).toNatClampNeg)]) (rest := []) ⟨hx, hb, hml, hown, w_lawH hts⟩ (c_X7_value l G Z1 z3.1 u u1 ((xs (x4 + 1).toNatClampNeg)) bb hf) (cwV 1 (w_lawH hts) gL_law_X7_value rfl rfl rfl (by decide +kernel) ⟨(Nat.le_of_ble_eq_true rfl), (Nat.le_of_ble_eq_true rfl)⟩) (m_preV (C := RX7) (T := TX7) (N := 32) (ci := 10) hM hP hS rfl (by decide) z3.1.1) rfl rfl hl.1 rfl (lv_room (Nat.le_of_ble_eq_true rfl)) dL_law_1041 ⟨by show k + 2 + 0 ≤ 601024; omega, by show n + 12 + 0 ≤ 7293034; omega⟩) hS ⟨Nat.le_refl _, Nat.le_refl _⟩ (fun H locs hP hS => ?_)
  refine lv_istore (lv' := [(6, .int bb), (5, .int (u1.1 31)), (0, .ref b), (1, .ref h), (2, .ref Z1.2.1), (3, .ref o), (4, .int x4)]) hx hb dL_law_1044 hl (by decide) rfl (fun ls hl => ?_)
  refine lv_aload_n hx hb dL_law_1046 rfl (lv_at hl 4 rfl) ?_
  refine m_calli (k := k + 2) (n := n + 12) (va_runV (As := []) (rest := []) ⟨hx, hb, hml, hown, w_lawH hts⟩ (c_X7_thrown l G Z1 z3.1 u1 u1 (u1.1 31) rfl) (cwV 0 (w_lawH hts) gL_law_X7_thrown rfl rfl rfl (by decide +kernel) ⟨(Nat.le_of_ble_eq_true rfl), (Nat.le_of_ble_eq_true rfl)⟩) (m_preV (C := RX7) (T := TX7) (N := 32) (ci := 10) hM hP hS rfl (by decide) z3.1.1) rfl rfl hl.1 rfl (lv_room (Nat.le_of_ble_eq_true rfl)) dL_law_1047 ⟨by show k + 2 + 0 ≤ 601024; omega, by show n + 12 + 0 ≤ 7293034; omega⟩) hS ⟨Nat.le_refl _, Nat.le_refl _⟩ (fun H locs hP hS => ?_)
  refine lv_iload hx hb dL_law_1050 (lv_at hl 1 rfl) ?_
  refine lv_icmp_eq (tgt := 1057) hx hb dL_law_1052 (by decide) (fun _ => ?_) (fun c9 => absurd rfl c9)
  have fin : ∀ ls : Array Slot, lv_has ls 7 [(6, .int bb), (5, .int (u1.1 31)), (0, .ref b), (1, .ref h), (2, .ref Z1.2.1), (3, .ref o), (4, .int x4)] → W p l e room_1 s m #[Value.ref b] below meth c H locs (k + 2) (n + 12) (lw_Z below #[Value.ref b] s) (F0 m 1940 ls []) := fun ls hl => K Z1 ρ1 σ1 u1 H locs ls (k + 2) (n + 12) ⟨z3, hP, hS, lv_sub hl [2, 3, 4, 5, 6] rfl, by omega, by omega⟩
  refine lv_iload hx hb dL_law_1057 (lv_at hl 1 rfl) ?_
  refine lv_if_ne (tgt := 1074) hx hb dL_law_1059 (by decide) (fun _ => lv_goto (tgt := 1940) hx hb dL_law_1074 (by decide) (fin ls hl)) (fun c8 => ?_)
  have e9 : m_la (x_ov Z1 u1) o (0 : Int32).toNatClampNeg = cvI bb := by
    rw [← hcv c8]
    show m_la (x_ov Z1 u) o _ = m_la w3 o _
    rw [z2]
    rfl
  refine lv_aload_n hx hb dL_law_1062 rfl (lv_at hl 5 rfl) ?_
  refine lv_iconst (v := 0) hx hb dL_law_1063 (by decide) ?_
  refine m_lald hx hb hM.1 hP (LZ_o z3 u1) dL_law_1064 ?_
  rw [e9]
  refine lv_iload hx hb dL_law_1065 (lv_at hl 0 rfl) ?_
  refine lv_i2l (v := cvI bb) hx hb dL_law_1067 rfl ?_
  refine W.lcmp hx hb dL_law_1068 ?_
  exact lv_if_eq (tgt := 1074) hx hb dL_law_1069 (by decide) (fun _ => lv_goto (tgt := 1940) hx hb dL_law_1074 (by decide) (fin ls hl)) (fun c6 => absurd (lg_cmp_self _) c6)
end LAWCASES
