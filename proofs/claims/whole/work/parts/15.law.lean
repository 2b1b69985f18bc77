set_option maxHeartbeats 4000000 in
set_option maxRecDepth 100000 in
theorem lw_dispatch {p : Program} {l : Launch} {e : Env} {s : State} {m : MethodId} {below : List Frame} {meth : Method} {c : Code} {b L : Nat} {xs : Nat → Int32} {G : m_G} {h o j : Nat} {x4 : Int32} (C0 : lw_At p s m meth c b L xs) (E : lw_E l G s x4 j L) (K : lw_Go p l e s m below meth c b G h o x4 (j + 1) 1940) : lw_Go p l e s m below meth c b G h o x4 j 33 := by
  intro Z ρ σ u H locs ls k n J
  obtain ⟨hx, hb, hr, hml, hown, hts, hX, hbl, hlocks, hgv⟩ := id C0
  obtain ⟨hst, hM, hG1, hj, hv0, hv⟩ := id E
  obtain ⟨hZ, hP, hS, hl, hk, hn⟩ := id J
  have hbA : ¬ (fun q : Nat => G.1 ≤ q) b := by rw [hG1]; exact Nat.not_le.mpr hbl
  refine lv_aload_n hx hb dL_law_33 rfl (lv_at hl 0 rfl) ?_
  refine lv_iload hx hb dL_law_34 (lv_at hl 4 rfl) ?_
  refine va_sld hx hb hX hbl hbA hS hv0 dL_law_36 ?_
  refine lv_bipush (v := 63) hx hb dL_law_37 (by decide) ?_
  refine lv_iand hx hb dL_law_39 ?_
  refine lv_topi (fun x9 _ => ?_)
  by_cases c0 : x9 = 0
  · exact lv_tableIn (off := 148) (tgt := 188) hx hb dL_law_40 (by rw [c0]; decide) (by rw [c0]; decide) (by rw [c0]; rfl) (by decide) (lw_c0 C0 E K Z ρ σ u H locs ls k n J)
  by_cases c1 : x9 = 1
  · exact lv_tableIn (off := 192) (tgt := 232) hx hb dL_law_40 (by rw [c1]; decide) (by rw [c1]; decide) (by rw [c1]; rfl) (by decide) (lw_c1 C0 E K Z ρ σ u H locs ls k n J)
  by_cases c2 : x9 = 2
  · exact lv_tableIn (off := 310) (tgt := 350) hx hb dL_law_40 (by rw [c2]; decide) (by rw [c2]; decide) (by rw [c2]; rfl) (by decide) (lw_c2 C0 E K Z ρ σ u H locs ls k n J)
  by_cases c3 : x9 = 3
  · exact lv_tableIn (off := 378) (tgt := 418) hx hb dL_law_40 (by rw [c3]; decide) (by rw [c3]; decide) (by rw [c3]; rfl) (by decide) (lw_c3 C0 E K Z ρ σ u H locs ls k n J)
  by_cases c4 : x9 = 4
  · exact lv_tableIn (off := 446) (tgt := 486) hx hb dL_law_40 (by rw [c4]; decide) (by rw [c4]; decide) (by rw [c4]; rfl) (by decide) (lw_c4 C0 E K Z ρ σ u H locs ls k n J)
  by_cases c5 : x9 = 5
  · exact lv_tableIn (off := 459) (tgt := 499) hx hb dL_law_40 (by rw [c5]; decide) (by rw [c5]; decide) (by rw [c5]; rfl) (by decide) (lw_c5 C0 E K Z ρ σ u H locs ls k n J)
  by_cases c6 : x9 = 6
  · exact lv_tableIn (off := 515) (tgt := 555) hx hb dL_law_40 (by rw [c6]; decide) (by rw [c6]; decide) (by rw [c6]; rfl) (by decide) (lw_c6 C0 E K Z ρ σ u H locs ls k n J)
  by_cases c7 : x9 = 7
  · exact lv_tableIn (off := 571) (tgt := 611) hx hb dL_law_40 (by rw [c7]; decide) (by rw [c7]; decide) (by rw [c7]; rfl) (by decide) (lw_c7 C0 E K Z ρ σ u H locs ls k n J)
  by_cases c8 : x9 = 8
  · exact lv_tableIn (off := 639) (tgt := 679) hx hb dL_law_40 (by rw [c8]; decide) (by rw [c8]; decide) (by rw [c8]; rfl) (by decide) (lw_c8 C0 E K Z ρ σ u H locs ls k n J)
  by_cases c9 : x9 = 9
  · exact lv_tableIn (off := 719) (tgt := 759) hx hb dL_law_40 (by rw [c9]; decide) (by rw [c9]; decide) (by rw [c9]; rfl) (by decide) (lw_c9 C0 E K Z ρ σ u H locs ls k n J)
  by_cases c10 : x9 = 10
  · exact lv_tableIn (off := 787) (tgt := 827) hx hb dL_law_40 (by rw [c10]; decide) (by rw [c10]; decide) (by rw [c10]; rfl) (by decide) (lw_c10 C0 E K Z ρ σ u H locs ls k n J)
  by_cases c11 : x9 = 11
  · exact lv_tableIn (off := 862) (tgt := 902) hx hb dL_law_40 (by rw [c11]; decide) (by rw [c11]; decide) (by rw [c11]; rfl) (by decide) (lw_c11 C0 E K Z ρ σ u H locs ls k n J)
  by_cases c12 : x9 = 12
  · exact lv_tableIn (off := 918) (tgt := 958) hx hb dL_law_40 (by rw [c12]; decide) (by rw [c12]; decide) (by rw [c12]; rfl) (by decide) (lw_c12 C0 E K Z ρ σ u H locs ls k n J)
  by_cases c13 : x9 = 13
  · exact lv_tableIn (off := 981) (tgt := 1021) hx hb dL_law_40 (by rw [c13]; decide) (by rw [c13]; decide) (by rw [c13]; rfl) (by decide) (lw_c13 C0 E K Z ρ σ u H locs ls k n J)
  by_cases c14 : x9 = 14
  · exact lv_tableIn (off := 1037) (tgt := 1077) hx hb dL_law_40 (by rw [c14]; decide) (by rw [c14]; decide) (by rw [c14]; rfl) (by decide) (lw_c14 C0 E K Z ρ σ u H locs ls k n J)
  by_cases c15 : x9 = 15
  · exact lv_tableIn (off := 1093) (tgt := 1133) hx hb dL_law_40 (by rw [c15]; decide) (by rw [c15]; decide) (by rw [c15]; rfl) (by decide) (lw_c15 C0 E K Z ρ σ u H locs ls k n J)
  by_cases c16 : x9 = 16
  · exact lv_tableIn (off := 1149) (tgt := 1189) hx hb dL_law_40 (by rw [c16]; decide) (by rw [c16]; decide) (by rw [c16]; rfl) (by decide) (lw_c16 C0 E K Z ρ σ u H locs ls k n J)
  by_cases c17 : x9 = 17
  · exact lv_tableIn (off := 1212) (tgt := 1252) hx hb dL_law_40 (by rw [c17]; decide) (by rw [c17]; decide) (by rw [c17]; rfl) (by decide) (lw_c17 C0 E K Z ρ σ u H locs ls k n J)
  by_cases c18 : x9 = 18
  · exact lv_tableIn (off := 1280) (tgt := 1320) hx hb dL_law_40 (by rw [c18]; decide) (by rw [c18]; decide) (by rw [c18]; rfl) (by decide) (lw_c18 C0 E K Z ρ σ u H locs ls k n J)
  by_cases c19 : x9 = 19
  · exact lv_tableIn (off := 1336) (tgt := 1376) hx hb dL_law_40 (by rw [c19]; decide) (by rw [c19]; decide) (by rw [c19]; rfl) (by decide) (lw_c19 C0 E K Z ρ σ u H locs ls k n J)
  by_cases c20 : x9 = 20
  · exact lv_tableIn (off := 1392) (tgt := 1432) hx hb dL_law_40 (by rw [c20]; decide) (by rw [c20]; decide) (by rw [c20]; rfl) (by decide) (lw_c20 C0 E K Z ρ σ u H locs ls k n J)
  by_cases c21 : x9 = 21
  · exact lv_tableIn (off := 1448) (tgt := 1488) hx hb dL_law_40 (by rw [c21]; decide) (by rw [c21]; decide) (by rw [c21]; rfl) (by decide) (lw_c21 C0 E K Z ρ σ u H locs ls k n J)
  by_cases c22 : x9 = 22
  · exact lv_tableIn (off := 1461) (tgt := 1501) hx hb dL_law_40 (by rw [c22]; decide) (by rw [c22]; decide) (by rw [c22]; rfl) (by decide) (lw_c22 C0 E K Z ρ σ u H locs ls k n J)
  by_cases c23 : x9 = 23
  · exact lv_tableIn (off := 1517) (tgt := 1557) hx hb dL_law_40 (by rw [c23]; decide) (by rw [c23]; decide) (by rw [c23]; rfl) (by decide) (lw_c23 C0 E K Z ρ σ u H locs ls k n J)
  by_cases c24 : x9 = 24
  · exact lv_tableIn (off := 1561) (tgt := 1601) hx hb dL_law_40 (by rw [c24]; decide) (by rw [c24]; decide) (by rw [c24]; rfl) (by decide) (lw_c24 C0 E K Z ρ σ u H locs ls k n J)
  by_cases c25 : x9 = 25
  · exact lv_tableIn (off := 1617) (tgt := 1657) hx hb dL_law_40 (by rw [c25]; decide) (by rw [c25]; decide) (by rw [c25]; rfl) (by decide) (lw_c25 C0 E K Z ρ σ u H locs ls k n J)
  by_cases c26 : x9 = 26
  · exact lv_tableIn (off := 1630) (tgt := 1670) hx hb dL_law_40 (by rw [c26]; decide) (by rw [c26]; decide) (by rw [c26]; rfl) (by decide) (lw_c26 C0 E K Z ρ σ u H locs ls k n J)
  by_cases c27 : x9 = 27
  · exact lv_tableIn (off := 1693) (tgt := 1733) hx hb dL_law_40 (by rw [c27]; decide) (by rw [c27]; decide) (by rw [c27]; rfl) (by decide) (lw_c27 C0 E K Z ρ σ u H locs ls k n J)
  by_cases c28 : x9 = 28
  · exact lv_tableIn (off := 1749) (tgt := 1789) hx hb dL_law_40 (by rw [c28]; decide) (by rw [c28]; decide) (by rw [c28]; rfl) (by decide) (lw_c28 C0 E K Z ρ σ u H locs ls k n J)
  by_cases c29 : x9 = 29
  · exact lv_tableIn (off := 1762) (tgt := 1802) hx hb dL_law_40 (by rw [c29]; decide) (by rw [c29]; decide) (by rw [c29]; rfl) (by decide) (lw_c29 C0 E K Z ρ σ u H locs ls k n J)
  by_cases c30 : x9 = 30
  · exact lv_tableIn (off := 1775) (tgt := 1815) hx hb dL_law_40 (by rw [c30]; decide) (by rw [c30]; decide) (by rw [c30]; rfl) (by decide) (lw_c30 C0 E K Z ρ σ u H locs ls k n J)
  by_cases c31 : x9 = 31
  · exact lv_tableIn (off := 1788) (tgt := 1828) hx hb dL_law_40 (by rw [c31]; decide) (by rw [c31]; decide) (by rw [c31]; rfl) (by decide) (lw_c31 C0 E K Z ρ σ u H locs ls k n J)
  by_cases c32 : x9 = 32
  · exact lv_tableIn (off := 1844) (tgt := 1884) hx hb dL_law_40 (by rw [c32]; decide) (by rw [c32]; decide) (by rw [c32]; rfl) (by decide) (lw_c32 C0 E K Z ρ σ u H locs ls k n J)
  have hno : ∀ k : Nat, k < 33 → ¬ x9 = nI k := by
    intro k hk
    match k, hk with
    | 0, _ => exact c0
    | 1, _ => exact c1
    | 2, _ => exact c2
    | 3, _ => exact c3
    | 4, _ => exact c4
    | 5, _ => exact c5
    | 6, _ => exact c6
    | 7, _ => exact c7
    | 8, _ => exact c8
    | 9, _ => exact c9
    | 10, _ => exact c10
    | 11, _ => exact c11
    | 12, _ => exact c12
    | 13, _ => exact c13
    | 14, _ => exact c14
    | 15, _ => exact c15
    | 16, _ => exact c16
    | 17, _ => exact c17
    | 18, _ => exact c18
    | 19, _ => exact c19
    | 20, _ => exact c20
    | 21, _ => exact c21
    | 22, _ => exact c22
    | 23, _ => exact c23
    | 24, _ => exact c24
    | 25, _ => exact c25
    | 26, _ => exact c26
    | 27, _ => exact c27
    | 28, _ => exact c28
    | 29, _ => exact c29
    | 30, _ => exact c30
    | 31, _ => exact c31
    | 32, _ => exact c32
    | k + 33, hk => exact absurd hk (by omega)
  refine lv_tableOut (tgt := 1940) hx hb dL_law_40 (lw_sw hno) (by decide) (K Z ρ σ u H locs ls k n ⟨hZ, hP, hS, hl, by omega, by omega⟩)
set_option maxHeartbeats 4000000 in
set_option maxRecDepth 100000 in
/-- THE LAW'S LOOP: at its head, with j calls made -/
theorem lw_loop {p : Program} {l : Launch} {e : Env} {s : State} {m : MethodId} {below : List Frame} {meth : Method} {c : Code} {b L : Nat} {xs : Nat → Int32} {G : m_G} {h o : Nat} (hL : L ≤ 3584) (C0 : lw_At p s m meth c b L xs) (hst : l.stackTraces = false) (hM : mS G s) (hG1 : G.1 = s.heap.size) :
    ∀ d j : Nat, j ≤ 512 → j + d = 513 → lw_Go p l e s m below meth c b G h o (nI (7 * j)) j 23 := by
  obtain ⟨hx, hb, hr, hml, hown, hts, hX, hbl, hlocks, hgv⟩ := id C0
  have hbA : ¬ (fun q : Nat => G.1 ≤ q) b := by rw [hG1]; exact Nat.not_le.mpr hbl
  intro d
  induction d with
  | zero => intro j h1 h2; omega
  | succ d ih =>
    intro j h1 h2 Z ρ σ u H locs ls k n J
    obtain ⟨hZ, hP, hS, hl, hk, hn⟩ := id J
    have hq0 := LZ_q hZ
    refine lv_iload hx hb dL_law_23 (lv_at hl 4 rfl) ?_
    refine lv_aload_n hx hb dL_law_25 rfl (lv_at hl 0 rfl) ?_
    refine va_slen hx hb hX hbl hbA hS dL_law_26 ?_
    refine lv_bipush (v := 7) hx hb dL_law_27 (by decide) ?_
    refine lv_isub hx hb dL_law_29 ?_
    refine lv_icmp_gt (tgt := 1946) hx hb dL_law_30 (by decide) (fun c1 => ?_) (fun c1 => ?_)
    · refine lv_iconst (v := 1) hx hb dL_law_1946 (by decide) ?_
      refine va_forget (fun q hq => by rw [← hG1]; exact hS.2.2 q hq) ?_
      refine W.widen (k := 601024) (n := 7293034) (by omega) (by omega) ?_
      exact lw_ret hx hb hr hlocks dL_law_1947
    · have hi := lw_ends hL (by omega) c1
      have E : lw_E l G s (nI (7 * j)) j L := ⟨hst, hM, hG1, by omega, vp_in_nI (by omega) (by omega), fun q hq => by rw [lw_add]; exact vp_in_nI (by omega) (by omega)⟩
      refine lw_dispatch C0 E (fun Z ρ σ u H locs ls k n J => ?_) Z ρ σ u H locs ls k n J
      obtain ⟨hZ, hP, hS, hl, hk, hn⟩ := J
      refine lv_iinc (v := nI (7 * j) + 7) (lv' := [(4, .int (nI (7 * j) + 7)), (0, .ref b), (1, .ref h), (2, .ref Z.2.1), (3, .ref o)]) hx hb dL_law_1940 hl (k := 4) rfl rfl (by decide) rfl (fun ls hl => ?_)
      have e7 : nI (7 * j) + 7 = nI (7 * (j + 1)) := lw_add (7 * j) 7
      rw [e7] at hl
      refine lv_goto (tgt := 23) hx hb dL_law_1943 (by decide) ?_
      exact ih (j + 1) (by omega) (by omega) Z ρ σ u H locs ls k n ⟨hZ, hP, hS, lv_sub hl [1, 2, 3, 4, 0] rfl, hk, hn⟩
set_option maxHeartbeats 4000000 in
set_option maxRecDepth 100000 in
/-- from the entry, for every script of at most 3584 ints, the law comes to its end with true -/
theorem whole_start {p : Program} {e : Env} {s : State} {m : MethodId} {below : List Frame} {meth : Method} {c : Code} (l : Launch) (hflags : l.flags = flags0) {b L : Nat} {xs : Nat → Int32} (hL : L ≤ 3584) (C0 : lw_At p s m meth c b L xs) : W p l e room_1 s m #[Value.ref b] below meth c s.heap [] 0 0 (lw_Z below #[Value.ref b] s) (entryFrame m ([Value.ref b] : List Value).toArray 7) := by
  obtain ⟨hx, hb, hr, hml, hown, hts, hX, hbl, hlocks, hgv⟩ := id C0
  have hown : s.vm.findClass RL = some m.cls := hown
  have hst : l.stackTraces = false := by
    unfold Launch.stackTraces
    rw [hflags]
    decide +kernel
  obtain ⟨G, hG1, hM, hP, hlt⟩ := n_start hts hgv
  obtain ⟨w2, w4, Z, ρ9, q1, q2, q3, q4, hZ⟩ := LZ_start (t0 := G.2.2.2) (n_DF hlt)
  have hS : va_S (fun q => G.1 ≤ q) s.heap s.heap [] := va_S.rf
  have hin9 : ∀ w ∈ u_ws RX6 TX6 8, w ∈ lw_tbl := by decide +kernel
  have hin10 : ∀ w ∈ u_ws RX7 TX7 32, w ∈ lw_tbl := by decide +kernel
  have hl := lv_entry ([.ref b]) (n := 7) (Nat.le_of_ble_eq_true rfl)
  rw [lg_entry_eq]
  generalize (lg_sl ([.ref b]) ++ List.replicate (7 - (lg_sl ([.ref b])).length) Slot.unset).toArray = ls at hl ⊢
  have hl : lv_has ls 7 [(0, .ref b)] := hl
  obtain ⟨w0, hw0⟩ : ∃ w0 : mW, w0 = w_E G.2.2.2.1 s.heap.size := ⟨_, rfl⟩
  rw [← hw0] at hP hZ q1
  refine m_new (C := RX6) (T := TX6) (N := 8) (own := RL) hx hb hts hin9 tyX6 tyX6_ok hown (hts (.classLink RL 8 RX6) (by decide +kernel)) (hts (.instantiable RX6 8) (by decide +kernel)) (hts (.initialized RX6) (by decide +kernel)) hM.1 hP hS 9 rfl ⟨by decide, by decide, m_dfX6⟩ (Nat.le_of_ble_eq_true rfl) (Nat.le_of_ble_eq_true rfl) dL_law_0 (fun H hP hS => ?_)
  refine lv_dup hx hb dL_law_3 rfl ?_
  refine m_callv (k := 19) (n := 110) (va_runI (As := []) (rest := [.ref (m_nx w0)]) ⟨hx, hb, hml, hown, w_lawH hts⟩ (c_X6_init l G (m_nO w0 9) w2 (m_nx w0) () q1) (cwI 0 (w_lawH hts) gL_law_X6_init rfl rfl rfl (hts (.initialized RX6) (by decide +kernel)) (hts (.methodLink RL 104 yX6_init) (by decide +kernel)) (hts (.instanceMethod yX6_init) (by decide +kernel)) rfl (by decide +kernel) ⟨(Nat.le_of_ble_eq_true rfl), (Nat.le_of_ble_eq_true rfl)⟩) (m_preS hM hP hS) rfl rfl hl.1 rfl (lv_room (Nat.le_of_ble_eq_true rfl)) dL_law_4 ⟨(Nat.le_of_ble_eq_true rfl), (Nat.le_of_ble_eq_true rfl)⟩) hS ⟨(Nat.le_of_ble_eq_true rfl), (Nat.le_of_ble_eq_true rfl)⟩ (fun H locs hP hS => ?_)
  refine lv_astore_n (lv' := [(1, .ref (m_nx w0)), (0, .ref b)]) hx hb dL_law_7 rfl hl (by decide) rfl (fun ls hl => ?_)
  refine m_new (C := RX7) (T := TX7) (N := 32) (own := RL) hx hb hts hin10 tyX7 tyX7_ok hown (hts (.classLink RL 105 RX7) (by decide +kernel)) (hts (.instantiable RX7 32) (by decide +kernel)) (hts (.initialized RX7) (by decide +kernel)) hM.1 hP hS 10 rfl ⟨by decide, by decide, m_dfX7⟩ (Nat.le_of_ble_eq_true rfl) (Nat.le_of_ble_eq_true rfl) dL_law_8 (fun H hP hS => ?_)
  refine lv_dup hx hb dL_law_11 rfl ?_
  refine m_callv (k := 44) (n := 6652) (va_runI (As := []) (rest := [.ref (m_nx w2)]) ⟨hx, hb, hml, hown, w_lawH hts⟩ (c_X7_init l G (m_nO w2 10) w4 (m_nx w2) () q2) (cwI 0 (w_lawH hts) gL_law_X7_init rfl rfl rfl (hts (.initialized RX7) (by decide +kernel)) (hts (.methodLink RL 107 yX7_init) (by decide +kernel)) (hts (.instanceMethod yX7_init) (by decide +kernel)) rfl (by decide +kernel) ⟨(Nat.le_of_ble_eq_true rfl), (Nat.le_of_ble_eq_true rfl)⟩) (m_preS hM hP hS) rfl rfl hl.1 rfl (lv_room (Nat.le_of_ble_eq_true rfl)) dL_law_12 ⟨(Nat.le_of_ble_eq_true rfl), (Nat.le_of_ble_eq_true rfl)⟩) hS ⟨(Nat.le_of_ble_eq_true rfl), (Nat.le_of_ble_eq_true rfl)⟩ (fun H locs hP hS => ?_)
  refine lv_astore_n (lv' := [(2, .ref (m_nx w2)), (1, .ref (m_nx w0)), (0, .ref b)]) hx hb dL_law_15 rfl hl (by decide) rfl (fun ls hl => ?_)
  refine lv_iconst (v := 1) hx hb dL_law_16 (by decide) ?_
  refine m_newA (atype := .long) 25 (N := 1) hx hb (hts (.arrayClass .long) (by decide +kernel)) rfl hM.1 hP hS (t0 := 4) rfl m_nalong ⟨by decide, by decide, by decide⟩ (Nat.le_of_ble_eq_true rfl) (Nat.le_of_ble_eq_true rfl) dL_law_17 (fun H hP hS => ?_)
  have e1 : (1 : Int32).toNatClampNeg = 1 := by decide
  rw [e1, ← q4] at hP
  refine lv_astore_n (lv' := [(3, .ref (m_nx w4)), (2, .ref (m_nx w2)), (1, .ref (m_nx w0)), (0, .ref b)]) hx hb dL_law_19 rfl hl (by decide) rfl (fun ls hl => ?_)
  refine lv_iconst (v := 0) hx hb dL_law_20 (by decide) ?_
  refine lv_istore (lv' := [(4, .int 0), (3, .ref (m_nx w4)), (2, .ref (m_nx w2)), (1, .ref (m_nx w0)), (0, .ref b)]) hx hb dL_law_21 hl (by decide) rfl (fun ls hl => ?_)
  rw [← q3] at hl
  have hl2 : lv_has ls 7 [(0, .ref b), (1, .ref (m_nx w0)), (2, .ref Z.2.1), (3, .ref (m_nx w4)), (4, .int (nI (7 * 0)))] := lv_sub hl [4, 3, 2, 1, 0] rfl
  exact lw_loop hL C0 hst hM hG1 513 0 (by omega) rfl Z ρ9 q_0 u_0 H locs ls _ _ ⟨hZ, hP, hS, hl2, by decide, by decide⟩
