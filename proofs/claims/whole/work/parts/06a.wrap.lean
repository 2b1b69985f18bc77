noncomputable def e_L_addCell (t0 : Nat × Nat × Nat × Nat) (w : mW) (p0 : Nat) (p1 : Nat) : Option (Int32 × mW) := m_g (m_kd w p0 = 10) <| m_hw (e_X6_addCell t0 w p0) (fun E w3 => if E = "java/lang/IllegalStateException" then some (1, w3) else none) fun r5 w3 => m_g (m_kd w3 p1 = 25 ∧ ¬ ((0 : Int32) < 0 ∨ m_ln w3 p1 ≤ (0 : Int32).toNatClampNeg)) <| m_l (m_sL w3 p1 ((0 : Int32).toNatClampNeg) r5.toInt64) fun w9 => some (0, w9)
set_option maxHeartbeats 1000000 in
set_option maxRecDepth 100000 in
theorem c_L_addCell (l : Launch) (hst : l.stackTraces = false) (G : m_G) (w w' : mW) (p0 : Nat) (p1 : Nat) (r : Int32) (hd : e_L_addCell G.2.2.2 w p0 p1 = some (r, w')) : Met l yL_addCell wsL_addCell ({ frames := 9, cells := 5, slots := 1212, locals := 233 } : Room) (m_Pc G w [.ref (p0), .ref (p1)]) (m_Qn G r w') 5 1212 (fun q => G.1 ≤ q) := by
  refine va_MetW (cc := cL_addCell) (maxL := 3) (ret := (some .int)) (hh := [(0, 8, 11, 13)]) (by decide +kernel) rfl ?_
  intro p e s m args below meth c s₁ B hml hv
  obtain ⟨rfl, hM, hP⟩ := hv
  have hx := B.exec
  have hb := B.bytes
  have hr := B.returns
  have hts := atoms_spec (ws := wsL_addCell) B.pre
  have hown : s.vm.findClass RL = some m.cls := findClass_of_methodNamed B.named
  have hlocks := B.notSynchronized
  have htab := vx_table (x := yL_addCell) B (hts (.codeWith yL_addCell cL_addCell 3 (some .int) [(0, 8, 11, 13)]) (List.mem_cons_self))
  have hS : va_S (fun q => G.1 ≤ q) s.heap s.heap [] := va_S.rf
  have hl := lv_entry ([.ref (p0), .ref (p1)]) (n := 3) (Nat.le_of_ble_eq_true rfl)
  rw [lg_entry_eq]
  generalize (lg_sl ([.ref (p0), .ref (p1)]) ++ List.replicate (3 - (lg_sl ([.ref (p0), .ref (p1)])).length) Slot.unset).toArray = ls at hl ⊢
  have hl : lv_has ls 3 [(0, .ref (p0)), (1, .ref (p1))] := hl
  refine lv_aload_n hx hb dL_addCell_0 rfl (lv_at hl 1 rfl) ?_
  refine lv_iconst (v := 0) hx hb dL_addCell_1 (by decide) ?_
  refine lv_aload_n hx hb dL_addCell_2 rfl (lv_at hl 0 rfl) ?_
  obtain ⟨hk1, hd⟩ := m_g_e hd
  obtain ⟨o2, w3, hc4, hx6, hd⟩ := m_h_e hd
  refine m_callhi (k := 5) (n := 1212) (vx_runV (As := []) (rest := [.int (0), .ref (p1)]) ⟨hx, hb, hml, hown, hts⟩ (c_X6_addCell l hst G w w3 p0 o2 hc4) (cwV 0 hts gL_addCell_X6_addCell rfl rfl rfl (by decide +kernel) ⟨(Nat.le_of_ble_eq_true rfl), (Nat.le_of_ble_eq_true rfl)⟩) (m_preV (C := RX6) (T := TX6) (N := 8) hM hP hS rfl (by decide) hk1) rfl rfl hl.1 rfl (lv_room (Nat.le_of_ble_eq_true rfl)) dL_addCell_3 ⟨(Nat.le_of_ble_eq_true rfl), (Nat.le_of_ble_eq_true rfl)⟩) hS ⟨(Nat.le_of_ble_eq_true rfl), (Nat.le_of_ble_eq_true rfl)⟩ (fun E hoE hEm ce q9 n9 H locs hn9 hP hS hcell hcv hcl => ?_) (fun r5 ho7 H locs hP hS => ?_)
  · have hd := hx6 E hoE
    by_cases g9 : E = "java/lang/IllegalStateException"
    · subst g9
      have hd := m_i_t rfl hd
      refine m_catch (own := RL) hown hM hEm [] ⟨0, 8, 11, 13⟩ [] htab (fun z hz => nomatch hz) rfl (by decide) (hts (.classLink RL 13 "java/lang/IllegalStateException") (by decide +kernel)) hcell hcv hcl ?_
      refine lv_astore_n (lv' := [(2, .ref (q9)), (0, .ref (p0)), (1, .ref (p1))]) hx hb dL_addCell_11 rfl hl (by decide) rfl (fun ls hl => ?_)
      refine lv_iconst (v := 1) hx hb dL_addCell_12 (by decide) ?_
      obtain ⟨e1, e2⟩ := m_s_e hd
      refine W.widen (k := 5) (n := 1212) (Nat.le_of_ble_eq_true rfl) (Nat.le_of_ble_eq_true rfl) ?_
      exact W.iret hx hb hr (fun t ht hW => ⟨⟨_, m_sX w3 n9, rfl, ⟨e1, n9, by rw [← e2]; exact hn9, by rw [e2]⟩, by show mP _ _ t.heap; rw [ht]; exact hP⟩, hS.F ht⟩) hS.2.2 dL_addCell_13
    · have hd := m_i_f g9 hd
      exact nomatch hd
  have hd := hd r5 ho7
  refine lv_i2l (v := r5.toInt64) hx hb dL_addCell_6 rfl ?_
  obtain ⟨hg8, hd⟩ := m_g_e hd
  refine m_last hx hb hM.1 hP hS hg8 dL_addCell_7 (fun H locs hP hS => ?_)
  obtain ⟨w9, ew, hd⟩ := m_l_e hd
  have hP : mP G w9 H := by rw [ew]; exact hP
  refine lv_goto (tgt := 14) hx hb dL_addCell_8 (by decide) ?_
  refine lv_iconst (v := 0) hx hb dL_addCell_14 (by decide) ?_
  obtain ⟨e1, e2⟩ := m_s_e hd
  refine W.widen (k := 5) (n := 1212) (Nat.le_of_ble_eq_true rfl) (Nat.le_of_ble_eq_true rfl) ?_
  exact W.iret hx hb hr (fun t ht hW => ⟨⟨_, w9, rfl, ⟨e1, m_nx w', Nat.le_refl _, e2.trans m_sX_self.symm⟩, by show mP _ _ t.heap; rw [ht]; exact hP⟩, hS.F ht⟩) hS.2.2 dL_addCell_15


noncomputable def e_L_write (t0 : Nat × Nat × Nat × Nat) (w : mW) (p0 : Nat) (p1 : Int32) (p2 : Int32) (p3 : Int32) (p4 : Int32) (p5 : Int32) (p6 : Int32) (p7 : Nat) : Option (Int32 × mW) := m_g (m_kd w p0 = 10) <| m_hw (e_X6_write t0 w p0 p1 p2 p3 p4 p5 p6) (fun E w3 => if E = "java/lang/IndexOutOfBoundsException" then some (1, w3) else (if E = "java/lang/IllegalArgumentException" then some (2, w3) else (if E = "java/lang/IllegalStateException" then some (3, w3) else none))) fun r5 w3 => m_g (m_kd w3 p7 = 25 ∧ ¬ ((0 : Int32) < 0 ∨ m_ln w3 p7 ≤ (0 : Int32).toNatClampNeg)) <| m_l (m_sL w3 p7 ((0 : Int32).toNatClampNeg) r5.toInt64) fun w9 => some (0, w9)
set_option maxHeartbeats 1000000 in
set_option maxRecDepth 100000 in
theorem c_L_write (l : Launch) (hst : l.stackTraces = false) (G : m_G) (w w' : mW) (p0 : Nat) (p1 : Int32) (p2 : Int32) (p3 : Int32) (p4 : Int32) (p5 : Int32) (p6 : Int32) (p7 : Nat) (r : Int32) (hd : e_L_write G.2.2.2 w p0 p1 p2 p3 p4 p5 p6 p7 = some (r, w')) : Met l yL_write wsL_write ({ frames := 10, cells := 6, slots := 628, locals := 238 } : Room) (m_Pc G w [.ref (p0), .int (p1), .int (p2), .int (p3), .int (p4), .int (p5), .int (p6), .ref (p7)]) (m_Qn G r w') 6 628 (fun q => G.1 ≤ q) := by
  refine va_MetW (cc := cL_write) (maxL := 9) (ret := (some .int)) (hh := [(0, 18, 21, 19), (0, 18, 25, 21), (0, 18, 29, 13)]) (by decide +kernel) rfl ?_
  intro p e s m args below meth c s₁ B hml hv
  obtain ⟨rfl, hM, hP⟩ := hv
  have hx := B.exec
  have hb := B.bytes
  have hr := B.returns
  have hts := atoms_spec (ws := wsL_write) B.pre
  have hown : s.vm.findClass RL = some m.cls := findClass_of_methodNamed B.named
  have hlocks := B.notSynchronized
  have htab := vx_table (x := yL_write) B (hts (.codeWith yL_write cL_write 9 (some .int) [(0, 18, 21, 19), (0, 18, 25, 21), (0, 18, 29, 13)]) (List.mem_cons_self))
  have hS : va_S (fun q => G.1 ≤ q) s.heap s.heap [] := va_S.rf
  have hl := lv_entry ([.ref (p0), .int (p1), .int (p2), .int (p3), .int (p4), .int (p5), .int (p6), .ref (p7)]) (n := 9) (Nat.le_of_ble_eq_true rfl)
  rw [lg_entry_eq]
  generalize (lg_sl ([.ref (p0), .int (p1), .int (p2), .int (p3), .int (p4), .int (p5), .int (p6), .ref (p7)]) ++ List.replicate (9 - (lg_sl ([.ref (p0), .int (p1), .int (p2), .int (p3), .int (p4), .int (p5), .int (p6), .ref (p7)])).length) Slot.unset).toArray = ls at hl ⊢
  have hl : lv_has ls 9 [(0, .ref (p0)), (1, .int (p1)), (2, .int (p2)), (3, .int (p3)), (4, .int (p4)), (5, .int (p5)), (6, .int (p6)), (7, .ref (p7))] := hl
  refine lv_aload hx hb dL_write_0 (lv_at hl 7 rfl) ?_
  refine lv_iconst (v := 0) hx hb dL_write_2 (by decide) ?_
  refine lv_aload_n hx hb dL_write_3 rfl (lv_at hl 0 rfl) ?_
  refine lv_iload_n hx hb dL_write_4 rfl (lv_at hl 1 rfl) ?_
  refine lv_iload_n hx hb dL_write_5 rfl (lv_at hl 2 rfl) ?_
  refine lv_iload_n hx hb dL_write_6 rfl (lv_at hl 3 rfl) ?_
  refine lv_iload hx hb dL_write_7 (lv_at hl 4 rfl) ?_
  refine lv_iload hx hb dL_write_9 (lv_at hl 5 rfl) ?_
  refine lv_iload hx hb dL_write_11 (lv_at hl 6 rfl) ?_
  obtain ⟨hk1, hd⟩ := m_g_e hd
  obtain ⟨o2, w3, hc4, hx6, hd⟩ := m_h_e hd
  refine m_callhi (k := 6) (n := 628) (vx_runV (As := [.int (p1), .int (p2), .int (p3), .int (p4), .int (p5), .int (p6)]) (rest := [.int (0), .ref (p7)]) ⟨hx, hb, hml, hown, hts⟩ (c_X6_write l hst G w w3 p0 p1 p2 p3 p4 p5 p6 o2 hc4) (cwV 6 hts gL_write_X6_write rfl rfl rfl (by decide +kernel) ⟨(Nat.le_of_ble_eq_true rfl), (Nat.le_of_ble_eq_true rfl)⟩) (m_preV (C := RX6) (T := TX6) (N := 8) hM hP hS rfl (by decide) hk1) rfl rfl hl.1 rfl (lv_room (Nat.le_of_ble_eq_true rfl)) dL_write_13 ⟨(Nat.le_of_ble_eq_true rfl), (Nat.le_of_ble_eq_true rfl)⟩) hS ⟨(Nat.le_of_ble_eq_true rfl), (Nat.le_of_ble_eq_true rfl)⟩ (fun E hoE hEm ce q9 n9 H locs hn9 hP hS hcell hcv hcl => ?_) (fun r5 ho7 H locs hP hS => ?_)
  · have hd := hx6 E hoE
    by_cases g9 : E = "java/lang/IndexOutOfBoundsException"
    · subst g9
      have hd := m_i_t rfl hd
      refine m_catch (own := RL) hown hM hEm [] ⟨0, 18, 21, 19⟩ [⟨0, 18, 25, 21⟩, ⟨0, 18, 29, 13⟩] htab (fun z hz => nomatch hz) rfl (by decide) (hts (.classLink RL 19 "java/lang/IndexOutOfBoundsException") (by decide +kernel)) hcell hcv hcl ?_
      refine lv_astore (lv' := [(8, .ref (q9)), (0, .ref (p0)), (1, .int (p1)), (2, .int (p2)), (3, .int (p3)), (4, .int (p4)), (5, .int (p5)), (6, .int (p6)), (7, .ref (p7))]) hx hb dL_write_21 hl (by decide) rfl (fun ls hl => ?_)
      refine lv_iconst (v := 1) hx hb dL_write_23 (by decide) ?_
      obtain ⟨e1, e2⟩ := m_s_e hd
      refine W.widen (k := 6) (n := 628) (Nat.le_of_ble_eq_true rfl) (Nat.le_of_ble_eq_true rfl) ?_
      exact W.iret hx hb hr (fun t ht hW => ⟨⟨_, m_sX w3 n9, rfl, ⟨e1, n9, by rw [← e2]; exact hn9, by rw [e2]⟩, by show mP _ _ t.heap; rw [ht]; exact hP⟩, hS.F ht⟩) hS.2.2 dL_write_24
    · have hd := m_i_f g9 hd
      by_cases g9 : E = "java/lang/IllegalArgumentException"
      · subst g9
        have hd := m_i_t rfl hd
        refine m_catch (own := RL) hown hM hEm [⟨0, 18, 21, 19⟩] ⟨0, 18, 25, 21⟩ [⟨0, 18, 29, 13⟩] htab (fun z hz => by
          simp only [List.mem_cons, List.mem_nil_iff, or_false] at hz
          rcases hz with rfl
          · exact ⟨by decide, "java/lang/IndexOutOfBoundsException", by decide, (hts (.classLink RL 19 "java/lang/IndexOutOfBoundsException") (by decide +kernel)), by decide⟩) rfl (by decide) (hts (.classLink RL 21 "java/lang/IllegalArgumentException") (by decide +kernel)) hcell hcv hcl ?_
        refine lv_astore (lv' := [(8, .ref (q9)), (0, .ref (p0)), (1, .int (p1)), (2, .int (p2)), (3, .int (p3)), (4, .int (p4)), (5, .int (p5)), (6, .int (p6)), (7, .ref (p7))]) hx hb dL_write_25 hl (by decide) rfl (fun ls hl => ?_)
        refine lv_iconst (v := 2) hx hb dL_write_27 (by decide) ?_
        obtain ⟨e1, e2⟩ := m_s_e hd
        refine W.widen (k := 6) (n := 628) (Nat.le_of_ble_eq_true rfl) (Nat.le_of_ble_eq_true rfl) ?_
        exact W.iret hx hb hr (fun t ht hW => ⟨⟨_, m_sX w3 n9, rfl, ⟨e1, n9, by rw [← e2]; exact hn9, by rw [e2]⟩, by show mP _ _ t.heap; rw [ht]; exact hP⟩, hS.F ht⟩) hS.2.2 dL_write_28
      · have hd := m_i_f g9 hd
        by_cases g9 : E = "java/lang/IllegalStateException"
        · subst g9
          have hd := m_i_t rfl hd
          refine m_catch (own := RL) hown hM hEm [⟨0, 18, 21, 19⟩, ⟨0, 18, 25, 21⟩] ⟨0, 18, 29, 13⟩ [] htab (fun z hz => by
            simp only [List.mem_cons, List.mem_nil_iff, or_false] at hz
            rcases hz with rfl | rfl
            · exact ⟨by decide, "java/lang/IndexOutOfBoundsException", by decide, (hts (.classLink RL 19 "java/lang/IndexOutOfBoundsException") (by decide +kernel)), by decide⟩
            · exact ⟨by decide, "java/lang/IllegalArgumentException", by decide, (hts (.classLink RL 21 "java/lang/IllegalArgumentException") (by decide +kernel)), by decide⟩) rfl (by decide) (hts (.classLink RL 13 "java/lang/IllegalStateException") (by decide +kernel)) hcell hcv hcl ?_
          refine lv_astore (lv' := [(8, .ref (q9)), (0, .ref (p0)), (1, .int (p1)), (2, .int (p2)), (3, .int (p3)), (4, .int (p4)), (5, .int (p5)), (6, .int (p6)), (7, .ref (p7))]) hx hb dL_write_29 hl (by decide) rfl (fun ls hl => ?_)
          refine lv_iconst (v := 3) hx hb dL_write_31 (by decide) ?_
          obtain ⟨e1, e2⟩ := m_s_e hd
          refine W.widen (k := 6) (n := 628) (Nat.le_of_ble_eq_true rfl) (Nat.le_of_ble_eq_true rfl) ?_
          exact W.iret hx hb hr (fun t ht hW => ⟨⟨_, m_sX w3 n9, rfl, ⟨e1, n9, by rw [← e2]; exact hn9, by rw [e2]⟩, by show mP _ _ t.heap; rw [ht]; exact hP⟩, hS.F ht⟩) hS.2.2 dL_write_32
        · have hd := m_i_f g9 hd
          exact nomatch hd
  have hd := hd r5 ho7
  refine lv_i2l (v := r5.toInt64) hx hb dL_write_16 rfl ?_
  obtain ⟨hg8, hd⟩ := m_g_e hd
  refine m_last hx hb hM.1 hP hS hg8 dL_write_17 (fun H locs hP hS => ?_)
  obtain ⟨w9, ew, hd⟩ := m_l_e hd
  have hP : mP G w9 H := by rw [ew]; exact hP
  refine lv_goto (tgt := 33) hx hb dL_write_18 (by decide) ?_
  refine lv_iconst (v := 0) hx hb dL_write_33 (by decide) ?_
  obtain ⟨e1, e2⟩ := m_s_e hd
  refine W.widen (k := 6) (n := 628) (Nat.le_of_ble_eq_true rfl) (Nat.le_of_ble_eq_true rfl) ?_
  exact W.iret hx hb hr (fun t ht hW => ⟨⟨_, w9, rfl, ⟨e1, m_nx w', Nat.le_refl _, e2.trans m_sX_self.symm⟩, by show mP _ _ t.heap; rw [ht]; exact hP⟩, hS.F ht⟩) hS.2.2 dL_write_34


noncomputable def e_L_clear (w : mW) (p0 : Nat) (p1 : Int32) (p2 : Int32) (p3 : Nat) : Option (Int32 × mW) := m_g (m_kd w p0 = 10) <| m_hw (e_X6_clear w p0 p1 p2) (fun E w3 => if E = "java/lang/IndexOutOfBoundsException" then some (1, w3) else (if E = "java/lang/IllegalStateException" then some (2, w3) else none)) fun r5 w3 => m_g (m_kd w3 p3 = 25 ∧ ¬ ((0 : Int32) < 0 ∨ m_ln w3 p3 ≤ (0 : Int32).toNatClampNeg)) <| m_l (m_sL w3 p3 ((0 : Int32).toNatClampNeg) r5.toInt64) fun w9 => some (0, w9)
set_option maxHeartbeats 1000000 in
set_option maxRecDepth 100000 in
theorem c_L_clear (l : Launch) (hst : l.stackTraces = false) (G : m_G) (w w' : mW) (p0 : Nat) (p1 : Int32) (p2 : Int32) (p3 : Nat) (r : Int32) (hd : e_L_clear w p0 p1 p2 p3 = some (r, w')) : Met l yL_clear wsL_clear ({ frames := 10, cells := 3, slots := 18, locals := 186 } : Room) (m_Pc G w [.ref (p0), .int (p1), .int (p2), .ref (p3)]) (m_Qn G r w') 3 18 (fun q => G.1 ≤ q) := by
  refine va_MetW (cc := cL_clear) (maxL := 5) (ret := (some .int)) (hh := [(0, 10, 13, 19), (0, 10, 17, 13)]) (by decide +kernel) rfl ?_
  intro p e s m args below meth c s₁ B hml hv
  obtain ⟨rfl, hM, hP⟩ := hv
  have hx := B.exec
  have hb := B.bytes
  have hr := B.returns
  have hts := atoms_spec (ws := wsL_clear) B.pre
  have hown : s.vm.findClass RL = some m.cls := findClass_of_methodNamed B.named
  have hlocks := B.notSynchronized
  have htab := vx_table (x := yL_clear) B (hts (.codeWith yL_clear cL_clear 5 (some .int) [(0, 10, 13, 19), (0, 10, 17, 13)]) (List.mem_cons_self))
  have hS : va_S (fun q => G.1 ≤ q) s.heap s.heap [] := va_S.rf
  have hl := lv_entry ([.ref (p0), .int (p1), .int (p2), .ref (p3)]) (n := 5) (Nat.le_of_ble_eq_true rfl)
  rw [lg_entry_eq]
  generalize (lg_sl ([.ref (p0), .int (p1), .int (p2), .ref (p3)]) ++ List.replicate (5 - (lg_sl ([.ref (p0), .int (p1), .int (p2), .ref (p3)])).length) Slot.unset).toArray = ls at hl ⊢
  have hl : lv_has ls 5 [(0, .ref (p0)), (1, .int (p1)), (2, .int (p2)), (3, .ref (p3))] := hl
  refine lv_aload_n hx hb dL_clear_0 rfl (lv_at hl 3 rfl) ?_
  refine lv_iconst (v := 0) hx hb dL_clear_1 (by decide) ?_
  refine lv_aload_n hx hb dL_clear_2 rfl (lv_at hl 0 rfl) ?_
  refine lv_iload_n hx hb dL_clear_3 rfl (lv_at hl 1 rfl) ?_
  refine lv_iload_n hx hb dL_clear_4 rfl (lv_at hl 2 rfl) ?_
  obtain ⟨hk1, hd⟩ := m_g_e hd
  obtain ⟨o2, w3, hc4, hx6, hd⟩ := m_h_e hd
  refine m_callhi (k := 3) (n := 18) (vx_runV (As := [.int (p1), .int (p2)]) (rest := [.int (0), .ref (p3)]) ⟨hx, hb, hml, hown, hts⟩ (c_X6_clear l hst G w w3 p0 p1 p2 o2 hc4) (cwV 2 hts gL_clear_X6_clear rfl rfl rfl (by decide +kernel) ⟨(Nat.le_of_ble_eq_true rfl), (Nat.le_of_ble_eq_true rfl)⟩) (m_preV (C := RX6) (T := TX6) (N := 8) hM hP hS rfl (by decide) hk1) rfl rfl hl.1 rfl (lv_room (Nat.le_of_ble_eq_true rfl)) dL_clear_5 ⟨(Nat.le_of_ble_eq_true rfl), (Nat.le_of_ble_eq_true rfl)⟩) hS ⟨(Nat.le_of_ble_eq_true rfl), (Nat.le_of_ble_eq_true rfl)⟩ (fun E hoE hEm ce q9 n9 H locs hn9 hP hS hcell hcv hcl => ?_) (fun r5 ho7 H locs hP hS => ?_)
  · have hd := hx6 E hoE
    by_cases g9 : E = "java/lang/IndexOutOfBoundsException"
    · subst g9
      have hd := m_i_t rfl hd
      refine m_catch (own := RL) hown hM hEm [] ⟨0, 10, 13, 19⟩ [⟨0, 10, 17, 13⟩] htab (fun z hz => nomatch hz) rfl (by decide) (hts (.classLink RL 19 "java/lang/IndexOutOfBoundsException") (by decide +kernel)) hcell hcv hcl ?_
      refine lv_astore (lv' := [(4, .ref (q9)), (0, .ref (p0)), (1, .int (p1)), (2, .int (p2)), (3, .ref (p3))]) hx hb dL_clear_13 hl (by decide) rfl (fun ls hl => ?_)
      refine lv_iconst (v := 1) hx hb dL_clear_15 (by decide) ?_
      obtain ⟨e1, e2⟩ := m_s_e hd
      refine W.widen (k := 3) (n := 18) (Nat.le_of_ble_eq_true rfl) (Nat.le_of_ble_eq_true rfl) ?_
      exact W.iret hx hb hr (fun t ht hW => ⟨⟨_, m_sX w3 n9, rfl, ⟨e1, n9, by rw [← e2]; exact hn9, by rw [e2]⟩, by show mP _ _ t.heap; rw [ht]; exact hP⟩, hS.F ht⟩) hS.2.2 dL_clear_16
    · have hd := m_i_f g9 hd
      by_cases g9 : E = "java/lang/IllegalStateException"
      · subst g9
        have hd := m_i_t rfl hd
        refine m_catch (own := RL) hown hM hEm [⟨0, 10, 13, 19⟩] ⟨0, 10, 17, 13⟩ [] htab (fun z hz => by
          simp only [List.mem_cons, List.mem_nil_iff, or_false] at hz
          rcases hz with rfl
          · exact ⟨by decide, "java/lang/IndexOutOfBoundsException", by decide, (hts (.classLink RL 19 "java/lang/IndexOutOfBoundsException") (by decide +kernel)), by decide⟩) rfl (by decide) (hts (.classLink RL 13 "java/lang/IllegalStateException") (by decide +kernel)) hcell hcv hcl ?_
        refine lv_astore (lv' := [(4, .ref (q9)), (0, .ref (p0)), (1, .int (p1)), (2, .int (p2)), (3, .ref (p3))]) hx hb dL_clear_17 hl (by decide) rfl (fun ls hl => ?_)
        refine lv_iconst (v := 2) hx hb dL_clear_19 (by decide) ?_
        obtain ⟨e1, e2⟩ := m_s_e hd
        refine W.widen (k := 3) (n := 18) (Nat.le_of_ble_eq_true rfl) (Nat.le_of_ble_eq_true rfl) ?_
        exact W.iret hx hb hr (fun t ht hW => ⟨⟨_, m_sX w3 n9, rfl, ⟨e1, n9, by rw [← e2]; exact hn9, by rw [e2]⟩, by show mP _ _ t.heap; rw [ht]; exact hP⟩, hS.F ht⟩) hS.2.2 dL_clear_20
      · have hd := m_i_f g9 hd
        exact nomatch hd
  have hd := hd r5 ho7
  refine lv_i2l (v := r5.toInt64) hx hb dL_clear_8 rfl ?_
  obtain ⟨hg8, hd⟩ := m_g_e hd
  refine m_last hx hb hM.1 hP hS hg8 dL_clear_9 (fun H locs hP hS => ?_)
  obtain ⟨w9, ew, hd⟩ := m_l_e hd
  have hP : mP G w9 H := by rw [ew]; exact hP
  refine lv_goto (tgt := 21) hx hb dL_clear_10 (by decide) ?_
  refine lv_iconst (v := 0) hx hb dL_clear_21 (by decide) ?_
  obtain ⟨e1, e2⟩ := m_s_e hd
  refine W.widen (k := 3) (n := 18) (Nat.le_of_ble_eq_true rfl) (Nat.le_of_ble_eq_true rfl) ?_
  exact W.iret hx hb hr (fun t ht hW => ⟨⟨_, w9, rfl, ⟨e1, m_nx w', Nat.le_refl _, e2.trans m_sX_self.symm⟩, by show mP _ _ t.heap; rw [ht]; exact hP⟩, hS.F ht⟩) hS.2.2 dL_clear_22


noncomputable def e_L_move (t0 : Nat × Nat × Nat × Nat) (w : mW) (p0 : Nat) (p1 : Int32) (p2 : Int32) (p3 : Nat) : Option (Int32 × mW) := m_g (m_kd w p0 = 10) <| m_hw (e_X6_move t0 w p0 p1 p2) (fun E w3 => if E = "java/lang/IndexOutOfBoundsException" then some (1, w3) else none) fun r5 w3 => m_g (m_kd w3 p3 = 25 ∧ ¬ ((0 : Int32) < 0 ∨ m_ln w3 p3 ≤ (0 : Int32).toNatClampNeg)) <| m_l (m_sL w3 p3 ((0 : Int32).toNatClampNeg) r5.toInt64) fun w9 => some (0, w9)
set_option maxHeartbeats 1000000 in
set_option maxRecDepth 100000 in
theorem c_L_move (l : Launch) (hst : l.stackTraces = false) (G : m_G) (w w' : mW) (p0 : Nat) (p1 : Int32) (p2 : Int32) (p3 : Nat) (r : Int32) (hd : e_L_move G.2.2.2 w p0 p1 p2 p3 = some (r, w')) : Met l yL_move wsL_move ({ frames := 10, cells := 3, slots := 612, locals := 215 } : Room) (m_Pc G w [.ref (p0), .int (p1), .int (p2), .ref (p3)]) (m_Qn G r w') 3 612 (fun q => G.1 ≤ q) := by
  refine va_MetW (cc := cL_move) (maxL := 5) (ret := (some .int)) (hh := [(0, 10, 13, 19)]) (by decide +kernel) rfl ?_
  intro p e s m args below meth c s₁ B hml hv
  obtain ⟨rfl, hM, hP⟩ := hv
  have hx := B.exec
  have hb := B.bytes
  have hr := B.returns
  have hts := atoms_spec (ws := wsL_move) B.pre
  have hown : s.vm.findClass RL = some m.cls := findClass_of_methodNamed B.named
  have hlocks := B.notSynchronized
  have htab := vx_table (x := yL_move) B (hts (.codeWith yL_move cL_move 5 (some .int) [(0, 10, 13, 19)]) (List.mem_cons_self))
  have hS : va_S (fun q => G.1 ≤ q) s.heap s.heap [] := va_S.rf
  have hl := lv_entry ([.ref (p0), .int (p1), .int (p2), .ref (p3)]) (n := 5) (Nat.le_of_ble_eq_true rfl)
  rw [lg_entry_eq]
  generalize (lg_sl ([.ref (p0), .int (p1), .int (p2), .ref (p3)]) ++ List.replicate (5 - (lg_sl ([.ref (p0), .int (p1), .int (p2), .ref (p3)])).length) Slot.unset).toArray = ls at hl ⊢
  have hl : lv_has ls 5 [(0, .ref (p0)), (1, .int (p1)), (2, .int (p2)), (3, .ref (p3))] := hl
  refine lv_aload_n hx hb dL_move_0 rfl (lv_at hl 3 rfl) ?_
  refine lv_iconst (v := 0) hx hb dL_move_1 (by decide) ?_
  refine lv_aload_n hx hb dL_move_2 rfl (lv_at hl 0 rfl) ?_
  refine lv_iload_n hx hb dL_move_3 rfl (lv_at hl 1 rfl) ?_
  refine lv_iload_n hx hb dL_move_4 rfl (lv_at hl 2 rfl) ?_
  obtain ⟨hk1, hd⟩ := m_g_e hd
  obtain ⟨o2, w3, hc4, hx6, hd⟩ := m_h_e hd
  refine m_callhi (k := 3) (n := 612) (vx_runV (As := [.int (p1), .int (p2)]) (rest := [.int (0), .ref (p3)]) ⟨hx, hb, hml, hown, hts⟩ (c_X6_move l hst G w w3 p0 p1 p2 o2 hc4) (cwV 2 hts gL_move_X6_move rfl rfl rfl (by decide +kernel) ⟨(Nat.le_of_ble_eq_true rfl), (Nat.le_of_ble_eq_true rfl)⟩) (m_preV (C := RX6) (T := TX6) (N := 8) hM hP hS rfl (by decide) hk1) rfl rfl hl.1 rfl (lv_room (Nat.le_of_ble_eq_true rfl)) dL_move_5 ⟨(Nat.le_of_ble_eq_true rfl), (Nat.le_of_ble_eq_true rfl)⟩) hS ⟨(Nat.le_of_ble_eq_true rfl), (Nat.le_of_ble_eq_true rfl)⟩ (fun E hoE hEm ce q9 n9 H locs hn9 hP hS hcell hcv hcl => ?_) (fun r5 ho7 H locs hP hS => ?_)
  · have hd := hx6 E hoE
    by_cases g9 : E = "java/lang/IndexOutOfBoundsException"
    · subst g9
      have hd := m_i_t rfl hd
      refine m_catch (own := RL) hown hM hEm [] ⟨0, 10, 13, 19⟩ [] htab (fun z hz => nomatch hz) rfl (by decide) (hts (.classLink RL 19 "java/lang/IndexOutOfBoundsException") (by decide +kernel)) hcell hcv hcl ?_
      refine lv_astore (lv' := [(4, .ref (q9)), (0, .ref (p0)), (1, .int (p1)), (2, .int (p2)), (3, .ref (p3))]) hx hb dL_move_13 hl (by decide) rfl (fun ls hl => ?_)
      refine lv_iconst (v := 1) hx hb dL_move_15 (by decide) ?_
      obtain ⟨e1, e2⟩ := m_s_e hd
      refine W.widen (k := 3) (n := 612) (Nat.le_of_ble_eq_true rfl) (Nat.le_of_ble_eq_true rfl) ?_
      exact W.iret hx hb hr (fun t ht hW => ⟨⟨_, m_sX w3 n9, rfl, ⟨e1, n9, by rw [← e2]; exact hn9, by rw [e2]⟩, by show mP _ _ t.heap; rw [ht]; exact hP⟩, hS.F ht⟩) hS.2.2 dL_move_16
    · have hd := m_i_f g9 hd
      exact nomatch hd
  have hd := hd r5 ho7
  refine lv_i2l (v := r5.toInt64) hx hb dL_move_8 rfl ?_
  obtain ⟨hg8, hd⟩ := m_g_e hd
  refine m_last hx hb hM.1 hP hS hg8 dL_move_9 (fun H locs hP hS => ?_)
  obtain ⟨w9, ew, hd⟩ := m_l_e hd
  have hP : mP G w9 H := by rw [ew]; exact hP
  refine lv_goto (tgt := 17) hx hb dL_move_10 (by decide) ?_
  refine lv_iconst (v := 0) hx hb dL_move_17 (by decide) ?_
  obtain ⟨e1, e2⟩ := m_s_e hd
  refine W.widen (k := 3) (n := 612) (Nat.le_of_ble_eq_true rfl) (Nat.le_of_ble_eq_true rfl) ?_
  exact W.iret hx hb hr (fun t ht hW => ⟨⟨_, w9, rfl, ⟨e1, m_nx w', Nat.le_refl _, e2.trans m_sX_self.symm⟩, by show mP _ _ t.heap; rw [ht]; exact hP⟩, hS.F ht⟩) hS.2.2 dL_move_18


noncomputable def e_L_cellAt (w : mW) (p0 : Nat) (p1 : Int32) (p2 : Nat) : Option (Int32 × mW) := m_g (m_kd w p0 = 10) <| m_hw (e_X6_cellAt w p0 p1) (fun E w3 => if E = "java/lang/IndexOutOfBoundsException" then some (1, w3) else none) fun r5 w3 => m_g (m_kd w3 p2 = 25 ∧ ¬ ((0 : Int32) < 0 ∨ m_ln w3 p2 ≤ (0 : Int32).toNatClampNeg)) <| m_l (m_sL w3 p2 ((0 : Int32).toNatClampNeg) r5.toInt64) fun w9 => some (0, w9)
set_option maxHeartbeats 1000000 in
set_option maxRecDepth 100000 in
theorem c_L_cellAt (l : Launch) (hst : l.stackTraces = false) (G : m_G) (w w' : mW) (p0 : Nat) (p1 : Int32) (p2 : Nat) (r : Int32) (hd : e_L_cellAt w p0 p1 p2 = some (r, w')) : Met l yL_cellAt wsL_cellAt ({ frames := 10, cells := 1, slots := 6, locals := 182 } : Room) (m_Pc G w [.ref (p0), .int (p1), .ref (p2)]) (m_Qn G r w') 1 6 (fun q => G.1 ≤ q) := by
  refine va_MetW (cc := cL_cellAt) (maxL := 4) (ret := (some .int)) (hh := [(0, 9, 12, 19)]) (by decide +kernel) rfl ?_
  intro p e s m args below meth c s₁ B hml hv
  obtain ⟨rfl, hM, hP⟩ := hv
  have hx := B.exec
  have hb := B.bytes
  have hr := B.returns
  have hts := atoms_spec (ws := wsL_cellAt) B.pre
  have hown : s.vm.findClass RL = some m.cls := findClass_of_methodNamed B.named
  have hlocks := B.notSynchronized
  have htab := vx_table (x := yL_cellAt) B (hts (.codeWith yL_cellAt cL_cellAt 4 (some .int) [(0, 9, 12, 19)]) (List.mem_cons_self))
  have hS : va_S (fun q => G.1 ≤ q) s.heap s.heap [] := va_S.rf
  have hl := lv_entry ([.ref (p0), .int (p1), .ref (p2)]) (n := 4) (Nat.le_of_ble_eq_true rfl)
  rw [lg_entry_eq]
  generalize (lg_sl ([.ref (p0), .int (p1), .ref (p2)]) ++ List.replicate (4 - (lg_sl ([.ref (p0), .int (p1), .ref (p2)])).length) Slot.unset).toArray = ls at hl ⊢
  have hl : lv_has ls 4 [(0, .ref (p0)), (1, .int (p1)), (2, .ref (p2))] := hl
  refine lv_aload_n hx hb dL_cellAt_0 rfl (lv_at hl 2 rfl) ?_
  refine lv_iconst (v := 0) hx hb dL_cellAt_1 (by decide) ?_
  refine lv_aload_n hx hb dL_cellAt_2 rfl (lv_at hl 0 rfl) ?_
  refine lv_iload_n hx hb dL_cellAt_3 rfl (lv_at hl 1 rfl) ?_
  obtain ⟨hk1, hd⟩ := m_g_e hd
  obtain ⟨o2, w3, hc4, hx6, hd⟩ := m_h_e hd
  refine m_callhi (k := 1) (n := 6) (vx_runV (As := [.int (p1)]) (rest := [.int (0), .ref (p2)]) ⟨hx, hb, hml, hown, hts⟩ (c_X6_cellAt l hst G w w3 p0 p1 o2 hc4) (cwV 1 hts gL_cellAt_X6_cellAt rfl rfl rfl (by decide +kernel) ⟨(Nat.le_of_ble_eq_true rfl), (Nat.le_of_ble_eq_true rfl)⟩) (m_preV (C := RX6) (T := TX6) (N := 8) hM hP hS rfl (by decide) hk1) rfl rfl hl.1 rfl (lv_room (Nat.le_of_ble_eq_true rfl)) dL_cellAt_4 ⟨(Nat.le_of_ble_eq_true rfl), (Nat.le_of_ble_eq_true rfl)⟩) hS ⟨(Nat.le_of_ble_eq_true rfl), (Nat.le_of_ble_eq_true rfl)⟩ (fun E hoE hEm ce q9 n9 H locs hn9 hP hS hcell hcv hcl => ?_) (fun r5 ho7 H locs hP hS => ?_)
  · have hd := hx6 E hoE
    by_cases g9 : E = "java/lang/IndexOutOfBoundsException"
    · subst g9
      have hd := m_i_t rfl hd
      refine m_catch (own := RL) hown hM hEm [] ⟨0, 9, 12, 19⟩ [] htab (fun z hz => nomatch hz) rfl (by decide) (hts (.classLink RL 19 "java/lang/IndexOutOfBoundsException") (by decide +kernel)) hcell hcv hcl ?_
      refine lv_astore_n (lv' := [(3, .ref (q9)), (0, .ref (p0)), (1, .int (p1)), (2, .ref (p2))]) hx hb dL_cellAt_12 rfl hl (by decide) rfl (fun ls hl => ?_)
      refine lv_iconst (v := 1) hx hb dL_cellAt_13 (by decide) ?_
      obtain ⟨e1, e2⟩ := m_s_e hd
      refine W.widen (k := 1) (n := 6) (Nat.le_of_ble_eq_true rfl) (Nat.le_of_ble_eq_true rfl) ?_
      exact W.iret hx hb hr (fun t ht hW => ⟨⟨_, m_sX w3 n9, rfl, ⟨e1, n9, by rw [← e2]; exact hn9, by rw [e2]⟩, by show mP _ _ t.heap; rw [ht]; exact hP⟩, hS.F ht⟩) hS.2.2 dL_cellAt_14
    · have hd := m_i_f g9 hd
      exact nomatch hd
  have hd := hd r5 ho7
  refine lv_i2l (v := r5.toInt64) hx hb dL_cellAt_7 rfl ?_
  obtain ⟨hg8, hd⟩ := m_g_e hd
  refine m_last hx hb hM.1 hP hS hg8 dL_cellAt_8 (fun H locs hP hS => ?_)
  obtain ⟨w9, ew, hd⟩ := m_l_e hd
  have hP : mP G w9 H := by rw [ew]; exact hP
  refine lv_goto (tgt := 15) hx hb dL_cellAt_9 (by decide) ?_
  refine lv_iconst (v := 0) hx hb dL_cellAt_15 (by decide) ?_
  obtain ⟨e1, e2⟩ := m_s_e hd
  refine W.widen (k := 1) (n := 6) (Nat.le_of_ble_eq_true rfl) (Nat.le_of_ble_eq_true rfl) ?_
  exact W.iret hx hb hr (fun t ht hW => ⟨⟨_, w9, rfl, ⟨e1, m_nx w', Nat.le_refl _, e2.trans m_sX_self.symm⟩, by show mP _ _ t.heap; rw [ht]; exact hP⟩, hS.F ht⟩) hS.2.2 dL_cellAt_16


noncomputable def e_L_source (t0 : Nat × Nat × Nat × Nat) (w : mW) (p0 : Nat) (p1 : Int32) (p2 : Nat) : Option (Int32 × mW) := m_g (m_kd w p0 = 10) <| m_hw (e_X6_source t0 w p0 p1) (fun E w3 => if E = "java/lang/IndexOutOfBoundsException" then some (1, w3) else none) fun r5 w3 => m_g (m_kd w3 p2 = 25 ∧ ¬ ((0 : Int32) < 0 ∨ m_ln w3 p2 ≤ (0 : Int32).toNatClampNeg)) <| m_l (m_sL w3 p2 ((0 : Int32).toNatClampNeg) r5.toInt64) fun w9 => some (0, w9)
set_option maxHeartbeats 1000000 in
set_option maxRecDepth 100000 in
theorem c_L_source (l : Launch) (hst : l.stackTraces = false) (G : m_G) (w w' : mW) (p0 : Nat) (p1 : Int32) (p2 : Nat) (r : Int32) (hd : e_L_source G.2.2.2 w p0 p1 p2 = some (r, w')) : Met l yL_source wsL_source ({ frames := 10, cells := 45, slots := 6326, locals := 259 } : Room) (m_Pc G w [.ref (p0), .int (p1), .ref (p2)]) (m_Qn G r w') 45 6326 (fun q => G.1 ≤ q) := by
  refine va_MetW (cc := cL_source) (maxL := 4) (ret := (some .int)) (hh := [(0, 9, 12, 19)]) (by decide +kernel) rfl ?_
  intro p e s m args below meth c s₁ B hml hv
  obtain ⟨rfl, hM, hP⟩ := hv
  have hx := B.exec
  have hb := B.bytes
  have hr := B.returns
  have hts := atoms_spec (ws := wsL_source) B.pre
  have hown : s.vm.findClass RL = some m.cls := findClass_of_methodNamed B.named
  have hlocks := B.notSynchronized
  have htab := vx_table (x := yL_source) B (hts (.codeWith yL_source cL_source 4 (some .int) [(0, 9, 12, 19)]) (List.mem_cons_self))
  have hS : va_S (fun q => G.1 ≤ q) s.heap s.heap [] := va_S.rf
  have hl := lv_entry ([.ref (p0), .int (p1), .ref (p2)]) (n := 4) (Nat.le_of_ble_eq_true rfl)
  rw [lg_entry_eq]
  generalize (lg_sl ([.ref (p0), .int (p1), .ref (p2)]) ++ List.replicate (4 - (lg_sl ([.ref (p0), .int (p1), .ref (p2)])).length) Slot.unset).toArray = ls at hl ⊢
  have hl : lv_has ls 4 [(0, .ref (p0)), (1, .int (p1)), (2, .ref (p2))] := hl
  refine lv_aload_n hx hb dL_source_0 rfl (lv_at hl 2 rfl) ?_
  refine lv_iconst (v := 0) hx hb dL_source_1 (by decide) ?_
  refine lv_aload_n hx hb dL_source_2 rfl (lv_at hl 0 rfl) ?_
  refine lv_iload_n hx hb dL_source_3 rfl (lv_at hl 1 rfl) ?_
  obtain ⟨hk1, hd⟩ := m_g_e hd
  obtain ⟨o2, w3, hc4, hx6, hd⟩ := m_h_e hd
  refine m_callhi (k := 45) (n := 6326) (vx_runV (As := [.int (p1)]) (rest := [.int (0), .ref (p2)]) ⟨hx, hb, hml, hown, hts⟩ (c_X6_source l hst G w w3 p0 p1 o2 hc4) (cwV 1 hts gL_source_X6_source rfl rfl rfl (by decide +kernel) ⟨(Nat.le_of_ble_eq_true rfl), (Nat.le_of_ble_eq_true rfl)⟩) (m_preV (C := RX6) (T := TX6) (N := 8) hM hP hS rfl (by decide) hk1) rfl rfl hl.1 rfl (lv_room (Nat.le_of_ble_eq_true rfl)) dL_source_4 ⟨(Nat.le_of_ble_eq_true rfl), (Nat.le_of_ble_eq_true rfl)⟩) hS ⟨(Nat.le_of_ble_eq_true rfl), (Nat.le_of_ble_eq_true rfl)⟩ (fun E hoE hEm ce q9 n9 H locs hn9 hP hS hcell hcv hcl => ?_) (fun r5 ho7 H locs hP hS => ?_)
  · have hd := hx6 E hoE
    by_cases g9 : E = "java/lang/IndexOutOfBoundsException"
    · subst g9
      have hd := m_i_t rfl hd
      refine m_catch (own := RL) hown hM hEm [] ⟨0, 9, 12, 19⟩ [] htab (fun z hz => nomatch hz) rfl (by decide) (hts (.classLink RL 19 "java/lang/IndexOutOfBoundsException") (by decide +kernel)) hcell hcv hcl ?_
      refine lv_astore_n (lv' := [(3, .ref (q9)), (0, .ref (p0)), (1, .int (p1)), (2, .ref (p2))]) hx hb dL_source_12 rfl hl (by decide) rfl (fun ls hl => ?_)
      refine lv_iconst (v := 1) hx hb dL_source_13 (by decide) ?_
      obtain ⟨e1, e2⟩ := m_s_e hd
      refine W.widen (k := 45) (n := 6326) (Nat.le_of_ble_eq_true rfl) (Nat.le_of_ble_eq_true rfl) ?_
      exact W.iret hx hb hr (fun t ht hW => ⟨⟨_, m_sX w3 n9, rfl, ⟨e1, n9, by rw [← e2]; exact hn9, by rw [e2]⟩, by show mP _ _ t.heap; rw [ht]; exact hP⟩, hS.F ht⟩) hS.2.2 dL_source_14
    · have hd := m_i_f g9 hd
      exact nomatch hd
  have hd := hd r5 ho7
  refine lv_i2l (v := r5.toInt64) hx hb dL_source_7 rfl ?_
  obtain ⟨hg8, hd⟩ := m_g_e hd
  refine m_last hx hb hM.1 hP hS hg8 dL_source_8 (fun H locs hP hS => ?_)
  obtain ⟨w9, ew, hd⟩ := m_l_e hd
  have hP : mP G w9 H := by rw [ew]; exact hP
  refine lv_goto (tgt := 15) hx hb dL_source_9 (by decide) ?_
  refine lv_iconst (v := 0) hx hb dL_source_15 (by decide) ?_
  obtain ⟨e1, e2⟩ := m_s_e hd
  refine W.widen (k := 45) (n := 6326) (Nat.le_of_ble_eq_true rfl) (Nat.le_of_ble_eq_true rfl) ?_
  exact W.iret hx hb hr (fun t ht hW => ⟨⟨_, w9, rfl, ⟨e1, m_nx w', Nat.le_refl _, e2.trans m_sX_self.symm⟩, by show mP _ _ t.heap; rw [ht]; exact hP⟩, hS.F ht⟩) hS.2.2 dL_source_16


noncomputable def e_L_sourceChar (t0 : Nat × Nat × Nat × Nat) (w : mW) (p0 : Nat) (p1 : Int32) (p2 : Int32) (p3 : Nat) : Option (Int32 × mW) := m_g (m_kd w p0 = 10) <| m_hw (e_X6_sourceChar t0 w p0 p1 p2) (fun E w3 => if E = "java/lang/IndexOutOfBoundsException" then some (1, w3) else none) fun r5 w3 => m_g (m_kd w3 p3 = 25 ∧ ¬ ((0 : Int32) < 0 ∨ m_ln w3 p3 ≤ (0 : Int32).toNatClampNeg)) <| m_l (m_sL w3 p3 ((0 : Int32).toNatClampNeg) r5.toInt64) fun w9 => some (0, w9)
set_option maxHeartbeats 1000000 in
set_option maxRecDepth 100000 in
theorem c_L_sourceChar (l : Launch) (hst : l.stackTraces = false) (G : m_G) (w w' : mW) (p0 : Nat) (p1 : Int32) (p2 : Int32) (p3 : Nat) (r : Int32) (hd : e_L_sourceChar G.2.2.2 w p0 p1 p2 p3 = some (r, w')) : Met l yL_sourceChar wsL_sourceChar ({ frames := 10, cells := 46, slots := 6332, locals := 261 } : Room) (m_Pc G w [.ref (p0), .int (p1), .int (p2), .ref (p3)]) (m_Qn G r w') 46 6332 (fun q => G.1 ≤ q) := by
  refine va_MetW (cc := cL_sourceChar) (maxL := 5) (ret := (some .int)) (hh := [(0, 10, 13, 19)]) (by decide +kernel) rfl ?_
  intro p e s m args below meth c s₁ B hml hv
  obtain ⟨rfl, hM, hP⟩ := hv
  have hx := B.exec
  have hb := B.bytes
  have hr := B.returns
  have hts := atoms_spec (ws := wsL_sourceChar) B.pre
  have hown : s.vm.findClass RL = some m.cls := findClass_of_methodNamed B.named
  have hlocks := B.notSynchronized
  have htab := vx_table (x := yL_sourceChar) B (hts (.codeWith yL_sourceChar cL_sourceChar 5 (some .int) [(0, 10, 13, 19)]) (List.mem_cons_self))
  have hS : va_S (fun q => G.1 ≤ q) s.heap s.heap [] := va_S.rf
  have hl := lv_entry ([.ref (p0), .int (p1), .int (p2), .ref (p3)]) (n := 5) (Nat.le_of_ble_eq_true rfl)
  rw [lg_entry_eq]
  generalize (lg_sl ([.ref (p0), .int (p1), .int (p2), .ref (p3)]) ++ List.replicate (5 - (lg_sl ([.ref (p0), .int (p1), .int (p2), .ref (p3)])).length) Slot.unset).toArray = ls at hl ⊢
  have hl : lv_has ls 5 [(0, .ref (p0)), (1, .int (p1)), (2, .int (p2)), (3, .ref (p3))] := hl
  refine lv_aload_n hx hb dL_sourceChar_0 rfl (lv_at hl 3 rfl) ?_
  refine lv_iconst (v := 0) hx hb dL_sourceChar_1 (by decide) ?_
  refine lv_aload_n hx hb dL_sourceChar_2 rfl (lv_at hl 0 rfl) ?_
  refine lv_iload_n hx hb dL_sourceChar_3 rfl (lv_at hl 1 rfl) ?_
  refine lv_iload_n hx hb dL_sourceChar_4 rfl (lv_at hl 2 rfl) ?_
  obtain ⟨hk1, hd⟩ := m_g_e hd
  obtain ⟨o2, w3, hc4, hx6, hd⟩ := m_h_e hd
  refine m_callhi (k := 46) (n := 6332) (vx_runV (As := [.int (p1), .int (p2)]) (rest := [.int (0), .ref (p3)]) ⟨hx, hb, hml, hown, hts⟩ (c_X6_sourceChar l hst G w w3 p0 p1 p2 o2 hc4) (cwV 2 hts gL_sourceChar_X6_sourceChar rfl rfl rfl (by decide +kernel) ⟨(Nat.le_of_ble_eq_true rfl), (Nat.le_of_ble_eq_true rfl)⟩) (m_preV (C := RX6) (T := TX6) (N := 8) hM hP hS rfl (by decide) hk1) rfl rfl hl.1 rfl (lv_room (Nat.le_of_ble_eq_true rfl)) dL_sourceChar_5 ⟨(Nat.le_of_ble_eq_true rfl), (Nat.le_of_ble_eq_true rfl)⟩) hS ⟨(Nat.le_of_ble_eq_true rfl), (Nat.le_of_ble_eq_true rfl)⟩ (fun E hoE hEm ce q9 n9 H locs hn9 hP hS hcell hcv hcl => ?_) (fun r5 ho7 H locs hP hS => ?_)
  · have hd := hx6 E hoE
    by_cases g9 : E = "java/lang/IndexOutOfBoundsException"
    · subst g9
      have hd := m_i_t rfl hd
      refine m_catch (own := RL) hown hM hEm [] ⟨0, 10, 13, 19⟩ [] htab (fun z hz => nomatch hz) rfl (by decide) (hts (.classLink RL 19 "java/lang/IndexOutOfBoundsException") (by decide +kernel)) hcell hcv hcl ?_
      refine lv_astore (lv' := [(4, .ref (q9)), (0, .ref (p0)), (1, .int (p1)), (2, .int (p2)), (3, .ref (p3))]) hx hb dL_sourceChar_13 hl (by decide) rfl (fun ls hl => ?_)
      refine lv_iconst (v := 1) hx hb dL_sourceChar_15 (by decide) ?_
      obtain ⟨e1, e2⟩ := m_s_e hd
      refine W.widen (k := 46) (n := 6332) (Nat.le_of_ble_eq_true rfl) (Nat.le_of_ble_eq_true rfl) ?_
      exact W.iret hx hb hr (fun t ht hW => ⟨⟨_, m_sX w3 n9, rfl, ⟨e1, n9, by rw [← e2]; exact hn9, by rw [e2]⟩, by show mP _ _ t.heap; rw [ht]; exact hP⟩, hS.F ht⟩) hS.2.2 dL_sourceChar_16
    · have hd := m_i_f g9 hd
      exact nomatch hd
  have hd := hd r5 ho7
  refine lv_i2l (v := r5.toInt64) hx hb dL_sourceChar_8 rfl ?_
  obtain ⟨hg8, hd⟩ := m_g_e hd
  refine m_last hx hb hM.1 hP hS hg8 dL_sourceChar_9 (fun H locs hP hS => ?_)
  obtain ⟨w9, ew, hd⟩ := m_l_e hd
  have hP : mP G w9 H := by rw [ew]; exact hP
  refine lv_goto (tgt := 17) hx hb dL_sourceChar_10 (by decide) ?_
  refine lv_iconst (v := 0) hx hb dL_sourceChar_17 (by decide) ?_
  obtain ⟨e1, e2⟩ := m_s_e hd
  refine W.widen (k := 46) (n := 6332) (Nat.le_of_ble_eq_true rfl) (Nat.le_of_ble_eq_true rfl) ?_
  exact W.iret hx hb hr (fun t ht hW => ⟨⟨_, w9, rfl, ⟨e1, m_nx w', Nat.le_refl _, e2.trans m_sX_self.symm⟩, by show mP _ _ t.heap; rw [ht]; exact hP⟩, hS.F ht⟩) hS.2.2 dL_sourceChar_18


noncomputable def e_L_grant (w : mW) (p0 : Nat) (p1 : Int32) (p2 : Int32) (p3 : Int32) (p4 : Nat) : Option (Int32 × mW) := m_g (m_kd w p0 = 10) <| m_hw (e_X6_grant w p0 p1 p2 p3) (fun E w3 => if E = "java/lang/IndexOutOfBoundsException" then some (1, w3) else (if E = "java/lang/IllegalArgumentException" then some (2, w3) else none)) fun r5 w3 => m_g (m_kd w3 p4 = 25 ∧ ¬ ((0 : Int32) < 0 ∨ m_ln w3 p4 ≤ (0 : Int32).toNatClampNeg)) <| m_l (m_sL w3 p4 ((0 : Int32).toNatClampNeg) r5.toInt64) fun w9 => some (0, w9)
set_option maxHeartbeats 1000000 in
set_option maxRecDepth 100000 in
theorem c_L_grant (l : Launch) (hst : l.stackTraces = false) (G : m_G) (w w' : mW) (p0 : Nat) (p1 : Int32) (p2 : Int32) (p3 : Int32) (p4 : Nat) (r : Int32) (hd : e_L_grant w p0 p1 p2 p3 p4 = some (r, w')) : Met l yL_grant wsL_grant ({ frames := 10, cells := 3, slots := 18, locals := 186 } : Room) (m_Pc G w [.ref (p0), .int (p1), .int (p2), .int (p3), .ref (p4)]) (m_Qn G r w') 3 18 (fun q => G.1 ≤ q) := by
  refine va_MetW (cc := cL_grant) (maxL := 6) (ret := (some .int)) (hh := [(0, 12, 15, 19), (0, 12, 19, 21)]) (by decide +kernel) rfl ?_
  intro p e s m args below meth c s₁ B hml hv
  obtain ⟨rfl, hM, hP⟩ := hv
  have hx := B.exec
  have hb := B.bytes
  have hr := B.returns
  have hts := atoms_spec (ws := wsL_grant) B.pre
  have hown : s.vm.findClass RL = some m.cls := findClass_of_methodNamed B.named
  have hlocks := B.notSynchronized
  have htab := vx_table (x := yL_grant) B (hts (.codeWith yL_grant cL_grant 6 (some .int) [(0, 12, 15, 19), (0, 12, 19, 21)]) (List.mem_cons_self))
  have hS : va_S (fun q => G.1 ≤ q) s.heap s.heap [] := va_S.rf
  have hl := lv_entry ([.ref (p0), .int (p1), .int (p2), .int (p3), .ref (p4)]) (n := 6) (Nat.le_of_ble_eq_true rfl)
  rw [lg_entry_eq]
  generalize (lg_sl ([.ref (p0), .int (p1), .int (p2), .int (p3), .ref (p4)]) ++ List.replicate (6 - (lg_sl ([.ref (p0), .int (p1), .int (p2), .int (p3), .ref (p4)])).length) Slot.unset).toArray = ls at hl ⊢
  have hl : lv_has ls 6 [(0, .ref (p0)), (1, .int (p1)), (2, .int (p2)), (3, .int (p3)), (4, .ref (p4))] := hl
  refine lv_aload hx hb dL_grant_0 (lv_at hl 4 rfl) ?_
  refine lv_iconst (v := 0) hx hb dL_grant_2 (by decide) ?_
  refine lv_aload_n hx hb dL_grant_3 rfl (lv_at hl 0 rfl) ?_
  refine lv_iload_n hx hb dL_grant_4 rfl (lv_at hl 1 rfl) ?_
  refine lv_iload_n hx hb dL_grant_5 rfl (lv_at hl 2 rfl) ?_
  refine lv_iload_n hx hb dL_grant_6 rfl (lv_at hl 3 rfl) ?_
  obtain ⟨hk1, hd⟩ := m_g_e hd
  obtain ⟨o2, w3, hc4, hx6, hd⟩ := m_h_e hd
  refine m_callhi (k := 3) (n := 18) (vx_runV (As := [.int (p1), .int (p2), .int (p3)]) (rest := [.int (0), .ref (p4)]) ⟨hx, hb, hml, hown, hts⟩ (c_X6_grant l hst G w w3 p0 p1 p2 p3 o2 hc4) (cwV 3 hts gL_grant_X6_grant rfl rfl rfl (by decide +kernel) ⟨(Nat.le_of_ble_eq_true rfl), (Nat.le_of_ble_eq_true rfl)⟩) (m_preV (C := RX6) (T := TX6) (N := 8) hM hP hS rfl (by decide) hk1) rfl rfl hl.1 rfl (lv_room (Nat.le_of_ble_eq_true rfl)) dL_grant_7 ⟨(Nat.le_of_ble_eq_true rfl), (Nat.le_of_ble_eq_true rfl)⟩) hS ⟨(Nat.le_of_ble_eq_true rfl), (Nat.le_of_ble_eq_true rfl)⟩ (fun E hoE hEm ce q9 n9 H locs hn9 hP hS hcell hcv hcl => ?_) (fun r5 ho7 H locs hP hS => ?_)
  · have hd := hx6 E hoE
    by_cases g9 : E = "java/lang/IndexOutOfBoundsException"
    · subst g9
      have hd := m_i_t rfl hd
      refine m_catch (own := RL) hown hM hEm [] ⟨0, 12, 15, 19⟩ [⟨0, 12, 19, 21⟩] htab (fun z hz => nomatch hz) rfl (by decide) (hts (.classLink RL 19 "java/lang/IndexOutOfBoundsException") (by decide +kernel)) hcell hcv hcl ?_
      refine lv_astore (lv' := [(5, .ref (q9)), (0, .ref (p0)), (1, .int (p1)), (2, .int (p2)), (3, .int (p3)), (4, .ref (p4))]) hx hb dL_grant_15 hl (by decide) rfl (fun ls hl => ?_)
      refine lv_iconst (v := 1) hx hb dL_grant_17 (by decide) ?_
      obtain ⟨e1, e2⟩ := m_s_e hd
      refine W.widen (k := 3) (n := 18) (Nat.le_of_ble_eq_true rfl) (Nat.le_of_ble_eq_true rfl) ?_
      exact W.iret hx hb hr (fun t ht hW => ⟨⟨_, m_sX w3 n9, rfl, ⟨e1, n9, by rw [← e2]; exact hn9, by rw [e2]⟩, by show mP _ _ t.heap; rw [ht]; exact hP⟩, hS.F ht⟩) hS.2.2 dL_grant_18
    · have hd := m_i_f g9 hd
      by_cases g9 : E = "java/lang/IllegalArgumentException"
      · subst g9
        have hd := m_i_t rfl hd
        refine m_catch (own := RL) hown hM hEm [⟨0, 12, 15, 19⟩] ⟨0, 12, 19, 21⟩ [] htab (fun z hz => by
          simp only [List.mem_cons, List.mem_nil_iff, or_false] at hz
          rcases hz with rfl
          · exact ⟨by decide, "java/lang/IndexOutOfBoundsException", by decide, (hts (.classLink RL 19 "java/lang/IndexOutOfBoundsException") (by decide +kernel)), by decide⟩) rfl (by decide) (hts (.classLink RL 21 "java/lang/IllegalArgumentException") (by decide +kernel)) hcell hcv hcl ?_
        refine lv_astore (lv' := [(5, .ref (q9)), (0, .ref (p0)), (1, .int (p1)), (2, .int (p2)), (3, .int (p3)), (4, .ref (p4))]) hx hb dL_grant_19 hl (by decide) rfl (fun ls hl => ?_)
        refine lv_iconst (v := 2) hx hb dL_grant_21 (by decide) ?_
        obtain ⟨e1, e2⟩ := m_s_e hd
        refine W.widen (k := 3) (n := 18) (Nat.le_of_ble_eq_true rfl) (Nat.le_of_ble_eq_true rfl) ?_
        exact W.iret hx hb hr (fun t ht hW => ⟨⟨_, m_sX w3 n9, rfl, ⟨e1, n9, by rw [← e2]; exact hn9, by rw [e2]⟩, by show mP _ _ t.heap; rw [ht]; exact hP⟩, hS.F ht⟩) hS.2.2 dL_grant_22
      · have hd := m_i_f g9 hd
        exact nomatch hd
  have hd := hd r5 ho7
  refine lv_i2l (v := r5.toInt64) hx hb dL_grant_10 rfl ?_
  obtain ⟨hg8, hd⟩ := m_g_e hd
  refine m_last hx hb hM.1 hP hS hg8 dL_grant_11 (fun H locs hP hS => ?_)
  obtain ⟨w9, ew, hd⟩ := m_l_e hd
  have hP : mP G w9 H := by rw [ew]; exact hP
  refine lv_goto (tgt := 23) hx hb dL_grant_12 (by decide) ?_
  refine lv_iconst (v := 0) hx hb dL_grant_23 (by decide) ?_
  obtain ⟨e1, e2⟩ := m_s_e hd
  refine W.widen (k := 3) (n := 18) (Nat.le_of_ble_eq_true rfl) (Nat.le_of_ble_eq_true rfl) ?_
  exact W.iret hx hb hr (fun t ht hW => ⟨⟨_, w9, rfl, ⟨e1, m_nx w', Nat.le_refl _, e2.trans m_sX_self.symm⟩, by show mP _ _ t.heap; rw [ht]; exact hP⟩, hS.F ht⟩) hS.2.2 dL_grant_24


noncomputable def e_L_right (w : mW) (p0 : Nat) (p1 : Int32) (p2 : Int32) (p3 : Nat) : Option (Int32 × mW) := m_g (m_kd w p0 = 10) <| m_hw (e_X6_right w p0 p1 p2) (fun E w3 => if E = "java/lang/IndexOutOfBoundsException" then some (1, w3) else none) fun r5 w3 => m_g (m_kd w3 p3 = 25 ∧ ¬ ((0 : Int32) < 0 ∨ m_ln w3 p3 ≤ (0 : Int32).toNatClampNeg)) <| m_l (m_sL w3 p3 ((0 : Int32).toNatClampNeg) r5.toInt64) fun w9 => some (0, w9)
set_option maxHeartbeats 1000000 in
set_option maxRecDepth 100000 in
theorem c_L_right (l : Launch) (hst : l.stackTraces = false) (G : m_G) (w w' : mW) (p0 : Nat) (p1 : Int32) (p2 : Int32) (p3 : Nat) (r : Int32) (hd : e_L_right w p0 p1 p2 p3 = some (r, w')) : Met l yL_right wsL_right ({ frames := 10, cells := 2, slots := 12, locals := 183 } : Room) (m_Pc G w [.ref (p0), .int (p1), .int (p2), .ref (p3)]) (m_Qn G r w') 2 12 (fun q => G.1 ≤ q) := by
  refine va_MetW (cc := cL_right) (maxL := 5) (ret := (some .int)) (hh := [(0, 10, 13, 19)]) (by decide +kernel) rfl ?_
  intro p e s m args below meth c s₁ B hml hv
  obtain ⟨rfl, hM, hP⟩ := hv
  have hx := B.exec
  have hb := B.bytes
  have hr := B.returns
  have hts := atoms_spec (ws := wsL_right) B.pre
  have hown : s.vm.findClass RL = some m.cls := findClass_of_methodNamed B.named
  have hlocks := B.notSynchronized
  have htab := vx_table (x := yL_right) B (hts (.codeWith yL_right cL_right 5 (some .int) [(0, 10, 13, 19)]) (List.mem_cons_self))
  have hS : va_S (fun q => G.1 ≤ q) s.heap s.heap [] := va_S.rf
  have hl := lv_entry ([.ref (p0), .int (p1), .int (p2), .ref (p3)]) (n := 5) (Nat.le_of_ble_eq_true rfl)
  rw [lg_entry_eq]
  generalize (lg_sl ([.ref (p0), .int (p1), .int (p2), .ref (p3)]) ++ List.replicate (5 - (lg_sl ([.ref (p0), .int (p1), .int (p2), .ref (p3)])).length) Slot.unset).toArray = ls at hl ⊢
  have hl : lv_has ls 5 [(0, .ref (p0)), (1, .int (p1)), (2, .int (p2)), (3, .ref (p3))] := hl
  refine lv_aload_n hx hb dL_right_0 rfl (lv_at hl 3 rfl) ?_
  refine lv_iconst (v := 0) hx hb dL_right_1 (by decide) ?_
  refine lv_aload_n hx hb dL_right_2 rfl (lv_at hl 0 rfl) ?_
  refine lv_iload_n hx hb dL_right_3 rfl (lv_at hl 1 rfl) ?_
  refine lv_iload_n hx hb dL_right_4 rfl (lv_at hl 2 rfl) ?_
  obtain ⟨hk1, hd⟩ := m_g_e hd
  obtain ⟨o2, w3, hc4, hx6, hd⟩ := m_h_e hd
  refine m_callhi (k := 2) (n := 12) (vx_runV (As := [.int (p1), .int (p2)]) (rest := [.int (0), .ref (p3)]) ⟨hx, hb, hml, hown, hts⟩ (c_X6_right l hst G w w3 p0 p1 p2 o2 hc4) (cwV 2 hts gL_right_X6_right rfl rfl rfl (by decide +kernel) ⟨(Nat.le_of_ble_eq_true rfl), (Nat.le_of_ble_eq_true rfl)⟩) (m_preV (C := RX6) (T := TX6) (N := 8) hM hP hS rfl (by decide) hk1) rfl rfl hl.1 rfl (lv_room (Nat.le_of_ble_eq_true rfl)) dL_right_5 ⟨(Nat.le_of_ble_eq_true rfl), (Nat.le_of_ble_eq_true rfl)⟩) hS ⟨(Nat.le_of_ble_eq_true rfl), (Nat.le_of_ble_eq_true rfl)⟩ (fun E hoE hEm ce q9 n9 H locs hn9 hP hS hcell hcv hcl => ?_) (fun r5 ho7 H locs hP hS => ?_)
  · have hd := hx6 E hoE
    by_cases g9 : E = "java/lang/IndexOutOfBoundsException"
    · subst g9
      have hd := m_i_t rfl hd
      refine m_catch (own := RL) hown hM hEm [] ⟨0, 10, 13, 19⟩ [] htab (fun z hz => nomatch hz) rfl (by decide) (hts (.classLink RL 19 "java/lang/IndexOutOfBoundsException") (by decide +kernel)) hcell hcv hcl ?_
      refine lv_astore (lv' := [(4, .ref (q9)), (0, .ref (p0)), (1, .int (p1)), (2, .int (p2)), (3, .ref (p3))]) hx hb dL_right_13 hl (by decide) rfl (fun ls hl => ?_)
      refine lv_iconst (v := 1) hx hb dL_right_15 (by decide) ?_
      obtain ⟨e1, e2⟩ := m_s_e hd
      refine W.widen (k := 2) (n := 12) (Nat.le_of_ble_eq_true rfl) (Nat.le_of_ble_eq_true rfl) ?_
      exact W.iret hx hb hr (fun t ht hW => ⟨⟨_, m_sX w3 n9, rfl, ⟨e1, n9, by rw [← e2]; exact hn9, by rw [e2]⟩, by show mP _ _ t.heap; rw [ht]; exact hP⟩, hS.F ht⟩) hS.2.2 dL_right_16
    · have hd := m_i_f g9 hd
      exact nomatch hd
  have hd := hd r5 ho7
  refine lv_i2l (v := r5.toInt64) hx hb dL_right_8 rfl ?_
  obtain ⟨hg8, hd⟩ := m_g_e hd
  refine m_last hx hb hM.1 hP hS hg8 dL_right_9 (fun H locs hP hS => ?_)
  obtain ⟨w9, ew, hd⟩ := m_l_e hd
  have hP : mP G w9 H := by rw [ew]; exact hP
  refine lv_goto (tgt := 17) hx hb dL_right_10 (by decide) ?_
  refine lv_iconst (v := 0) hx hb dL_right_17 (by decide) ?_
  obtain ⟨e1, e2⟩ := m_s_e hd
  refine W.widen (k := 2) (n := 12) (Nat.le_of_ble_eq_true rfl) (Nat.le_of_ble_eq_true rfl) ?_
  exact W.iret hx hb hr (fun t ht hW => ⟨⟨_, w9, rfl, ⟨e1, m_nx w', Nat.le_refl _, e2.trans m_sX_self.symm⟩, by show mP _ _ t.heap; rw [ht]; exact hP⟩, hS.F ht⟩) hS.2.2 dL_right_18


noncomputable def e_L_run_16 (t0 : Nat × Nat × Nat × Nat) (w : mW) (s0 : Int64) (s1 : Int32) (s2 : Nat) : Option (Int32 × mW) := m_g (m_kd w s2 = 25 ∧ ¬ (s1 < 0 ∨ m_ln w s2 ≤ s1.toNatClampNeg)) <| m_l (m_sL w s2 (s1.toNatClampNeg) s0) fun w110 => some (0, w110)
noncomputable def e_L_run (t0 : Nat × Nat × Nat × Nat) (w : mW) (p0 : Nat) (p1 : Int32) (p2 : Int32) (p3 : Nat) : Option (Int32 × mW) := m_g (m_kd w p0 = 10) <| m_hw (e_X6_run t0 w p0 p1 p2) (fun E w3 => if E = "java/lang/IndexOutOfBoundsException" then some (1, w3) else (if E = "java/lang/IllegalStateException" then some (2, w3) else none)) fun r5 w3 => if r5 = (0 : Int32) then (e_L_run_16 t0 w3 0 0 p3) else (e_L_run_16 t0 w3 1 0 p3)
set_option maxHeartbeats 1000000 in
set_option maxRecDepth 100000 in
theorem c_L_run (l : Launch) (hst : l.stackTraces = false) (G : m_G) (w w' : mW) (p0 : Nat) (p1 : Int32) (p2 : Int32) (p3 : Nat) (r : Int32) (hd : e_L_run G.2.2.2 w p0 p1 p2 p3 = some (r, w')) : Met l yL_run wsL_run ({ frames := 10, cells := 7, slots := 1233, locals := 258 } : Room) (m_Pc G w [.ref (p0), .int (p1), .int (p2), .ref (p3)]) (m_Qn G r w') 7 1233 (fun q => G.1 ≤ q) := by
  refine va_MetW (cc := cL_run) (maxL := 5) (ret := (some .int)) (hh := [(0, 17, 20, 19), (0, 17, 24, 13)]) (by decide +kernel) rfl ?_
  intro p e s m args below meth c s₁ B hml hv
  obtain ⟨rfl, hM, hP⟩ := hv
  have hx := B.exec
  have hb := B.bytes
  have hr := B.returns
  have hts := atoms_spec (ws := wsL_run) B.pre
  have hown : s.vm.findClass RL = some m.cls := findClass_of_methodNamed B.named
  have hlocks := B.notSynchronized
  have htab := vx_table (x := yL_run) B (hts (.codeWith yL_run cL_run 5 (some .int) [(0, 17, 20, 19), (0, 17, 24, 13)]) (List.mem_cons_self))
  have hS : va_S (fun q => G.1 ≤ q) s.heap s.heap [] := va_S.rf
  have J16 : ∀ (w : mW) (s0 : Int64) (s1 : Int32) (s2 : Nat) (H : Heap) (locs : List Loc) (ls : Array Slot), e_L_run_16 G.2.2.2 w s0 s1 s2 = some (r, w') → mP G w H → va_S (fun q => G.1 ≤ q) s.heap H locs → lv_has ls 5 [] → W p l e ({ frames := 10, cells := 7, slots := 1233, locals := 258 } : Room) s m ([.ref (p0), .int (p1), .int (p2), .ref (p3)] : List Value).toArray below meth c H locs 7 1233 (MQ below (m_Qn G r w') ([.ref (p0), .int (p1), .int (p2), .ref (p3)] : List Value).toArray s 7 1233 (fun q => G.1 ≤ q)) (F0 m 16 ls [.long (s0), .int (s1), .ref (s2)]) := by
    intro w s0 s1 s2 H locs ls hd hP hS hl
    obtain ⟨hg109, hd⟩ := m_g_e hd
    refine m_last hx hb hM.1 hP hS hg109 dL_run_16 (fun H locs hP hS => ?_)
    obtain ⟨w110, ew, hd⟩ := m_l_e hd
    have hP : mP G w110 H := by rw [ew]; exact hP
    refine lv_goto (tgt := 28) hx hb dL_run_17 (by decide) ?_
    refine lv_iconst (v := 0) hx hb dL_run_28 (by decide) ?_
    obtain ⟨e1, e2⟩ := m_s_e hd
    refine W.widen (k := 7) (n := 1233) (Nat.le_of_ble_eq_true rfl) (Nat.le_of_ble_eq_true rfl) ?_
    exact W.iret hx hb hr (fun t ht hW => ⟨⟨_, w110, rfl, ⟨e1, m_nx w', Nat.le_refl _, e2.trans m_sX_self.symm⟩, by show mP _ _ t.heap; rw [ht]; exact hP⟩, hS.F ht⟩) hS.2.2 dL_run_29
  have hl := lv_entry ([.ref (p0), .int (p1), .int (p2), .ref (p3)]) (n := 5) (Nat.le_of_ble_eq_true rfl)
  rw [lg_entry_eq]
  generalize (lg_sl ([.ref (p0), .int (p1), .int (p2), .ref (p3)]) ++ List.replicate (5 - (lg_sl ([.ref (p0), .int (p1), .int (p2), .ref (p3)])).length) Slot.unset).toArray = ls at hl ⊢
  have hl : lv_has ls 5 [(0, .ref (p0)), (1, .int (p1)), (2, .int (p2)), (3, .ref (p3))] := hl
  refine lv_aload_n hx hb dL_run_0 rfl (lv_at hl 3 rfl) ?_
  refine lv_iconst (v := 0) hx hb dL_run_1 (by decide) ?_
  refine lv_aload_n hx hb dL_run_2 rfl (lv_at hl 0 rfl) ?_
  refine lv_iload_n hx hb dL_run_3 rfl (lv_at hl 1 rfl) ?_
  refine lv_iload_n hx hb dL_run_4 rfl (lv_at hl 2 rfl) ?_
  obtain ⟨hk1, hd⟩ := m_g_e hd
  obtain ⟨o2, w3, hc4, hx6, hd⟩ := m_h_e hd
  refine m_callhi (k := 7) (n := 1233) (vx_runV (As := [.int (p1), .int (p2)]) (rest := [.int (0), .ref (p3)]) ⟨hx, hb, hml, hown, hts⟩ (c_X6_run l hst G w w3 p0 p1 p2 o2 hc4) (cwV 2 hts gL_run_X6_run rfl rfl rfl (by decide +kernel) ⟨(Nat.le_of_ble_eq_true rfl), (Nat.le_of_ble_eq_true rfl)⟩) (m_preV (C := RX6) (T := TX6) (N := 8) hM hP hS rfl (by decide) hk1) rfl rfl hl.1 rfl (lv_room (Nat.le_of_ble_eq_true rfl)) dL_run_5 ⟨(Nat.le_of_ble_eq_true rfl), (Nat.le_of_ble_eq_true rfl)⟩) hS ⟨(Nat.le_of_ble_eq_true rfl), (Nat.le_of_ble_eq_true rfl)⟩ (fun E hoE hEm ce q9 n9 H locs hn9 hP hS hcell hcv hcl => ?_) (fun r5 ho7 H locs hP hS => ?_)
  · have hd := hx6 E hoE
    by_cases g9 : E = "java/lang/IndexOutOfBoundsException"
    · subst g9
      have hd := m_i_t rfl hd
      refine m_catch (own := RL) hown hM hEm [] ⟨0, 17, 20, 19⟩ [⟨0, 17, 24, 13⟩] htab (fun z hz => nomatch hz) rfl (by decide) (hts (.classLink RL 19 "java/lang/IndexOutOfBoundsException") (by decide +kernel)) hcell hcv hcl ?_
      refine lv_astore (lv' := [(4, .ref (q9)), (0, .ref (p0)), (1, .int (p1)), (2, .int (p2)), (3, .ref (p3))]) hx hb dL_run_20 hl (by decide) rfl (fun ls hl => ?_)
      refine lv_iconst (v := 1) hx hb dL_run_22 (by decide) ?_
      obtain ⟨e1, e2⟩ := m_s_e hd
      refine W.widen (k := 7) (n := 1233) (Nat.le_of_ble_eq_true rfl) (Nat.le_of_ble_eq_true rfl) ?_
      exact W.iret hx hb hr (fun t ht hW => ⟨⟨_, m_sX w3 n9, rfl, ⟨e1, n9, by rw [← e2]; exact hn9, by rw [e2]⟩, by show mP _ _ t.heap; rw [ht]; exact hP⟩, hS.F ht⟩) hS.2.2 dL_run_23
    · have hd := m_i_f g9 hd
      by_cases g9 : E = "java/lang/IllegalStateException"
      · subst g9
        have hd := m_i_t rfl hd
        refine m_catch (own := RL) hown hM hEm [⟨0, 17, 20, 19⟩] ⟨0, 17, 24, 13⟩ [] htab (fun z hz => by
          simp only [List.mem_cons, List.mem_nil_iff, or_false] at hz
          rcases hz with rfl
          · exact ⟨by decide, "java/lang/IndexOutOfBoundsException", by decide, (hts (.classLink RL 19 "java/lang/IndexOutOfBoundsException") (by decide +kernel)), by decide⟩) rfl (by decide) (hts (.classLink RL 13 "java/lang/IllegalStateException") (by decide +kernel)) hcell hcv hcl ?_
        refine lv_astore (lv' := [(4, .ref (q9)), (0, .ref (p0)), (1, .int (p1)), (2, .int (p2)), (3, .ref (p3))]) hx hb dL_run_24 hl (by decide) rfl (fun ls hl => ?_)
        refine lv_iconst (v := 2) hx hb dL_run_26 (by decide) ?_
        obtain ⟨e1, e2⟩ := m_s_e hd
        refine W.widen (k := 7) (n := 1233) (Nat.le_of_ble_eq_true rfl) (Nat.le_of_ble_eq_true rfl) ?_
        exact W.iret hx hb hr (fun t ht hW => ⟨⟨_, m_sX w3 n9, rfl, ⟨e1, n9, by rw [← e2]; exact hn9, by rw [e2]⟩, by show mP _ _ t.heap; rw [ht]; exact hP⟩, hS.F ht⟩) hS.2.2 dL_run_27
      · have hd := m_i_f g9 hd
        exact nomatch hd
  have hd := hd r5 ho7
  refine lv_if_eq (tgt := 15) hx hb dL_run_8 (by decide) (fun c8 => ?_) (fun c8 => ?_)
  · have hd := m_i_t c8 hd
    refine lv_lconst (v := 0) hx hb dL_run_15 (by decide) ?_
    refine W.widen (k := 7) (n := 1233) (Nat.le_of_ble_eq_true rfl) (Nat.le_of_ble_eq_true rfl) ?_
    exact J16 w3 0 0 p3 _ _ _ hd hP hS (lv_sub hl [] rfl)
  · have hd := m_i_f c8 hd
    refine lv_lconst (v := 1) hx hb dL_run_11 (by decide) ?_
    refine lv_goto (tgt := 16) hx hb dL_run_12 (by decide) ?_
    refine W.widen (k := 7) (n := 1233) (Nat.le_of_ble_eq_true rfl) (Nat.le_of_ble_eq_true rfl) ?_
    exact J16 w3 1 0 p3 _ _ _ hd hP hS (lv_sub hl [] rfl)


noncomputable def e_L_refresh (t0 : Nat × Nat × Nat × Nat) (w : mW) (p0 : Nat) (p1 : Int32) (p2 : Nat) : Option (Int32 × mW) := m_g (m_kd w p0 = 10) <| m_hw (e_X6_refresh t0 w p0 p1) (fun E w3 => if E = "java/lang/IndexOutOfBoundsException" then some (1, w3) else (if E = "java/lang/IllegalStateException" then some (2, w3) else none)) fun r5 w3 => m_g (m_kd w3 p2 = 25 ∧ ¬ ((0 : Int32) < 0 ∨ m_ln w3 p2 ≤ (0 : Int32).toNatClampNeg)) <| m_l (m_sL w3 p2 ((0 : Int32).toNatClampNeg) r5.toInt64) fun w9 => some (0, w9)
set_option maxHeartbeats 1000000 in
set_option maxRecDepth 100000 in
theorem c_L_refresh (l : Launch) (hst : l.stackTraces = false) (G : m_G) (w w' : mW) (p0 : Nat) (p1 : Int32) (p2 : Nat) (r : Int32) (K : Nat) (hK : ∀ r w1, e_X6_refresh G.2.2.2 w p0 p1 = some (.inl r, w1) → r.toInt ≤ K) (hd : e_L_refresh G.2.2.2 w p0 p1 p2 = some (r, w')) : Met l yL_refresh wsL_refresh ({ frames := 10, cells := (2 + 4 * K), slots := (12 + 1215 * K), locals := 259 } : Room) (m_Pc G w [.ref (p0), .int (p1), .ref (p2)]) (m_Qn G r w') (2 + 4 * K) (12 + 1215 * K) (fun q => G.1 ≤ q) := by
  refine va_MetW (cc := cL_refresh) (maxL := 4) (ret := (some .int)) (hh := [(0, 9, 12, 19), (0, 9, 15, 13)]) (by decide +kernel) rfl ?_
  intro p e s m args below meth c s₁ B hml hv
  obtain ⟨rfl, hM, hP⟩ := hv
  have hx := B.exec
  have hb := B.bytes
  have hr := B.returns
  have hts := atoms_spec (ws := wsL_refresh) B.pre
  have hown : s.vm.findClass RL = some m.cls := findClass_of_methodNamed B.named
  have hlocks := B.notSynchronized
  have htab := vx_table (x := yL_refresh) B (hts (.codeWith yL_refresh cL_refresh 4 (some .int) [(0, 9, 12, 19), (0, 9, 15, 13)]) (List.mem_cons_self))
  have hS : va_S (fun q => G.1 ≤ q) s.heap s.heap [] := va_S.rf
  have hl := lv_entry ([.ref (p0), .int (p1), .ref (p2)]) (n := 4) (Nat.le_of_ble_eq_true rfl)
  rw [lg_entry_eq]
  generalize (lg_sl ([.ref (p0), .int (p1), .ref (p2)]) ++ List.replicate (4 - (lg_sl ([.ref (p0), .int (p1), .ref (p2)])).length) Slot.unset).toArray = ls at hl ⊢
  have hl : lv_has ls 4 [(0, .ref (p0)), (1, .int (p1)), (2, .ref (p2))] := hl
  refine lv_aload_n hx hb dL_refresh_0 rfl (lv_at hl 2 rfl) ?_
  refine lv_iconst (v := 0) hx hb dL_refresh_1 (by decide) ?_
  refine lv_aload_n hx hb dL_refresh_2 rfl (lv_at hl 0 rfl) ?_
  refine lv_iload_n hx hb dL_refresh_3 rfl (lv_at hl 1 rfl) ?_
  obtain ⟨hk1, hd⟩ := m_g_e hd
  obtain ⟨o2, w3, hc4, hx6, hd⟩ := m_h_e hd
  refine m_callhi (k := (2 + 4 * K)) (n := (12 + 1215 * K)) (vx_runV (As := [.int (p1)]) (rest := [.int (0), .ref (p2)]) ⟨hx, hb, hml, hown, hts⟩ (c_X6_refresh l hst G w w3 p0 p1 o2 K (fun r h => hK r w3 (by rw [← h]; exact hc4)) hc4) (cwV 1 hts gL_refresh_X6_refresh rfl rfl rfl (by decide +kernel) ⟨(Nat.le_of_ble_eq_true rfl), (Nat.le_of_ble_eq_true rfl)⟩) (m_preV (C := RX6) (T := TX6) (N := 8) hM hP hS rfl (by decide) hk1) rfl rfl hl.1 rfl (lv_room (Nat.le_of_ble_eq_true rfl)) dL_refresh_4 ⟨(Nat.le_of_eq (Nat.zero_add _)), (Nat.le_of_eq (Nat.zero_add _))⟩) hS ⟨(Nat.le_of_eq (Nat.zero_add _)), (Nat.le_of_eq (Nat.zero_add _))⟩ (fun E hoE hEm ce q9 n9 H locs hn9 hP hS hcell hcv hcl => ?_) (fun r5 ho7 H locs hP hS => ?_)
  · have hd := hx6 E hoE
    by_cases g9 : E = "java/lang/IndexOutOfBoundsException"
    · subst g9
      have hd := m_i_t rfl hd
      refine m_catch (own := RL) hown hM hEm [] ⟨0, 9, 12, 19⟩ [⟨0, 9, 15, 13⟩] htab (fun z hz => nomatch hz) rfl (by decide) (hts (.classLink RL 19 "java/lang/IndexOutOfBoundsException") (by decide +kernel)) hcell hcv hcl ?_
      refine lv_astore_n (lv' := [(3, .ref (q9)), (0, .ref (p0)), (1, .int (p1)), (2, .ref (p2))]) hx hb dL_refresh_12 rfl hl (by decide) rfl (fun ls hl => ?_)
      refine lv_iconst (v := 1) hx hb dL_refresh_13 (by decide) ?_
      obtain ⟨e1, e2⟩ := m_s_e hd
      refine W.widen (k := (2 + 4 * K)) (n := (12 + 1215 * K)) (by omega) (by omega) ?_
      exact W.iret hx hb hr (fun t ht hW => ⟨⟨_, m_sX w3 n9, rfl, ⟨e1, n9, by rw [← e2]; exact hn9, by rw [e2]⟩, by show mP _ _ t.heap; rw [ht]; exact hP⟩, hS.F ht⟩) hS.2.2 dL_refresh_14
    · have hd := m_i_f g9 hd
      by_cases g9 : E = "java/lang/IllegalStateException"
      · subst g9
        have hd := m_i_t rfl hd
        refine m_catch (own := RL) hown hM hEm [⟨0, 9, 12, 19⟩] ⟨0, 9, 15, 13⟩ [] htab (fun z hz => by
          simp only [List.mem_cons, List.mem_nil_iff, or_false] at hz
          rcases hz with rfl
          · exact ⟨by decide, "java/lang/IndexOutOfBoundsException", by decide, (hts (.classLink RL 19 "java/lang/IndexOutOfBoundsException") (by decide +kernel)), by decide⟩) rfl (by decide) (hts (.classLink RL 13 "java/lang/IllegalStateException") (by decide +kernel)) hcell hcv hcl ?_
        refine lv_astore_n (lv' := [(3, .ref (q9)), (0, .ref (p0)), (1, .int (p1)), (2, .ref (p2))]) hx hb dL_refresh_15 rfl hl (by decide) rfl (fun ls hl => ?_)
        refine lv_iconst (v := 2) hx hb dL_refresh_16 (by decide) ?_
        obtain ⟨e1, e2⟩ := m_s_e hd
        refine W.widen (k := (2 + 4 * K)) (n := (12 + 1215 * K)) (by omega) (by omega) ?_
        exact W.iret hx hb hr (fun t ht hW => ⟨⟨_, m_sX w3 n9, rfl, ⟨e1, n9, by rw [← e2]; exact hn9, by rw [e2]⟩, by show mP _ _ t.heap; rw [ht]; exact hP⟩, hS.F ht⟩) hS.2.2 dL_refresh_17
      · have hd := m_i_f g9 hd
        exact nomatch hd
  have hd := hd r5 ho7
  refine lv_i2l (v := r5.toInt64) hx hb dL_refresh_7 rfl ?_
  obtain ⟨hg8, hd⟩ := m_g_e hd
  refine m_last hx hb hM.1 hP hS hg8 dL_refresh_8 (fun H locs hP hS => ?_)
  obtain ⟨w9, ew, hd⟩ := m_l_e hd
  have hP : mP G w9 H := by rw [ew]; exact hP
  refine lv_goto (tgt := 18) hx hb dL_refresh_9 (by decide) ?_
  refine lv_iconst (v := 0) hx hb dL_refresh_18 (by decide) ?_
  obtain ⟨e1, e2⟩ := m_s_e hd
  refine W.widen (k := (2 + 4 * K)) (n := (12 + 1215 * K)) (by omega) (by omega) ?_
  exact W.iret hx hb hr (fun t ht hW => ⟨⟨_, w9, rfl, ⟨e1, m_nx w', Nat.le_refl _, e2.trans m_sX_self.symm⟩, by show mP _ _ t.heap; rw [ht]; exact hP⟩, hS.F ht⟩) hS.2.2 dL_refresh_19


noncomputable def e_L_isSet_15 (w : mW) (s0 : Int64) (s1 : Int32) (s2 : Nat) : Option (Int32 × mW) := m_g (m_kd w s2 = 25 ∧ ¬ (s1 < 0 ∨ m_ln w s2 ≤ s1.toNatClampNeg)) <| m_l (m_sL w s2 (s1.toNatClampNeg) s0) fun w110 => some (0, w110)
noncomputable def e_L_isSet (w : mW) (p0 : Nat) (p1 : Int32) (p2 : Nat) : Option (Int32 × mW) := m_g (m_kd w p0 = 10) <| m_hw (e_X6_isSet w p0 p1) (fun E w3 => if E = "java/lang/IndexOutOfBoundsException" then some (1, w3) else none) fun r5 w3 => if r5 = (0 : Int32) then (e_L_isSet_15 w3 0 0 p2) else (e_L_isSet_15 w3 1 0 p2)
set_option maxHeartbeats 1000000 in
set_option maxRecDepth 100000 in
theorem c_L_isSet (l : Launch) (hst : l.stackTraces = false) (G : m_G) (w w' : mW) (p0 : Nat) (p1 : Int32) (p2 : Nat) (r : Int32) (hd : e_L_isSet w p0 p1 p2 = some (r, w')) : Met l yL_isSet wsL_isSet ({ frames := 10, cells := 1, slots := 6, locals := 181 } : Room) (m_Pc G w [.ref (p0), .int (p1), .ref (p2)]) (m_Qn G r w') 1 6 (fun q => G.1 ≤ q) := by
  refine va_MetW (cc := cL_isSet) (maxL := 4) (ret := (some .int)) (hh := [(0, 16, 19, 19)]) (by decide +kernel) rfl ?_
  intro p e s m args below meth c s₁ B hml hv
  obtain ⟨rfl, hM, hP⟩ := hv
  have hx := B.exec
  have hb := B.bytes
  have hr := B.returns
  have hts := atoms_spec (ws := wsL_isSet) B.pre
  have hown : s.vm.findClass RL = some m.cls := findClass_of_methodNamed B.named
  have hlocks := B.notSynchronized
  have htab := vx_table (x := yL_isSet) B (hts (.codeWith yL_isSet cL_isSet 4 (some .int) [(0, 16, 19, 19)]) (List.mem_cons_self))
  have hS : va_S (fun q => G.1 ≤ q) s.heap s.heap [] := va_S.rf
  have J15 : ∀ (w : mW) (s0 : Int64) (s1 : Int32) (s2 : Nat) (H : Heap) (locs : List Loc) (ls : Array Slot), e_L_isSet_15 w s0 s1 s2 = some (r, w') → mP G w H → va_S (fun q => G.1 ≤ q) s.heap H locs → lv_has ls 4 [] → W p l e ({ frames := 10, cells := 1, slots := 6, locals := 181 } : Room) s m ([.ref (p0), .int (p1), .ref (p2)] : List Value).toArray below meth c H locs 1 6 (MQ below (m_Qn G r w') ([.ref (p0), .int (p1), .ref (p2)] : List Value).toArray s 1 6 (fun q => G.1 ≤ q)) (F0 m 15 ls [.long (s0), .int (s1), .ref (s2)]) := by
    intro w s0 s1 s2 H locs ls hd hP hS hl
    obtain ⟨hg109, hd⟩ := m_g_e hd
    refine m_last hx hb hM.1 hP hS hg109 dL_isSet_15 (fun H locs hP hS => ?_)
    obtain ⟨w110, ew, hd⟩ := m_l_e hd
    have hP : mP G w110 H := by rw [ew]; exact hP
    refine lv_goto (tgt := 22) hx hb dL_isSet_16 (by decide) ?_
    refine lv_iconst (v := 0) hx hb dL_isSet_22 (by decide) ?_
    obtain ⟨e1, e2⟩ := m_s_e hd
    refine W.widen (k := 1) (n := 6) (Nat.le_of_ble_eq_true rfl) (Nat.le_of_ble_eq_true rfl) ?_
    exact W.iret hx hb hr (fun t ht hW => ⟨⟨_, w110, rfl, ⟨e1, m_nx w', Nat.le_refl _, e2.trans m_sX_self.symm⟩, by show mP _ _ t.heap; rw [ht]; exact hP⟩, hS.F ht⟩) hS.2.2 dL_isSet_23
  have hl := lv_entry ([.ref (p0), .int (p1), .ref (p2)]) (n := 4) (Nat.le_of_ble_eq_true rfl)
  rw [lg_entry_eq]
  generalize (lg_sl ([.ref (p0), .int (p1), .ref (p2)]) ++ List.replicate (4 - (lg_sl ([.ref (p0), .int (p1), .ref (p2)])).length) Slot.unset).toArray = ls at hl ⊢
  have hl : lv_has ls 4 [(0, .ref (p0)), (1, .int (p1)), (2, .ref (p2))] := hl
  refine lv_aload_n hx hb dL_isSet_0 rfl (lv_at hl 2 rfl) ?_
  refine lv_iconst (v := 0) hx hb dL_isSet_1 (by decide) ?_
  refine lv_aload_n hx hb dL_isSet_2 rfl (lv_at hl 0 rfl) ?_
  refine lv_iload_n hx hb dL_isSet_3 rfl (lv_at hl 1 rfl) ?_
  obtain ⟨hk1, hd⟩ := m_g_e hd
  obtain ⟨o2, w3, hc4, hx6, hd⟩ := m_h_e hd
  refine m_callhi (k := 1) (n := 6) (vx_runV (As := [.int (p1)]) (rest := [.int (0), .ref (p2)]) ⟨hx, hb, hml, hown, hts⟩ (c_X6_isSet l hst G w w3 p0 p1 o2 hc4) (cwV 1 hts gL_isSet_X6_isSet rfl rfl rfl (by decide +kernel) ⟨(Nat.le_of_ble_eq_true rfl), (Nat.le_of_ble_eq_true rfl)⟩) (m_preV (C := RX6) (T := TX6) (N := 8) hM hP hS rfl (by decide) hk1) rfl rfl hl.1 rfl (lv_room (Nat.le_of_ble_eq_true rfl)) dL_isSet_4 ⟨(Nat.le_of_ble_eq_true rfl), (Nat.le_of_ble_eq_true rfl)⟩) hS ⟨(Nat.le_of_ble_eq_true rfl), (Nat.le_of_ble_eq_true rfl)⟩ (fun E hoE hEm ce q9 n9 H locs hn9 hP hS hcell hcv hcl => ?_) (fun r5 ho7 H locs hP hS => ?_)
  · have hd := hx6 E hoE
    by_cases g9 : E = "java/lang/IndexOutOfBoundsException"
    · subst g9
      have hd := m_i_t rfl hd
      refine m_catch (own := RL) hown hM hEm [] ⟨0, 16, 19, 19⟩ [] htab (fun z hz => nomatch hz) rfl (by decide) (hts (.classLink RL 19 "java/lang/IndexOutOfBoundsException") (by decide +kernel)) hcell hcv hcl ?_
      refine lv_astore_n (lv' := [(3, .ref (q9)), (0, .ref (p0)), (1, .int (p1)), (2, .ref (p2))]) hx hb dL_isSet_19 rfl hl (by decide) rfl (fun ls hl => ?_)
      refine lv_iconst (v := 1) hx hb dL_isSet_20 (by decide) ?_
      obtain ⟨e1, e2⟩ := m_s_e hd
      refine W.widen (k := 1) (n := 6) (Nat.le_of_ble_eq_true rfl) (Nat.le_of_ble_eq_true rfl) ?_
      exact W.iret hx hb hr (fun t ht hW => ⟨⟨_, m_sX w3 n9, rfl, ⟨e1, n9, by rw [← e2]; exact hn9, by rw [e2]⟩, by show mP _ _ t.heap; rw [ht]; exact hP⟩, hS.F ht⟩) hS.2.2 dL_isSet_21
    · have hd := m_i_f g9 hd
      exact nomatch hd
  have hd := hd r5 ho7
  refine lv_if_eq (tgt := 14) hx hb dL_isSet_7 (by decide) (fun c8 => ?_) (fun c8 => ?_)
  · have hd := m_i_t c8 hd
    refine lv_lconst (v := 0) hx hb dL_isSet_14 (by decide) ?_
    refine W.widen (k := 1) (n := 6) (Nat.le_of_ble_eq_true rfl) (Nat.le_of_ble_eq_true rfl) ?_
    exact J15 w3 0 0 p2 _ _ _ hd hP hS (lv_sub hl [] rfl)
  · have hd := m_i_f c8 hd
    refine lv_lconst (v := 1) hx hb dL_isSet_10 (by decide) ?_
    refine lv_goto (tgt := 15) hx hb dL_isSet_11 (by decide) ?_
    refine W.widen (k := 1) (n := 6) (Nat.le_of_ble_eq_true rfl) (Nat.le_of_ble_eq_true rfl) ?_
    exact J15 w3 1 0 p2 _ _ _ hd hP hS (lv_sub hl [] rfl)


noncomputable def e_L_value (w : mW) (p0 : Nat) (p1 : Int32) (p2 : Nat) : Option (Int32 × mW) := m_g (m_kd w p0 = 10) <| m_hw (e_X6_value w p0 p1) (fun E w3 => if E = "java/lang/IndexOutOfBoundsException" then some (1, w3) else (if E = "java/lang/IllegalStateException" then some (2, w3) else none)) fun r5 w3 => m_g (m_kd w3 p2 = 25 ∧ ¬ ((0 : Int32) < 0 ∨ m_ln w3 p2 ≤ (0 : Int32).toNatClampNeg)) <| m_l (m_sL w3 p2 ((0 : Int32).toNatClampNeg) r5.toInt64) fun w9 => some (0, w9)
set_option maxHeartbeats 1000000 in
set_option maxRecDepth 100000 in
theorem c_L_value (l : Launch) (hst : l.stackTraces = false) (G : m_G) (w w' : mW) (p0 : Nat) (p1 : Int32) (p2 : Nat) (r : Int32) (hd : e_L_value w p0 p1 p2 = some (r, w')) : Met l yL_value wsL_value ({ frames := 10, cells := 2, slots := 12, locals := 182 } : Room) (m_Pc G w [.ref (p0), .int (p1), .ref (p2)]) (m_Qn G r w') 2 12 (fun q => G.1 ≤ q) := by
  refine va_MetW (cc := cL_value) (maxL := 4) (ret := (some .int)) (hh := [(0, 9, 12, 19), (0, 9, 15, 13)]) (by decide +kernel) rfl ?_
  intro p e s m args below meth c s₁ B hml hv
  obtain ⟨rfl, hM, hP⟩ := hv
  have hx := B.exec
  have hb := B.bytes
  have hr := B.returns
  have hts := atoms_spec (ws := wsL_value) B.pre
  have hown : s.vm.findClass RL = some m.cls := findClass_of_methodNamed B.named
  have hlocks := B.notSynchronized
  have htab := vx_table (x := yL_value) B (hts (.codeWith yL_value cL_value 4 (some .int) [(0, 9, 12, 19), (0, 9, 15, 13)]) (List.mem_cons_self))
  have hS : va_S (fun q => G.1 ≤ q) s.heap s.heap [] := va_S.rf
  have hl := lv_entry ([.ref (p0), .int (p1), .ref (p2)]) (n := 4) (Nat.le_of_ble_eq_true rfl)
  rw [lg_entry_eq]
  generalize (lg_sl ([.ref (p0), .int (p1), .ref (p2)]) ++ List.replicate (4 - (lg_sl ([.ref (p0), .int (p1), .ref (p2)])).length) Slot.unset).toArray = ls at hl ⊢
  have hl : lv_has ls 4 [(0, .ref (p0)), (1, .int (p1)), (2, .ref (p2))] := hl
  refine lv_aload_n hx hb dL_value_0 rfl (lv_at hl 2 rfl) ?_
  refine lv_iconst (v := 0) hx hb dL_value_1 (by decide) ?_
  refine lv_aload_n hx hb dL_value_2 rfl (lv_at hl 0 rfl) ?_
  refine lv_iload_n hx hb dL_value_3 rfl (lv_at hl 1 rfl) ?_
  obtain ⟨hk1, hd⟩ := m_g_e hd
  obtain ⟨o2, w3, hc4, hx6, hd⟩ := m_h_e hd
  refine m_callhi (k := 2) (n := 12) (vx_runV (As := [.int (p1)]) (rest := [.int (0), .ref (p2)]) ⟨hx, hb, hml, hown, hts⟩ (c_X6_value l hst G w w3 p0 p1 o2 hc4) (cwV 1 hts gL_value_X6_value rfl rfl rfl (by decide +kernel) ⟨(Nat.le_of_ble_eq_true rfl), (Nat.le_of_ble_eq_true rfl)⟩) (m_preV (C := RX6) (T := TX6) (N := 8) hM hP hS rfl (by decide) hk1) rfl rfl hl.1 rfl (lv_room (Nat.le_of_ble_eq_true rfl)) dL_value_4 ⟨(Nat.le_of_ble_eq_true rfl), (Nat.le_of_ble_eq_true rfl)⟩) hS ⟨(Nat.le_of_ble_eq_true rfl), (Nat.le_of_ble_eq_true rfl)⟩ (fun E hoE hEm ce q9 n9 H locs hn9 hP hS hcell hcv hcl => ?_) (fun r5 ho7 H locs hP hS => ?_)
  · have hd := hx6 E hoE
    by_cases g9 : E = "java/lang/IndexOutOfBoundsException"
    · subst g9
      have hd := m_i_t rfl hd
      refine m_catch (own := RL) hown hM hEm [] ⟨0, 9, 12, 19⟩ [⟨0, 9, 15, 13⟩] htab (fun z hz => nomatch hz) rfl (by decide) (hts (.classLink RL 19 "java/lang/IndexOutOfBoundsException") (by decide +kernel)) hcell hcv hcl ?_
      refine lv_astore_n (lv' := [(3, .ref (q9)), (0, .ref (p0)), (1, .int (p1)), (2, .ref (p2))]) hx hb dL_value_12 rfl hl (by decide) rfl (fun ls hl => ?_)
      refine lv_iconst (v := 1) hx hb dL_value_13 (by decide) ?_
      obtain ⟨e1, e2⟩ := m_s_e hd
      refine W.widen (k := 2) (n := 12) (Nat.le_of_ble_eq_true rfl) (Nat.le_of_ble_eq_true rfl) ?_
      exact W.iret hx hb hr (fun t ht hW => ⟨⟨_, m_sX w3 n9, rfl, ⟨e1, n9, by rw [← e2]; exact hn9, by rw [e2]⟩, by show mP _ _ t.heap; rw [ht]; exact hP⟩, hS.F ht⟩) hS.2.2 dL_value_14
    · have hd := m_i_f g9 hd
      by_cases g9 : E = "java/lang/IllegalStateException"
      · subst g9
        have hd := m_i_t rfl hd
        refine m_catch (own := RL) hown hM hEm [⟨0, 9, 12, 19⟩] ⟨0, 9, 15, 13⟩ [] htab (fun z hz => by
          simp only [List.mem_cons, List.mem_nil_iff, or_false] at hz
          rcases hz with rfl
          · exact ⟨by decide, "java/lang/IndexOutOfBoundsException", by decide, (hts (.classLink RL 19 "java/lang/IndexOutOfBoundsException") (by decide +kernel)), by decide⟩) rfl (by decide) (hts (.classLink RL 13 "java/lang/IllegalStateException") (by decide +kernel)) hcell hcv hcl ?_
        refine lv_astore_n (lv' := [(3, .ref (q9)), (0, .ref (p0)), (1, .int (p1)), (2, .ref (p2))]) hx hb dL_value_15 rfl hl (by decide) rfl (fun ls hl => ?_)
        refine lv_iconst (v := 2) hx hb dL_value_16 (by decide) ?_
        obtain ⟨e1, e2⟩ := m_s_e hd
        refine W.widen (k := 2) (n := 12) (Nat.le_of_ble_eq_true rfl) (Nat.le_of_ble_eq_true rfl) ?_
        exact W.iret hx hb hr (fun t ht hW => ⟨⟨_, m_sX w3 n9, rfl, ⟨e1, n9, by rw [← e2]; exact hn9, by rw [e2]⟩, by show mP _ _ t.heap; rw [ht]; exact hP⟩, hS.F ht⟩) hS.2.2 dL_value_17
      · have hd := m_i_f g9 hd
        exact nomatch hd
  have hd := hd r5 ho7
  refine lv_i2l (v := r5.toInt64) hx hb dL_value_7 rfl ?_
  obtain ⟨hg8, hd⟩ := m_g_e hd
  refine m_last hx hb hM.1 hP hS hg8 dL_value_8 (fun H locs hP hS => ?_)
  obtain ⟨w9, ew, hd⟩ := m_l_e hd
  have hP : mP G w9 H := by rw [ew]; exact hP
  refine lv_goto (tgt := 18) hx hb dL_value_9 (by decide) ?_
  refine lv_iconst (v := 0) hx hb dL_value_18 (by decide) ?_
  obtain ⟨e1, e2⟩ := m_s_e hd
  refine W.widen (k := 2) (n := 12) (Nat.le_of_ble_eq_true rfl) (Nat.le_of_ble_eq_true rfl) ?_
  exact W.iret hx hb hr (fun t ht hW => ⟨⟨_, w9, rfl, ⟨e1, m_nx w', Nat.le_refl _, e2.trans m_sX_self.symm⟩, by show mP _ _ t.heap; rw [ht]; exact hP⟩, hS.F ht⟩) hS.2.2 dL_value_19


noncomputable def e_L_stamp (w : mW) (p0 : Nat) (p1 : Int32) (p2 : Nat) : Option (Int32 × mW) := m_g (m_kd w p0 = 10) <| m_hw (e_X6_stamp w p0 p1) (fun E w3 => if E = "java/lang/IndexOutOfBoundsException" then some (1, w3) else none) fun r5 w3 => m_g (m_kd w3 p2 = 25 ∧ ¬ ((0 : Int32) < 0 ∨ m_ln w3 p2 ≤ (0 : Int32).toNatClampNeg)) <| m_l (m_sL w3 p2 ((0 : Int32).toNatClampNeg) r5.toInt64) fun w9 => some (0, w9)
set_option maxHeartbeats 1000000 in
set_option maxRecDepth 100000 in
theorem c_L_stamp (l : Launch) (hst : l.stackTraces = false) (G : m_G) (w w' : mW) (p0 : Nat) (p1 : Int32) (p2 : Nat) (r : Int32) (hd : e_L_stamp w p0 p1 p2 = some (r, w')) : Met l yL_stamp wsL_stamp ({ frames := 10, cells := 1, slots := 6, locals := 181 } : Room) (m_Pc G w [.ref (p0), .int (p1), .ref (p2)]) (m_Qn G r w') 1 6 (fun q => G.1 ≤ q) := by
  refine va_MetW (cc := cL_stamp) (maxL := 4) (ret := (some .int)) (hh := [(0, 9, 12, 19)]) (by decide +kernel) rfl ?_
  intro p e s m args below meth c s₁ B hml hv
  obtain ⟨rfl, hM, hP⟩ := hv
  have hx := B.exec
  have hb := B.bytes
  have hr := B.returns
  have hts := atoms_spec (ws := wsL_stamp) B.pre
  have hown : s.vm.findClass RL = some m.cls := findClass_of_methodNamed B.named
  have hlocks := B.notSynchronized
  have htab := vx_table (x := yL_stamp) B (hts (.codeWith yL_stamp cL_stamp 4 (some .int) [(0, 9, 12, 19)]) (List.mem_cons_self))
  have hS : va_S (fun q => G.1 ≤ q) s.heap s.heap [] := va_S.rf
  have hl := lv_entry ([.ref (p0), .int (p1), .ref (p2)]) (n := 4) (Nat.le_of_ble_eq_true rfl)
  rw [lg_entry_eq]
  generalize (lg_sl ([.ref (p0), .int (p1), .ref (p2)]) ++ List.replicate (4 - (lg_sl ([.ref (p0), .int (p1), .ref (p2)])).length) Slot.unset).toArray = ls at hl ⊢
  have hl : lv_has ls 4 [(0, .ref (p0)), (1, .int (p1)), (2, .ref (p2))] := hl
  refine lv_aload_n hx hb dL_stamp_0 rfl (lv_at hl 2 rfl) ?_
  refine lv_iconst (v := 0) hx hb dL_stamp_1 (by decide) ?_
  refine lv_aload_n hx hb dL_stamp_2 rfl (lv_at hl 0 rfl) ?_
  refine lv_iload_n hx hb dL_stamp_3 rfl (lv_at hl 1 rfl) ?_
  obtain ⟨hk1, hd⟩ := m_g_e hd
  obtain ⟨o2, w3, hc4, hx6, hd⟩ := m_h_e hd
  refine m_callhi (k := 1) (n := 6) (vx_runV (As := [.int (p1)]) (rest := [.int (0), .ref (p2)]) ⟨hx, hb, hml, hown, hts⟩ (c_X6_stamp l hst G w w3 p0 p1 o2 hc4) (cwV 1 hts gL_stamp_X6_stamp rfl rfl rfl (by decide +kernel) ⟨(Nat.le_of_ble_eq_true rfl), (Nat.le_of_ble_eq_true rfl)⟩) (m_preV (C := RX6) (T := TX6) (N := 8) hM hP hS rfl (by decide) hk1) rfl rfl hl.1 rfl (lv_room (Nat.le_of_ble_eq_true rfl)) dL_stamp_4 ⟨(Nat.le_of_ble_eq_true rfl), (Nat.le_of_ble_eq_true rfl)⟩) hS ⟨(Nat.le_of_ble_eq_true rfl), (Nat.le_of_ble_eq_true rfl)⟩ (fun E hoE hEm ce q9 n9 H locs hn9 hP hS hcell hcv hcl => ?_) (fun r5 ho7 H locs hP hS => ?_)
  · have hd := hx6 E hoE
    by_cases g9 : E = "java/lang/IndexOutOfBoundsException"
    · subst g9
      have hd := m_i_t rfl hd
      refine m_catch (own := RL) hown hM hEm [] ⟨0, 9, 12, 19⟩ [] htab (fun z hz => nomatch hz) rfl (by decide) (hts (.classLink RL 19 "java/lang/IndexOutOfBoundsException") (by decide +kernel)) hcell hcv hcl ?_
      refine lv_astore_n (lv' := [(3, .ref (q9)), (0, .ref (p0)), (1, .int (p1)), (2, .ref (p2))]) hx hb dL_stamp_12 rfl hl (by decide) rfl (fun ls hl => ?_)
      refine lv_iconst (v := 1) hx hb dL_stamp_13 (by decide) ?_
      obtain ⟨e1, e2⟩ := m_s_e hd
      refine W.widen (k := 1) (n := 6) (Nat.le_of_ble_eq_true rfl) (Nat.le_of_ble_eq_true rfl) ?_
      exact W.iret hx hb hr (fun t ht hW => ⟨⟨_, m_sX w3 n9, rfl, ⟨e1, n9, by rw [← e2]; exact hn9, by rw [e2]⟩, by show mP _ _ t.heap; rw [ht]; exact hP⟩, hS.F ht⟩) hS.2.2 dL_stamp_14
    · have hd := m_i_f g9 hd
      exact nomatch hd
  have hd := hd r5 ho7
  refine lv_i2l (v := r5.toInt64) hx hb dL_stamp_7 rfl ?_
  obtain ⟨hg8, hd⟩ := m_g_e hd
  refine m_last hx hb hM.1 hP hS hg8 dL_stamp_8 (fun H locs hP hS => ?_)
  obtain ⟨w9, ew, hd⟩ := m_l_e hd
  have hP : mP G w9 H := by rw [ew]; exact hP
  refine lv_goto (tgt := 15) hx hb dL_stamp_9 (by decide) ?_
  refine lv_iconst (v := 0) hx hb dL_stamp_15 (by decide) ?_
  obtain ⟨e1, e2⟩ := m_s_e hd
  refine W.widen (k := 1) (n := 6) (Nat.le_of_ble_eq_true rfl) (Nat.le_of_ble_eq_true rfl) ?_
  exact W.iret hx hb hr (fun t ht hW => ⟨⟨_, w9, rfl, ⟨e1, m_nx w', Nat.le_refl _, e2.trans m_sX_self.symm⟩, by show mP _ _ t.heap; rw [ht]; exact hP⟩, hS.F ht⟩) hS.2.2 dL_stamp_16


noncomputable def e_L_lastRun (w : mW) (p0 : Nat) (p1 : Int32) (p2 : Nat) : Option (Int32 × mW) := m_g (m_kd w p0 = 10) <| m_hw (e_X6_lastRun w p0 p1) (fun E w3 => if E = "java/lang/IndexOutOfBoundsException" then some (1, w3) else none) fun r5 w3 => m_g (m_kd w3 p2 = 25 ∧ ¬ ((0 : Int32) < 0 ∨ m_ln w3 p2 ≤ (0 : Int32).toNatClampNeg)) <| m_l (m_sL w3 p2 ((0 : Int32).toNatClampNeg) r5.toInt64) fun w9 => some (0, w9)
set_option maxHeartbeats 1000000 in
set_option maxRecDepth 100000 in
theorem c_L_lastRun (l : Launch) (hst : l.stackTraces = false) (G : m_G) (w w' : mW) (p0 : Nat) (p1 : Int32) (p2 : Nat) (r : Int32) (hd : e_L_lastRun w p0 p1 p2 = some (r, w')) : Met l yL_lastRun wsL_lastRun ({ frames := 10, cells := 1, slots := 6, locals := 182 } : Room) (m_Pc G w [.ref (p0), .int (p1), .ref (p2)]) (m_Qn G r w') 1 6 (fun q => G.1 ≤ q) := by
  refine va_MetW (cc := cL_lastRun) (maxL := 4) (ret := (some .int)) (hh := [(0, 9, 12, 19)]) (by decide +kernel) rfl ?_
  intro p e s m args below meth c s₁ B hml hv
  obtain ⟨rfl, hM, hP⟩ := hv
  have hx := B.exec
  have hb := B.bytes
  have hr := B.returns
  have hts := atoms_spec (ws := wsL_lastRun) B.pre
  have hown : s.vm.findClass RL = some m.cls := findClass_of_methodNamed B.named
  have hlocks := B.notSynchronized
  have htab := vx_table (x := yL_lastRun) B (hts (.codeWith yL_lastRun cL_lastRun 4 (some .int) [(0, 9, 12, 19)]) (List.mem_cons_self))
  have hS : va_S (fun q => G.1 ≤ q) s.heap s.heap [] := va_S.rf
  have hl := lv_entry ([.ref (p0), .int (p1), .ref (p2)]) (n := 4) (Nat.le_of_ble_eq_true rfl)
  rw [lg_entry_eq]
  generalize (lg_sl ([.ref (p0), .int (p1), .ref (p2)]) ++ List.replicate (4 - (lg_sl ([.ref (p0), .int (p1), .ref (p2)])).length) Slot.unset).toArray = ls at hl ⊢
  have hl : lv_has ls 4 [(0, .ref (p0)), (1, .int (p1)), (2, .ref (p2))] := hl
  refine lv_aload_n hx hb dL_lastRun_0 rfl (lv_at hl 2 rfl) ?_
  refine lv_iconst (v := 0) hx hb dL_lastRun_1 (by decide) ?_
  refine lv_aload_n hx hb dL_lastRun_2 rfl (lv_at hl 0 rfl) ?_
  refine lv_iload_n hx hb dL_lastRun_3 rfl (lv_at hl 1 rfl) ?_
  obtain ⟨hk1, hd⟩ := m_g_e hd
  obtain ⟨o2, w3, hc4, hx6, hd⟩ := m_h_e hd
  refine m_callhi (k := 1) (n := 6) (vx_runV (As := [.int (p1)]) (rest := [.int (0), .ref (p2)]) ⟨hx, hb, hml, hown, hts⟩ (c_X6_lastRun l hst G w w3 p0 p1 o2 hc4) (cwV 1 hts gL_lastRun_X6_lastRun rfl rfl rfl (by decide +kernel) ⟨(Nat.le_of_ble_eq_true rfl), (Nat.le_of_ble_eq_true rfl)⟩) (m_preV (C := RX6) (T := TX6) (N := 8) hM hP hS rfl (by decide) hk1) rfl rfl hl.1 rfl (lv_room (Nat.le_of_ble_eq_true rfl)) dL_lastRun_4 ⟨(Nat.le_of_ble_eq_true rfl), (Nat.le_of_ble_eq_true rfl)⟩) hS ⟨(Nat.le_of_ble_eq_true rfl), (Nat.le_of_ble_eq_true rfl)⟩ (fun E hoE hEm ce q9 n9 H locs hn9 hP hS hcell hcv hcl => ?_) (fun r5 ho7 H locs hP hS => ?_)
  · have hd := hx6 E hoE
    by_cases g9 : E = "java/lang/IndexOutOfBoundsException"
    · subst g9
      have hd := m_i_t rfl hd
      refine m_catch (own := RL) hown hM hEm [] ⟨0, 9, 12, 19⟩ [] htab (fun z hz => nomatch hz) rfl (by decide) (hts (.classLink RL 19 "java/lang/IndexOutOfBoundsException") (by decide +kernel)) hcell hcv hcl ?_
      refine lv_astore_n (lv' := [(3, .ref (q9)), (0, .ref (p0)), (1, .int (p1)), (2, .ref (p2))]) hx hb dL_lastRun_12 rfl hl (by decide) rfl (fun ls hl => ?_)
      refine lv_iconst (v := 1) hx hb dL_lastRun_13 (by decide) ?_
      obtain ⟨e1, e2⟩ := m_s_e hd
      refine W.widen (k := 1) (n := 6) (Nat.le_of_ble_eq_true rfl) (Nat.le_of_ble_eq_true rfl) ?_
      exact W.iret hx hb hr (fun t ht hW => ⟨⟨_, m_sX w3 n9, rfl, ⟨e1, n9, by rw [← e2]; exact hn9, by rw [e2]⟩, by show mP _ _ t.heap; rw [ht]; exact hP⟩, hS.F ht⟩) hS.2.2 dL_lastRun_14
    · have hd := m_i_f g9 hd
      exact nomatch hd
  have hd := hd r5 ho7
  refine lv_i2l (v := r5.toInt64) hx hb dL_lastRun_7 rfl ?_
  obtain ⟨hg8, hd⟩ := m_g_e hd
  refine m_last hx hb hM.1 hP hS hg8 dL_lastRun_8 (fun H locs hP hS => ?_)
  obtain ⟨w9, ew, hd⟩ := m_l_e hd
  have hP : mP G w9 H := by rw [ew]; exact hP
  refine lv_goto (tgt := 15) hx hb dL_lastRun_9 (by decide) ?_
  refine lv_iconst (v := 0) hx hb dL_lastRun_15 (by decide) ?_
  obtain ⟨e1, e2⟩ := m_s_e hd
  refine W.widen (k := 1) (n := 6) (Nat.le_of_ble_eq_true rfl) (Nat.le_of_ble_eq_true rfl) ?_
  exact W.iret hx hb hr (fun t ht hW => ⟨⟨_, w9, rfl, ⟨e1, m_nx w', Nat.le_refl _, e2.trans m_sX_self.symm⟩, by show mP _ _ t.heap; rw [ht]; exact hP⟩, hS.F ht⟩) hS.2.2 dL_lastRun_16


noncomputable def e_L_hasResult_15 (w : mW) (s0 : Int64) (s1 : Int32) (s2 : Nat) : Option (Int32 × mW) := m_g (m_kd w s2 = 25 ∧ ¬ (s1 < 0 ∨ m_ln w s2 ≤ s1.toNatClampNeg)) <| m_l (m_sL w s2 (s1.toNatClampNeg) s0) fun w110 => some (0, w110)
noncomputable def e_L_hasResult (w : mW) (p0 : Nat) (p1 : Int32) (p2 : Nat) : Option (Int32 × mW) := m_g (m_kd w p0 = 10) <| m_hw (e_X6_hasResult w p0 p1) (fun E w3 => if E = "java/lang/IndexOutOfBoundsException" then some (1, w3) else none) fun r5 w3 => if r5 = (0 : Int32) then (e_L_hasResult_15 w3 0 0 p2) else (e_L_hasResult_15 w3 1 0 p2)
set_option maxHeartbeats 1000000 in
set_option maxRecDepth 100000 in
theorem c_L_hasResult (l : Launch) (hst : l.stackTraces = false) (G : m_G) (w w' : mW) (p0 : Nat) (p1 : Int32) (p2 : Nat) (r : Int32) (hd : e_L_hasResult w p0 p1 p2 = some (r, w')) : Met l yL_hasResult wsL_hasResult ({ frames := 10, cells := 1, slots := 6, locals := 183 } : Room) (m_Pc G w [.ref (p0), .int (p1), .ref (p2)]) (m_Qn G r w') 1 6 (fun q => G.1 ≤ q) := by
  refine va_MetW (cc := cL_hasResult) (maxL := 4) (ret := (some .int)) (hh := [(0, 16, 19, 19)]) (by decide +kernel) rfl ?_
  intro p e s m args below meth c s₁ B hml hv
  obtain ⟨rfl, hM, hP⟩ := hv
  have hx := B.exec
  have hb := B.bytes
  have hr := B.returns
  have hts := atoms_spec (ws := wsL_hasResult) B.pre
  have hown : s.vm.findClass RL = some m.cls := findClass_of_methodNamed B.named
  have hlocks := B.notSynchronized
  have htab := vx_table (x := yL_hasResult) B (hts (.codeWith yL_hasResult cL_hasResult 4 (some .int) [(0, 16, 19, 19)]) (List.mem_cons_self))
  have hS : va_S (fun q => G.1 ≤ q) s.heap s.heap [] := va_S.rf
  have J15 : ∀ (w : mW) (s0 : Int64) (s1 : Int32) (s2 : Nat) (H : Heap) (locs : List Loc) (ls : Array Slot), e_L_hasResult_15 w s0 s1 s2 = some (r, w') → mP G w H → va_S (fun q => G.1 ≤ q) s.heap H locs → lv_has ls 4 [] → W p l e ({ frames := 10, cells := 1, slots := 6, locals := 183 } : Room) s m ([.ref (p0), .int (p1), .ref (p2)] : List Value).toArray below meth c H locs 1 6 (MQ below (m_Qn G r w') ([.ref (p0), .int (p1), .ref (p2)] : List Value).toArray s 1 6 (fun q => G.1 ≤ q)) (F0 m 15 ls [.long (s0), .int (s1), .ref (s2)]) := by
    intro w s0 s1 s2 H locs ls hd hP hS hl
    obtain ⟨hg109, hd⟩ := m_g_e hd
    refine m_last hx hb hM.1 hP hS hg109 dL_hasResult_15 (fun H locs hP hS => ?_)
    obtain ⟨w110, ew, hd⟩ := m_l_e hd
    have hP : mP G w110 H := by rw [ew]; exact hP
    refine lv_goto (tgt := 22) hx hb dL_hasResult_16 (by decide) ?_
    refine lv_iconst (v := 0) hx hb dL_hasResult_22 (by decide) ?_
    obtain ⟨e1, e2⟩ := m_s_e hd
    refine W.widen (k := 1) (n := 6) (Nat.le_of_ble_eq_true rfl) (Nat.le_of_ble_eq_true rfl) ?_
    exact W.iret hx hb hr (fun t ht hW => ⟨⟨_, w110, rfl, ⟨e1, m_nx w', Nat.le_refl _, e2.trans m_sX_self.symm⟩, by show mP _ _ t.heap; rw [ht]; exact hP⟩, hS.F ht⟩) hS.2.2 dL_hasResult_23
  have hl := lv_entry ([.ref (p0), .int (p1), .ref (p2)]) (n := 4) (Nat.le_of_ble_eq_true rfl)
  rw [lg_entry_eq]
  generalize (lg_sl ([.ref (p0), .int (p1), .ref (p2)]) ++ List.replicate (4 - (lg_sl ([.ref (p0), .int (p1), .ref (p2)])).length) Slot.unset).toArray = ls at hl ⊢
  have hl : lv_has ls 4 [(0, .ref (p0)), (1, .int (p1)), (2, .ref (p2))] := hl
  refine lv_aload_n hx hb dL_hasResult_0 rfl (lv_at hl 2 rfl) ?_
  refine lv_iconst (v := 0) hx hb dL_hasResult_1 (by decide) ?_
  refine lv_aload_n hx hb dL_hasResult_2 rfl (lv_at hl 0 rfl) ?_
  refine lv_iload_n hx hb dL_hasResult_3 rfl (lv_at hl 1 rfl) ?_
  obtain ⟨hk1, hd⟩ := m_g_e hd
  obtain ⟨o2, w3, hc4, hx6, hd⟩ := m_h_e hd
  refine m_callhi (k := 1) (n := 6) (vx_runV (As := [.int (p1)]) (rest := [.int (0), .ref (p2)]) ⟨hx, hb, hml, hown, hts⟩ (c_X6_hasResult l hst G w w3 p0 p1 o2 hc4) (cwV 1 hts gL_hasResult_X6_hasResult rfl rfl rfl (by decide +kernel) ⟨(Nat.le_of_ble_eq_true rfl), (Nat.le_of_ble_eq_true rfl)⟩) (m_preV (C := RX6) (T := TX6) (N := 8) hM hP hS rfl (by decide) hk1) rfl rfl hl.1 rfl (lv_room (Nat.le_of_ble_eq_true rfl)) dL_hasResult_4 ⟨(Nat.le_of_ble_eq_true rfl), (Nat.le_of_ble_eq_true rfl)⟩) hS ⟨(Nat.le_of_ble_eq_true rfl), (Nat.le_of_ble_eq_true rfl)⟩ (fun E hoE hEm ce q9 n9 H locs hn9 hP hS hcell hcv hcl => ?_) (fun r5 ho7 H locs hP hS => ?_)
  · have hd := hx6 E hoE
    by_cases g9 : E = "java/lang/IndexOutOfBoundsException"
    · subst g9
      have hd := m_i_t rfl hd
      refine m_catch (own := RL) hown hM hEm [] ⟨0, 16, 19, 19⟩ [] htab (fun z hz => nomatch hz) rfl (by decide) (hts (.classLink RL 19 "java/lang/IndexOutOfBoundsException") (by decide +kernel)) hcell hcv hcl ?_
      refine lv_astore_n (lv' := [(3, .ref (q9)), (0, .ref (p0)), (1, .int (p1)), (2, .ref (p2))]) hx hb dL_hasResult_19 rfl hl (by decide) rfl (fun ls hl => ?_)
      refine lv_iconst (v := 1) hx hb dL_hasResult_20 (by decide) ?_
      obtain ⟨e1, e2⟩ := m_s_e hd
      refine W.widen (k := 1) (n := 6) (Nat.le_of_ble_eq_true rfl) (Nat.le_of_ble_eq_true rfl) ?_
      exact W.iret hx hb hr (fun t ht hW => ⟨⟨_, m_sX w3 n9, rfl, ⟨e1, n9, by rw [← e2]; exact hn9, by rw [e2]⟩, by show mP _ _ t.heap; rw [ht]; exact hP⟩, hS.F ht⟩) hS.2.2 dL_hasResult_21
    · have hd := m_i_f g9 hd
      exact nomatch hd
  have hd := hd r5 ho7
  refine lv_if_eq (tgt := 14) hx hb dL_hasResult_7 (by decide) (fun c8 => ?_) (fun c8 => ?_)
  · have hd := m_i_t c8 hd
    refine lv_lconst (v := 0) hx hb dL_hasResult_14 (by decide) ?_
    refine W.widen (k := 1) (n := 6) (Nat.le_of_ble_eq_true rfl) (Nat.le_of_ble_eq_true rfl) ?_
    exact J15 w3 0 0 p2 _ _ _ hd hP hS (lv_sub hl [] rfl)
  · have hd := m_i_f c8 hd
    refine lv_lconst (v := 1) hx hb dL_hasResult_10 (by decide) ?_
    refine lv_goto (tgt := 15) hx hb dL_hasResult_11 (by decide) ?_
    refine W.widen (k := 1) (n := 6) (Nat.le_of_ble_eq_true rfl) (Nat.le_of_ble_eq_true rfl) ?_
    exact J15 w3 1 0 p2 _ _ _ hd hP hS (lv_sub hl [] rfl)


noncomputable def e_L_result (w : mW) (p0 : Nat) (p1 : Int32) (p2 : Int32) (p3 : Nat) : Option (Int32 × mW) := m_g (m_kd w p0 = 10) <| m_hw (e_X6_result w p0 p1 p2) (fun E w3 => if E = "java/lang/IndexOutOfBoundsException" then some (1, w3) else (if E = "java/lang/IllegalStateException" then some (2, w3) else none)) fun r5 w3 => m_g (m_kd w3 p3 = 25 ∧ ¬ ((0 : Int32) < 0 ∨ m_ln w3 p3 ≤ (0 : Int32).toNatClampNeg)) <| m_l (m_sL w3 p3 ((0 : Int32).toNatClampNeg) r5.toInt64) fun w9 => some (0, w9)
set_option maxHeartbeats 1000000 in
set_option maxRecDepth 100000 in
theorem c_L_result (l : Launch) (hst : l.stackTraces = false) (G : m_G) (w w' : mW) (p0 : Nat) (p1 : Int32) (p2 : Int32) (p3 : Nat) (r : Int32) (hd : e_L_result w p0 p1 p2 p3 = some (r, w')) : Met l yL_result wsL_result ({ frames := 10, cells := 4, slots := 24, locals := 186 } : Room) (m_Pc G w [.ref (p0), .int (p1), .int (p2), .ref (p3)]) (m_Qn G r w') 4 24 (fun q => G.1 ≤ q) := by
  refine va_MetW (cc := cL_result) (maxL := 5) (ret := (some .int)) (hh := [(0, 10, 13, 19), (0, 10, 17, 13)]) (by decide +kernel) rfl ?_
  intro p e s m args below meth c s₁ B hml hv
  obtain ⟨rfl, hM, hP⟩ := hv
  have hx := B.exec
  have hb := B.bytes
  have hr := B.returns
  have hts := atoms_spec (ws := wsL_result) B.pre
  have hown : s.vm.findClass RL = some m.cls := findClass_of_methodNamed B.named
  have hlocks := B.notSynchronized
  have htab := vx_table (x := yL_result) B (hts (.codeWith yL_result cL_result 5 (some .int) [(0, 10, 13, 19), (0, 10, 17, 13)]) (List.mem_cons_self))
  have hS : va_S (fun q => G.1 ≤ q) s.heap s.heap [] := va_S.rf
  have hl := lv_entry ([.ref (p0), .int (p1), .int (p2), .ref (p3)]) (n := 5) (Nat.le_of_ble_eq_true rfl)
  rw [lg_entry_eq]
  generalize (lg_sl ([.ref (p0), .int (p1), .int (p2), .ref (p3)]) ++ List.replicate (5 - (lg_sl ([.ref (p0), .int (p1), .int (p2), .ref (p3)])).length) Slot.unset).toArray = ls at hl ⊢
  have hl : lv_has ls 5 [(0, .ref (p0)), (1, .int (p1)), (2, .int (p2)), (3, .ref (p3))] := hl
  refine lv_aload_n hx hb dL_result_0 rfl (lv_at hl 3 rfl) ?_
  refine lv_iconst (v := 0) hx hb dL_result_1 (by decide) ?_
  refine lv_aload_n hx hb dL_result_2 rfl (lv_at hl 0 rfl) ?_
  refine lv_iload_n hx hb dL_result_3 rfl (lv_at hl 1 rfl) ?_
  refine lv_iload_n hx hb dL_result_4 rfl (lv_at hl 2 rfl) ?_
  obtain ⟨hk1, hd⟩ := m_g_e hd
  obtain ⟨o2, w3, hc4, hx6, hd⟩ := m_h_e hd
  refine m_callhi (k := 4) (n := 24) (vx_runV (As := [.int (p1), .int (p2)]) (rest := [.int (0), .ref (p3)]) ⟨hx, hb, hml, hown, hts⟩ (c_X6_result l hst G w w3 p0 p1 p2 o2 hc4) (cwV 2 hts gL_result_X6_result rfl rfl rfl (by decide +kernel) ⟨(Nat.le_of_ble_eq_true rfl), (Nat.le_of_ble_eq_true rfl)⟩) (m_preV (C := RX6) (T := TX6) (N := 8) hM hP hS rfl (by decide) hk1) rfl rfl hl.1 rfl (lv_room (Nat.le_of_ble_eq_true rfl)) dL_result_5 ⟨(Nat.le_of_ble_eq_true rfl), (Nat.le_of_ble_eq_true rfl)⟩) hS ⟨(Nat.le_of_ble_eq_true rfl), (Nat.le_of_ble_eq_true rfl)⟩ (fun E hoE hEm ce q9 n9 H locs hn9 hP hS hcell hcv hcl => ?_) (fun r5 ho7 H locs hP hS => ?_)
  · have hd := hx6 E hoE
    by_cases g9 : E = "java/lang/IndexOutOfBoundsException"
    · subst g9
      have hd := m_i_t rfl hd
      refine m_catch (own := RL) hown hM hEm [] ⟨0, 10, 13, 19⟩ [⟨0, 10, 17, 13⟩] htab (fun z hz => nomatch hz) rfl (by decide) (hts (.classLink RL 19 "java/lang/IndexOutOfBoundsException") (by decide +kernel)) hcell hcv hcl ?_
      refine lv_astore (lv' := [(4, .ref (q9)), (0, .ref (p0)), (1, .int (p1)), (2, .int (p2)), (3, .ref (p3))]) hx hb dL_result_13 hl (by decide) rfl (fun ls hl => ?_)
      refine lv_iconst (v := 1) hx hb dL_result_15 (by decide) ?_
      obtain ⟨e1, e2⟩ := m_s_e hd
      refine W.widen (k := 4) (n := 24) (Nat.le_of_ble_eq_true rfl) (Nat.le_of_ble_eq_true rfl) ?_
      exact W.iret hx hb hr (fun t ht hW => ⟨⟨_, m_sX w3 n9, rfl, ⟨e1, n9, by rw [← e2]; exact hn9, by rw [e2]⟩, by show mP _ _ t.heap; rw [ht]; exact hP⟩, hS.F ht⟩) hS.2.2 dL_result_16
    · have hd := m_i_f g9 hd
      by_cases g9 : E = "java/lang/IllegalStateException"
      · subst g9
        have hd := m_i_t rfl hd
        refine m_catch (own := RL) hown hM hEm [⟨0, 10, 13, 19⟩] ⟨0, 10, 17, 13⟩ [] htab (fun z hz => by
          simp only [List.mem_cons, List.mem_nil_iff, or_false] at hz
          rcases hz with rfl
          · exact ⟨by decide, "java/lang/IndexOutOfBoundsException", by decide, (hts (.classLink RL 19 "java/lang/IndexOutOfBoundsException") (by decide +kernel)), by decide⟩) rfl (by decide) (hts (.classLink RL 13 "java/lang/IllegalStateException") (by decide +kernel)) hcell hcv hcl ?_
        refine lv_astore (lv' := [(4, .ref (q9)), (0, .ref (p0)), (1, .int (p1)), (2, .int (p2)), (3, .ref (p3))]) hx hb dL_result_17 hl (by decide) rfl (fun ls hl => ?_)
        refine lv_iconst (v := 2) hx hb dL_result_19 (by decide) ?_
        obtain ⟨e1, e2⟩ := m_s_e hd
        refine W.widen (k := 4) (n := 24) (Nat.le_of_ble_eq_true rfl) (Nat.le_of_ble_eq_true rfl) ?_
        exact W.iret hx hb hr (fun t ht hW => ⟨⟨_, m_sX w3 n9, rfl, ⟨e1, n9, by rw [← e2]; exact hn9, by rw [e2]⟩, by show mP _ _ t.heap; rw [ht]; exact hP⟩, hS.F ht⟩) hS.2.2 dL_result_20
      · have hd := m_i_f g9 hd
        exact nomatch hd
  have hd := hd r5 ho7
  refine lv_i2l (v := r5.toInt64) hx hb dL_result_8 rfl ?_
  obtain ⟨hg8, hd⟩ := m_g_e hd
  refine m_last hx hb hM.1 hP hS hg8 dL_result_9 (fun H locs hP hS => ?_)
  obtain ⟨w9, ew, hd⟩ := m_l_e hd
  have hP : mP G w9 H := by rw [ew]; exact hP
  refine lv_goto (tgt := 21) hx hb dL_result_10 (by decide) ?_
  refine lv_iconst (v := 0) hx hb dL_result_21 (by decide) ?_
  obtain ⟨e1, e2⟩ := m_s_e hd
  refine W.widen (k := 4) (n := 24) (Nat.le_of_ble_eq_true rfl) (Nat.le_of_ble_eq_true rfl) ?_
  exact W.iret hx hb hr (fun t ht hW => ⟨⟨_, w9, rfl, ⟨e1, m_nx w', Nat.le_refl _, e2.trans m_sX_self.symm⟩, by show mP _ _ t.heap; rw [ht]; exact hP⟩, hS.F ht⟩) hS.2.2 dL_result_22


noncomputable def e_L_seen (w : mW) (p0 : Nat) (p1 : Int32) (p2 : Nat) : Option (Int32 × mW) := m_g (m_kd w p0 = 10) <| m_hw (e_X6_seen w p0 p1) (fun E w3 => if E = "java/lang/IndexOutOfBoundsException" then some (1, w3) else none) fun r5 w3 => m_g (m_kd w3 p2 = 25 ∧ ¬ ((0 : Int32) < 0 ∨ m_ln w3 p2 ≤ (0 : Int32).toNatClampNeg)) <| m_l (m_sL w3 p2 ((0 : Int32).toNatClampNeg) r5.toInt64) fun w9 => some (0, w9)
set_option maxHeartbeats 1000000 in
set_option maxRecDepth 100000 in
theorem c_L_seen (l : Launch) (hst : l.stackTraces = false) (G : m_G) (w w' : mW) (p0 : Nat) (p1 : Int32) (p2 : Nat) (r : Int32) (hd : e_L_seen w p0 p1 p2 = some (r, w')) : Met l yL_seen wsL_seen ({ frames := 10, cells := 1, slots := 6, locals := 183 } : Room) (m_Pc G w [.ref (p0), .int (p1), .ref (p2)]) (m_Qn G r w') 1 6 (fun q => G.1 ≤ q) := by
  refine va_MetW (cc := cL_seen) (maxL := 4) (ret := (some .int)) (hh := [(0, 9, 12, 19)]) (by decide +kernel) rfl ?_
  intro p e s m args below meth c s₁ B hml hv
  obtain ⟨rfl, hM, hP⟩ := hv
  have hx := B.exec
  have hb := B.bytes
  have hr := B.returns
  have hts := atoms_spec (ws := wsL_seen) B.pre
  have hown : s.vm.findClass RL = some m.cls := findClass_of_methodNamed B.named
  have hlocks := B.notSynchronized
  have htab := vx_table (x := yL_seen) B (hts (.codeWith yL_seen cL_seen 4 (some .int) [(0, 9, 12, 19)]) (List.mem_cons_self))
  have hS : va_S (fun q => G.1 ≤ q) s.heap s.heap [] := va_S.rf
  have hl := lv_entry ([.ref (p0), .int (p1), .ref (p2)]) (n := 4) (Nat.le_of_ble_eq_true rfl)
  rw [lg_entry_eq]
  generalize (lg_sl ([.ref (p0), .int (p1), .ref (p2)]) ++ List.replicate (4 - (lg_sl ([.ref (p0), .int (p1), .ref (p2)])).length) Slot.unset).toArray = ls at hl ⊢
  have hl : lv_has ls 4 [(0, .ref (p0)), (1, .int (p1)), (2, .ref (p2))] := hl
  refine lv_aload_n hx hb dL_seen_0 rfl (lv_at hl 2 rfl) ?_
  refine lv_iconst (v := 0) hx hb dL_seen_1 (by decide) ?_
  refine lv_aload_n hx hb dL_seen_2 rfl (lv_at hl 0 rfl) ?_
  refine lv_iload_n hx hb dL_seen_3 rfl (lv_at hl 1 rfl) ?_
  obtain ⟨hk1, hd⟩ := m_g_e hd
  obtain ⟨o2, w3, hc4, hx6, hd⟩ := m_h_e hd
  refine m_callhi (k := 1) (n := 6) (vx_runV (As := [.int (p1)]) (rest := [.int (0), .ref (p2)]) ⟨hx, hb, hml, hown, hts⟩ (c_X6_seen l hst G w w3 p0 p1 o2 hc4) (cwV 1 hts gL_seen_X6_seen rfl rfl rfl (by decide +kernel) ⟨(Nat.le_of_ble_eq_true rfl), (Nat.le_of_ble_eq_true rfl)⟩) (m_preV (C := RX6) (T := TX6) (N := 8) hM hP hS rfl (by decide) hk1) rfl rfl hl.1 rfl (lv_room (Nat.le_of_ble_eq_true rfl)) dL_seen_4 ⟨(Nat.le_of_ble_eq_true rfl), (Nat.le_of_ble_eq_true rfl)⟩) hS ⟨(Nat.le_of_ble_eq_true rfl), (Nat.le_of_ble_eq_true rfl)⟩ (fun E hoE hEm ce q9 n9 H locs hn9 hP hS hcell hcv hcl => ?_) (fun r5 ho7 H locs hP hS => ?_)
  · have hd := hx6 E hoE
    by_cases g9 : E = "java/lang/IndexOutOfBoundsException"
    · subst g9
      have hd := m_i_t rfl hd
      refine m_catch (own := RL) hown hM hEm [] ⟨0, 9, 12, 19⟩ [] htab (fun z hz => nomatch hz) rfl (by decide) (hts (.classLink RL 19 "java/lang/IndexOutOfBoundsException") (by decide +kernel)) hcell hcv hcl ?_
      refine lv_astore_n (lv' := [(3, .ref (q9)), (0, .ref (p0)), (1, .int (p1)), (2, .ref (p2))]) hx hb dL_seen_12 rfl hl (by decide) rfl (fun ls hl => ?_)
      refine lv_iconst (v := 1) hx hb dL_seen_13 (by decide) ?_
      obtain ⟨e1, e2⟩ := m_s_e hd
      refine W.widen (k := 1) (n := 6) (Nat.le_of_ble_eq_true rfl) (Nat.le_of_ble_eq_true rfl) ?_
      exact W.iret hx hb hr (fun t ht hW => ⟨⟨_, m_sX w3 n9, rfl, ⟨e1, n9, by rw [← e2]; exact hn9, by rw [e2]⟩, by show mP _ _ t.heap; rw [ht]; exact hP⟩, hS.F ht⟩) hS.2.2 dL_seen_14
    · have hd := m_i_f g9 hd
      exact nomatch hd
  have hd := hd r5 ho7
  refine lv_i2l (v := r5.toInt64) hx hb dL_seen_7 rfl ?_
  obtain ⟨hg8, hd⟩ := m_g_e hd
  refine m_last hx hb hM.1 hP hS hg8 dL_seen_8 (fun H locs hP hS => ?_)
  obtain ⟨w9, ew, hd⟩ := m_l_e hd
  have hP : mP G w9 H := by rw [ew]; exact hP
  refine lv_goto (tgt := 15) hx hb dL_seen_9 (by decide) ?_
  refine lv_iconst (v := 0) hx hb dL_seen_15 (by decide) ?_
  obtain ⟨e1, e2⟩ := m_s_e hd
  refine W.widen (k := 1) (n := 6) (Nat.le_of_ble_eq_true rfl) (Nat.le_of_ble_eq_true rfl) ?_
  exact W.iret hx hb hr (fun t ht hW => ⟨⟨_, w9, rfl, ⟨e1, m_nx w', Nat.le_refl _, e2.trans m_sX_self.symm⟩, by show mP _ _ t.heap; rw [ht]; exact hP⟩, hS.F ht⟩) hS.2.2 dL_seen_16


noncomputable def e_L_timesSeen (w : mW) (p0 : Nat) (p1 : Int32) (p2 : Nat) : Option (Int32 × mW) := m_g (m_kd w p0 = 10) <| m_hw (e_X6_timesSeen w p0 p1) (fun E w3 => if E = "java/lang/IndexOutOfBoundsException" then some (1, w3) else none) fun r5 w3 => m_g (m_kd w3 p2 = 25 ∧ ¬ ((0 : Int32) < 0 ∨ m_ln w3 p2 ≤ (0 : Int32).toNatClampNeg)) <| m_l (m_sL w3 p2 ((0 : Int32).toNatClampNeg) r5.toInt64) fun w9 => some (0, w9)
set_option maxHeartbeats 1000000 in
set_option maxRecDepth 100000 in
theorem c_L_timesSeen (l : Launch) (hst : l.stackTraces = false) (G : m_G) (w w' : mW) (p0 : Nat) (p1 : Int32) (p2 : Nat) (r : Int32) (hd : e_L_timesSeen w p0 p1 p2 = some (r, w')) : Met l yL_timesSeen wsL_timesSeen ({ frames := 10, cells := 1, slots := 6, locals := 183 } : Room) (m_Pc G w [.ref (p0), .int (p1), .ref (p2)]) (m_Qn G r w') 1 6 (fun q => G.1 ≤ q) := by
  refine va_MetW (cc := cL_timesSeen) (maxL := 4) (ret := (some .int)) (hh := [(0, 9, 12, 19)]) (by decide +kernel) rfl ?_
  intro p e s m args below meth c s₁ B hml hv
  obtain ⟨rfl, hM, hP⟩ := hv
  have hx := B.exec
  have hb := B.bytes
  have hr := B.returns
  have hts := atoms_spec (ws := wsL_timesSeen) B.pre
  have hown : s.vm.findClass RL = some m.cls := findClass_of_methodNamed B.named
  have hlocks := B.notSynchronized
  have htab := vx_table (x := yL_timesSeen) B (hts (.codeWith yL_timesSeen cL_timesSeen 4 (some .int) [(0, 9, 12, 19)]) (List.mem_cons_self))
  have hS : va_S (fun q => G.1 ≤ q) s.heap s.heap [] := va_S.rf
  have hl := lv_entry ([.ref (p0), .int (p1), .ref (p2)]) (n := 4) (Nat.le_of_ble_eq_true rfl)
  rw [lg_entry_eq]
  generalize (lg_sl ([.ref (p0), .int (p1), .ref (p2)]) ++ List.replicate (4 - (lg_sl ([.ref (p0), .int (p1), .ref (p2)])).length) Slot.unset).toArray = ls at hl ⊢
  have hl : lv_has ls 4 [(0, .ref (p0)), (1, .int (p1)), (2, .ref (p2))] := hl
  refine lv_aload_n hx hb dL_timesSeen_0 rfl (lv_at hl 2 rfl) ?_
  refine lv_iconst (v := 0) hx hb dL_timesSeen_1 (by decide) ?_
  refine lv_aload_n hx hb dL_timesSeen_2 rfl (lv_at hl 0 rfl) ?_
  refine lv_iload_n hx hb dL_timesSeen_3 rfl (lv_at hl 1 rfl) ?_
  obtain ⟨hk1, hd⟩ := m_g_e hd
  obtain ⟨o2, w3, hc4, hx6, hd⟩ := m_h_e hd
  refine m_callhi (k := 1) (n := 6) (vx_runV (As := [.int (p1)]) (rest := [.int (0), .ref (p2)]) ⟨hx, hb, hml, hown, hts⟩ (c_X6_timesSeen l hst G w w3 p0 p1 o2 hc4) (cwV 1 hts gL_timesSeen_X6_timesSeen rfl rfl rfl (by decide +kernel) ⟨(Nat.le_of_ble_eq_true rfl), (Nat.le_of_ble_eq_true rfl)⟩) (m_preV (C := RX6) (T := TX6) (N := 8) hM hP hS rfl (by decide) hk1) rfl rfl hl.1 rfl (lv_room (Nat.le_of_ble_eq_true rfl)) dL_timesSeen_4 ⟨(Nat.le_of_ble_eq_true rfl), (Nat.le_of_ble_eq_true rfl)⟩) hS ⟨(Nat.le_of_ble_eq_true rfl), (Nat.le_of_ble_eq_true rfl)⟩ (fun E hoE hEm ce q9 n9 H locs hn9 hP hS hcell hcv hcl => ?_) (fun r5 ho7 H locs hP hS => ?_)
  · have hd := hx6 E hoE
    by_cases g9 : E = "java/lang/IndexOutOfBoundsException"
    · subst g9
      have hd := m_i_t rfl hd
      refine m_catch (own := RL) hown hM hEm [] ⟨0, 9, 12, 19⟩ [] htab (fun z hz => nomatch hz) rfl (by decide) (hts (.classLink RL 19 "java/lang/IndexOutOfBoundsException") (by decide +kernel)) hcell hcv hcl ?_
      refine lv_astore_n (lv' := [(3, .ref (q9)), (0, .ref (p0)), (1, .int (p1)), (2, .ref (p2))]) hx hb dL_timesSeen_12 rfl hl (by decide) rfl (fun ls hl => ?_)
      refine lv_iconst (v := 1) hx hb dL_timesSeen_13 (by decide) ?_
      obtain ⟨e1, e2⟩ := m_s_e hd
      refine W.widen (k := 1) (n := 6) (Nat.le_of_ble_eq_true rfl) (Nat.le_of_ble_eq_true rfl) ?_
      exact W.iret hx hb hr (fun t ht hW => ⟨⟨_, m_sX w3 n9, rfl, ⟨e1, n9, by rw [← e2]; exact hn9, by rw [e2]⟩, by show mP _ _ t.heap; rw [ht]; exact hP⟩, hS.F ht⟩) hS.2.2 dL_timesSeen_14
    · have hd := m_i_f g9 hd
      exact nomatch hd
  have hd := hd r5 ho7
  refine lv_i2l (v := r5.toInt64) hx hb dL_timesSeen_7 rfl ?_
  obtain ⟨hg8, hd⟩ := m_g_e hd
  refine m_last hx hb hM.1 hP hS hg8 dL_timesSeen_8 (fun H locs hP hS => ?_)
  obtain ⟨w9, ew, hd⟩ := m_l_e hd
  have hP : mP G w9 H := by rw [ew]; exact hP
  refine lv_goto (tgt := 15) hx hb dL_timesSeen_9 (by decide) ?_
  refine lv_iconst (v := 0) hx hb dL_timesSeen_15 (by decide) ?_
  obtain ⟨e1, e2⟩ := m_s_e hd
  refine W.widen (k := 1) (n := 6) (Nat.le_of_ble_eq_true rfl) (Nat.le_of_ble_eq_true rfl) ?_
  exact W.iret hx hb hr (fun t ht hW => ⟨⟨_, w9, rfl, ⟨e1, m_nx w', Nat.le_refl _, e2.trans m_sX_self.symm⟩, by show mP _ _ t.heap; rw [ht]; exact hP⟩, hS.F ht⟩) hS.2.2 dL_timesSeen_16


noncomputable def e_L_why (w : mW) (p0 : Nat) (p1 : Int32) (p2 : Nat) : Option (Int32 × mW) := m_g (m_kd w p0 = 10) <| m_hw (e_X6_why w p0 p1) (fun E w3 => if E = "java/lang/IndexOutOfBoundsException" then some (1, w3) else none) fun r5 w3 => m_g (m_kd w3 p2 = 25 ∧ ¬ ((0 : Int32) < 0 ∨ m_ln w3 p2 ≤ (0 : Int32).toNatClampNeg)) <| m_l (m_sL w3 p2 ((0 : Int32).toNatClampNeg) r5.toInt64) fun w9 => some (0, w9)
set_option maxHeartbeats 1000000 in
set_option maxRecDepth 100000 in
theorem c_L_why (l : Launch) (hst : l.stackTraces = false) (G : m_G) (w w' : mW) (p0 : Nat) (p1 : Int32) (p2 : Nat) (r : Int32) (hd : e_L_why w p0 p1 p2 = some (r, w')) : Met l yL_why wsL_why ({ frames := 10, cells := 1, slots := 6, locals := 183 } : Room) (m_Pc G w [.ref (p0), .int (p1), .ref (p2)]) (m_Qn G r w') 1 6 (fun q => G.1 ≤ q) := by
  refine va_MetW (cc := cL_why) (maxL := 4) (ret := (some .int)) (hh := [(0, 9, 12, 19)]) (by decide +kernel) rfl ?_
  intro p e s m args below meth c s₁ B hml hv
  obtain ⟨rfl, hM, hP⟩ := hv
  have hx := B.exec
  have hb := B.bytes
  have hr := B.returns
  have hts := atoms_spec (ws := wsL_why) B.pre
  have hown : s.vm.findClass RL = some m.cls := findClass_of_methodNamed B.named
  have hlocks := B.notSynchronized
  have htab := vx_table (x := yL_why) B (hts (.codeWith yL_why cL_why 4 (some .int) [(0, 9, 12, 19)]) (List.mem_cons_self))
  have hS : va_S (fun q => G.1 ≤ q) s.heap s.heap [] := va_S.rf
  have hl := lv_entry ([.ref (p0), .int (p1), .ref (p2)]) (n := 4) (Nat.le_of_ble_eq_true rfl)
  rw [lg_entry_eq]
  generalize (lg_sl ([.ref (p0), .int (p1), .ref (p2)]) ++ List.replicate (4 - (lg_sl ([.ref (p0), .int (p1), .ref (p2)])).length) Slot.unset).toArray = ls at hl ⊢
  have hl : lv_has ls 4 [(0, .ref (p0)), (1, .int (p1)), (2, .ref (p2))] := hl
  refine lv_aload_n hx hb dL_why_0 rfl (lv_at hl 2 rfl) ?_
  refine lv_iconst (v := 0) hx hb dL_why_1 (by decide) ?_
  refine lv_aload_n hx hb dL_why_2 rfl (lv_at hl 0 rfl) ?_
  refine lv_iload_n hx hb dL_why_3 rfl (lv_at hl 1 rfl) ?_
  obtain ⟨hk1, hd⟩ := m_g_e hd
  obtain ⟨o2, w3, hc4, hx6, hd⟩ := m_h_e hd
  refine m_callhi (k := 1) (n := 6) (vx_runV (As := [.int (p1)]) (rest := [.int (0), .ref (p2)]) ⟨hx, hb, hml, hown, hts⟩ (c_X6_why l hst G w w3 p0 p1 o2 hc4) (cwV 1 hts gL_why_X6_why rfl rfl rfl (by decide +kernel) ⟨(Nat.le_of_ble_eq_true rfl), (Nat.le_of_ble_eq_true rfl)⟩) (m_preV (C := RX6) (T := TX6) (N := 8) hM hP hS rfl (by decide) hk1) rfl rfl hl.1 rfl (lv_room (Nat.le_of_ble_eq_true rfl)) dL_why_4 ⟨(Nat.le_of_ble_eq_true rfl), (Nat.le_of_ble_eq_true rfl)⟩) hS ⟨(Nat.le_of_ble_eq_true rfl), (Nat.le_of_ble_eq_true rfl)⟩ (fun E hoE hEm ce q9 n9 H locs hn9 hP hS hcell hcv hcl => ?_) (fun r5 ho7 H locs hP hS => ?_)
  · have hd := hx6 E hoE
    by_cases g9 : E = "java/lang/IndexOutOfBoundsException"
    · subst g9
      have hd := m_i_t rfl hd
      refine m_catch (own := RL) hown hM hEm [] ⟨0, 9, 12, 19⟩ [] htab (fun z hz => nomatch hz) rfl (by decide) (hts (.classLink RL 19 "java/lang/IndexOutOfBoundsException") (by decide +kernel)) hcell hcv hcl ?_
      refine lv_astore_n (lv' := [(3, .ref (q9)), (0, .ref (p0)), (1, .int (p1)), (2, .ref (p2))]) hx hb dL_why_12 rfl hl (by decide) rfl (fun ls hl => ?_)
      refine lv_iconst (v := 1) hx hb dL_why_13 (by decide) ?_
      obtain ⟨e1, e2⟩ := m_s_e hd
      refine W.widen (k := 1) (n := 6) (Nat.le_of_ble_eq_true rfl) (Nat.le_of_ble_eq_true rfl) ?_
      exact W.iret hx hb hr (fun t ht hW => ⟨⟨_, m_sX w3 n9, rfl, ⟨e1, n9, by rw [← e2]; exact hn9, by rw [e2]⟩, by show mP _ _ t.heap; rw [ht]; exact hP⟩, hS.F ht⟩) hS.2.2 dL_why_14
    · have hd := m_i_f g9 hd
      exact nomatch hd
  have hd := hd r5 ho7
  refine lv_i2l (v := r5.toInt64) hx hb dL_why_7 rfl ?_
  obtain ⟨hg8, hd⟩ := m_g_e hd
  refine m_last hx hb hM.1 hP hS hg8 dL_why_8 (fun H locs hP hS => ?_)
  obtain ⟨w9, ew, hd⟩ := m_l_e hd
  have hP : mP G w9 H := by rw [ew]; exact hP
  refine lv_goto (tgt := 15) hx hb dL_why_9 (by decide) ?_
  refine lv_iconst (v := 0) hx hb dL_why_15 (by decide) ?_
  obtain ⟨e1, e2⟩ := m_s_e hd
  refine W.widen (k := 1) (n := 6) (Nat.le_of_ble_eq_true rfl) (Nat.le_of_ble_eq_true rfl) ?_
  exact W.iret hx hb hr (fun t ht hW => ⟨⟨_, w9, rfl, ⟨e1, m_nx w', Nat.le_refl _, e2.trans m_sX_self.symm⟩, by show mP _ _ t.heap; rw [ht]; exact hP⟩, hS.F ht⟩) hS.2.2 dL_why_16


noncomputable def e_L_wouldBeStale (w : mW) (p0 : Nat) (p1 : Int32) (p2 : Nat) : Option (Int32 × mW) := m_g (m_kd w p0 = 10) <| m_hw (e_X6_wouldBeStale w p0 p1) (fun E w3 => if E = "java/lang/IndexOutOfBoundsException" then some (1, w3) else none) fun r5 w3 => m_g (m_kd w3 p2 = 25 ∧ ¬ ((0 : Int32) < 0 ∨ m_ln w3 p2 ≤ (0 : Int32).toNatClampNeg)) <| m_l (m_sL w3 p2 ((0 : Int32).toNatClampNeg) r5.toInt64) fun w9 => some (0, w9)
set_option maxHeartbeats 1000000 in
set_option maxRecDepth 100000 in
theorem c_L_wouldBeStale (l : Launch) (hst : l.stackTraces = false) (G : m_G) (w w' : mW) (p0 : Nat) (p1 : Int32) (p2 : Nat) (r : Int32) (hd : e_L_wouldBeStale w p0 p1 p2 = some (r, w')) : Met l yL_wouldBeStale wsL_wouldBeStale ({ frames := 10, cells := 1, slots := 6, locals := 181 } : Room) (m_Pc G w [.ref (p0), .int (p1), .ref (p2)]) (m_Qn G r w') 1 6 (fun q => G.1 ≤ q) := by
  refine va_MetW (cc := cL_wouldBeStale) (maxL := 4) (ret := (some .int)) (hh := [(0, 9, 12, 19)]) (by decide +kernel) rfl ?_
  intro p e s m args below meth c s₁ B hml hv
  obtain ⟨rfl, hM, hP⟩ := hv
  have hx := B.exec
  have hb := B.bytes
  have hr := B.returns
  have hts := atoms_spec (ws := wsL_wouldBeStale) B.pre
  have hown : s.vm.findClass RL = some m.cls := findClass_of_methodNamed B.named
  have hlocks := B.notSynchronized
  have htab := vx_table (x := yL_wouldBeStale) B (hts (.codeWith yL_wouldBeStale cL_wouldBeStale 4 (some .int) [(0, 9, 12, 19)]) (List.mem_cons_self))
  have hS : va_S (fun q => G.1 ≤ q) s.heap s.heap [] := va_S.rf
  have hl := lv_entry ([.ref (p0), .int (p1), .ref (p2)]) (n := 4) (Nat.le_of_ble_eq_true rfl)
  rw [lg_entry_eq]
  generalize (lg_sl ([.ref (p0), .int (p1), .ref (p2)]) ++ List.replicate (4 - (lg_sl ([.ref (p0), .int (p1), .ref (p2)])).length) Slot.unset).toArray = ls at hl ⊢
  have hl : lv_has ls 4 [(0, .ref (p0)), (1, .int (p1)), (2, .ref (p2))] := hl
  refine lv_aload_n hx hb dL_wouldBeStale_0 rfl (lv_at hl 2 rfl) ?_
  refine lv_iconst (v := 0) hx hb dL_wouldBeStale_1 (by decide) ?_
  refine lv_aload_n hx hb dL_wouldBeStale_2 rfl (lv_at hl 0 rfl) ?_
  refine lv_iload_n hx hb dL_wouldBeStale_3 rfl (lv_at hl 1 rfl) ?_
  obtain ⟨hk1, hd⟩ := m_g_e hd
  obtain ⟨o2, w3, hc4, hx6, hd⟩ := m_h_e hd
  refine m_callhi (k := 1) (n := 6) (vx_runV (As := [.int (p1)]) (rest := [.int (0), .ref (p2)]) ⟨hx, hb, hml, hown, hts⟩ (c_X6_wouldBeStale l hst G w w3 p0 p1 o2 hc4) (cwV 1 hts gL_wouldBeStale_X6_wouldBeStale rfl rfl rfl (by decide +kernel) ⟨(Nat.le_of_ble_eq_true rfl), (Nat.le_of_ble_eq_true rfl)⟩) (m_preV (C := RX6) (T := TX6) (N := 8) hM hP hS rfl (by decide) hk1) rfl rfl hl.1 rfl (lv_room (Nat.le_of_ble_eq_true rfl)) dL_wouldBeStale_4 ⟨(Nat.le_of_ble_eq_true rfl), (Nat.le_of_ble_eq_true rfl)⟩) hS ⟨(Nat.le_of_ble_eq_true rfl), (Nat.le_of_ble_eq_true rfl)⟩ (fun E hoE hEm ce q9 n9 H locs hn9 hP hS hcell hcv hcl => ?_) (fun r5 ho7 H locs hP hS => ?_)
  · have hd := hx6 E hoE
    by_cases g9 : E = "java/lang/IndexOutOfBoundsException"
    · subst g9
      have hd := m_i_t rfl hd
      refine m_catch (own := RL) hown hM hEm [] ⟨0, 9, 12, 19⟩ [] htab (fun z hz => nomatch hz) rfl (by decide) (hts (.classLink RL 19 "java/lang/IndexOutOfBoundsException") (by decide +kernel)) hcell hcv hcl ?_
      refine lv_astore_n (lv' := [(3, .ref (q9)), (0, .ref (p0)), (1, .int (p1)), (2, .ref (p2))]) hx hb dL_wouldBeStale_12 rfl hl (by decide) rfl (fun ls hl => ?_)
      refine lv_iconst (v := 1) hx hb dL_wouldBeStale_13 (by decide) ?_
      obtain ⟨e1, e2⟩ := m_s_e hd
      refine W.widen (k := 1) (n := 6) (Nat.le_of_ble_eq_true rfl) (Nat.le_of_ble_eq_true rfl) ?_
      exact W.iret hx hb hr (fun t ht hW => ⟨⟨_, m_sX w3 n9, rfl, ⟨e1, n9, by rw [← e2]; exact hn9, by rw [e2]⟩, by show mP _ _ t.heap; rw [ht]; exact hP⟩, hS.F ht⟩) hS.2.2 dL_wouldBeStale_14
    · have hd := m_i_f g9 hd
      exact nomatch hd
  have hd := hd r5 ho7
  refine lv_i2l (v := r5.toInt64) hx hb dL_wouldBeStale_7 rfl ?_
  obtain ⟨hg8, hd⟩ := m_g_e hd
  refine m_last hx hb hM.1 hP hS hg8 dL_wouldBeStale_8 (fun H locs hP hS => ?_)
  obtain ⟨w9, ew, hd⟩ := m_l_e hd
  have hP : mP G w9 H := by rw [ew]; exact hP
  refine lv_goto (tgt := 15) hx hb dL_wouldBeStale_9 (by decide) ?_
  refine lv_iconst (v := 0) hx hb dL_wouldBeStale_15 (by decide) ?_
  obtain ⟨e1, e2⟩ := m_s_e hd
  refine W.widen (k := 1) (n := 6) (Nat.le_of_ble_eq_true rfl) (Nat.le_of_ble_eq_true rfl) ?_
  exact W.iret hx hb hr (fun t ht hW => ⟨⟨_, w9, rfl, ⟨e1, m_nx w', Nat.le_refl _, e2.trans m_sX_self.symm⟩, by show mP _ _ t.heap; rw [ht]; exact hP⟩, hS.F ht⟩) hS.2.2 dL_wouldBeStale_16


noncomputable def e_L_keep (t0 : Nat × Nat × Nat × Nat) (w : mW) (p0 : Nat) (p1 : Nat) : Option (Int32 × mW) := m_g (m_kd w p0 = 10) <| m_hw (e_X6_keep t0 w p0) (fun E w3 => if E = "java/lang/IllegalStateException" then some (1, w3) else none) fun r5 w3 => m_g (m_kd w3 p1 = 25 ∧ ¬ ((0 : Int32) < 0 ∨ m_ln w3 p1 ≤ (0 : Int32).toNatClampNeg)) <| m_l (m_sL w3 p1 ((0 : Int32).toNatClampNeg) r5.toInt64) fun w9 => some (0, w9)
set_option maxHeartbeats 1000000 in
set_option maxRecDepth 100000 in
theorem c_L_keep (l : Launch) (hst : l.stackTraces = false) (G : m_G) (w w' : mW) (p0 : Nat) (p1 : Nat) (r : Int32) (hd : e_L_keep G.2.2.2 w p0 p1 = some (r, w')) : Met l yL_keep wsL_keep ({ frames := 9, cells := 6, slots := 636, locals := 233 } : Room) (m_Pc G w [.ref (p0), .ref (p1)]) (m_Qn G r w') 6 636 (fun q => G.1 ≤ q) := by
  refine va_MetW (cc := cL_keep) (maxL := 3) (ret := (some .int)) (hh := [(0, 8, 11, 13)]) (by decide +kernel) rfl ?_
  intro p e s m args below meth c s₁ B hml hv
  obtain ⟨rfl, hM, hP⟩ := hv
  have hx := B.exec
  have hb := B.bytes
  have hr := B.returns
  have hts := atoms_spec (ws := wsL_keep) B.pre
  have hown : s.vm.findClass RL = some m.cls := findClass_of_methodNamed B.named
  have hlocks := B.notSynchronized
  have htab := vx_table (x := yL_keep) B (hts (.codeWith yL_keep cL_keep 3 (some .int) [(0, 8, 11, 13)]) (List.mem_cons_self))
  have hS : va_S (fun q => G.1 ≤ q) s.heap s.heap [] := va_S.rf
  have hl := lv_entry ([.ref (p0), .ref (p1)]) (n := 3) (Nat.le_of_ble_eq_true rfl)
  rw [lg_entry_eq]
  generalize (lg_sl ([.ref (p0), .ref (p1)]) ++ List.replicate (3 - (lg_sl ([.ref (p0), .ref (p1)])).length) Slot.unset).toArray = ls at hl ⊢
  have hl : lv_has ls 3 [(0, .ref (p0)), (1, .ref (p1))] := hl
  refine lv_aload_n hx hb dL_keep_0 rfl (lv_at hl 1 rfl) ?_
  refine lv_iconst (v := 0) hx hb dL_keep_1 (by decide) ?_
  refine lv_aload_n hx hb dL_keep_2 rfl (lv_at hl 0 rfl) ?_
  obtain ⟨hk1, hd⟩ := m_g_e hd
  obtain ⟨o2, w3, hc4, hx6, hd⟩ := m_h_e hd
  refine m_callhi (k := 6) (n := 636) (vx_runV (As := []) (rest := [.int (0), .ref (p1)]) ⟨hx, hb, hml, hown, hts⟩ (c_X6_keep l hst G w w3 p0 o2 hc4) (cwV 0 hts gL_keep_X6_keep rfl rfl rfl (by decide +kernel) ⟨(Nat.le_of_ble_eq_true rfl), (Nat.le_of_ble_eq_true rfl)⟩) (m_preV (C := RX6) (T := TX6) (N := 8) hM hP hS rfl (by decide) hk1) rfl rfl hl.1 rfl (lv_room (Nat.le_of_ble_eq_true rfl)) dL_keep_3 ⟨(Nat.le_of_ble_eq_true rfl), (Nat.le_of_ble_eq_true rfl)⟩) hS ⟨(Nat.le_of_ble_eq_true rfl), (Nat.le_of_ble_eq_true rfl)⟩ (fun E hoE hEm ce q9 n9 H locs hn9 hP hS hcell hcv hcl => ?_) (fun r5 ho7 H locs hP hS => ?_)
  · have hd := hx6 E hoE
    by_cases g9 : E = "java/lang/IllegalStateException"
    · subst g9
      have hd := m_i_t rfl hd
      refine m_catch (own := RL) hown hM hEm [] ⟨0, 8, 11, 13⟩ [] htab (fun z hz => nomatch hz) rfl (by decide) (hts (.classLink RL 13 "java/lang/IllegalStateException") (by decide +kernel)) hcell hcv hcl ?_
      refine lv_astore_n (lv' := [(2, .ref (q9)), (0, .ref (p0)), (1, .ref (p1))]) hx hb dL_keep_11 rfl hl (by decide) rfl (fun ls hl => ?_)
      refine lv_iconst (v := 1) hx hb dL_keep_12 (by decide) ?_
      obtain ⟨e1, e2⟩ := m_s_e hd
      refine W.widen (k := 6) (n := 636) (Nat.le_of_ble_eq_true rfl) (Nat.le_of_ble_eq_true rfl) ?_
      exact W.iret hx hb hr (fun t ht hW => ⟨⟨_, m_sX w3 n9, rfl, ⟨e1, n9, by rw [← e2]; exact hn9, by rw [e2]⟩, by show mP _ _ t.heap; rw [ht]; exact hP⟩, hS.F ht⟩) hS.2.2 dL_keep_13
    · have hd := m_i_f g9 hd
      exact nomatch hd
  have hd := hd r5 ho7
  refine lv_i2l (v := r5.toInt64) hx hb dL_keep_6 rfl ?_
  obtain ⟨hg8, hd⟩ := m_g_e hd
  refine m_last hx hb hM.1 hP hS hg8 dL_keep_7 (fun H locs hP hS => ?_)
  obtain ⟨w9, ew, hd⟩ := m_l_e hd
  have hP : mP G w9 H := by rw [ew]; exact hP
  refine lv_goto (tgt := 14) hx hb dL_keep_8 (by decide) ?_
  refine lv_iconst (v := 0) hx hb dL_keep_14 (by decide) ?_
  obtain ⟨e1, e2⟩ := m_s_e hd
  refine W.widen (k := 6) (n := 636) (Nat.le_of_ble_eq_true rfl) (Nat.le_of_ble_eq_true rfl) ?_
  exact W.iret hx hb hr (fun t ht hW => ⟨⟨_, w9, rfl, ⟨e1, m_nx w', Nat.le_refl _, e2.trans m_sX_self.symm⟩, by show mP _ _ t.heap; rw [ht]; exact hP⟩, hS.F ht⟩) hS.2.2 dL_keep_15


noncomputable def e_L_restore (w : mW) (p0 : Nat) (p1 : Int32) (p2 : Nat) : Option (Int32 × mW) := m_g (m_kd w p0 = 10) <| m_hw (e_X6_restore w p0 p1) (fun E w3 => if E = "java/lang/IndexOutOfBoundsException" then some (1, w3) else none) fun r5 w3 => m_g (m_kd w3 p2 = 25 ∧ ¬ ((0 : Int32) < 0 ∨ m_ln w3 p2 ≤ (0 : Int32).toNatClampNeg)) <| m_l (m_sL w3 p2 ((0 : Int32).toNatClampNeg) r5.toInt64) fun w9 => some (0, w9)
set_option maxHeartbeats 1000000 in
set_option maxRecDepth 100000 in
theorem c_L_restore (l : Launch) (hst : l.stackTraces = false) (G : m_G) (w w' : mW) (p0 : Nat) (p1 : Int32) (p2 : Nat) (r : Int32) (hd : e_L_restore w p0 p1 p2 = some (r, w')) : Met l yL_restore wsL_restore ({ frames := 9, cells := 1, slots := 6, locals := 161 } : Room) (m_Pc G w [.ref (p0), .int (p1), .ref (p2)]) (m_Qn G r w') 1 6 (fun q => G.1 ≤ q) := by
  refine va_MetW (cc := cL_restore) (maxL := 4) (ret := (some .int)) (hh := [(0, 9, 12, 19)]) (by decide +kernel) rfl ?_
  intro p e s m args below meth c s₁ B hml hv
  obtain ⟨rfl, hM, hP⟩ := hv
  have hx := B.exec
  have hb := B.bytes
  have hr := B.returns
  have hts := atoms_spec (ws := wsL_restore) B.pre
  have hown : s.vm.findClass RL = some m.cls := findClass_of_methodNamed B.named
  have hlocks := B.notSynchronized
  have htab := vx_table (x := yL_restore) B (hts (.codeWith yL_restore cL_restore 4 (some .int) [(0, 9, 12, 19)]) (List.mem_cons_self))
  have hS : va_S (fun q => G.1 ≤ q) s.heap s.heap [] := va_S.rf
  have hl := lv_entry ([.ref (p0), .int (p1), .ref (p2)]) (n := 4) (Nat.le_of_ble_eq_true rfl)
  rw [lg_entry_eq]
  generalize (lg_sl ([.ref (p0), .int (p1), .ref (p2)]) ++ List.replicate (4 - (lg_sl ([.ref (p0), .int (p1), .ref (p2)])).length) Slot.unset).toArray = ls at hl ⊢
  have hl : lv_has ls 4 [(0, .ref (p0)), (1, .int (p1)), (2, .ref (p2))] := hl
  refine lv_aload_n hx hb dL_restore_0 rfl (lv_at hl 2 rfl) ?_
  refine lv_iconst (v := 0) hx hb dL_restore_1 (by decide) ?_
  refine lv_aload_n hx hb dL_restore_2 rfl (lv_at hl 0 rfl) ?_
  refine lv_iload_n hx hb dL_restore_3 rfl (lv_at hl 1 rfl) ?_
  obtain ⟨hk1, hd⟩ := m_g_e hd
  obtain ⟨o2, w3, hc4, hx6, hd⟩ := m_h_e hd
  refine m_callhi (k := 1) (n := 6) (vx_runV (As := [.int (p1)]) (rest := [.int (0), .ref (p2)]) ⟨hx, hb, hml, hown, hts⟩ (c_X6_restore l hst G w w3 p0 p1 o2 hc4) (cwV 1 hts gL_restore_X6_restore rfl rfl rfl (by decide +kernel) ⟨(Nat.le_of_ble_eq_true rfl), (Nat.le_of_ble_eq_true rfl)⟩) (m_preV (C := RX6) (T := TX6) (N := 8) hM hP hS rfl (by decide) hk1) rfl rfl hl.1 rfl (lv_room (Nat.le_of_ble_eq_true rfl)) dL_restore_4 ⟨(Nat.le_of_ble_eq_true rfl), (Nat.le_of_ble_eq_true rfl)⟩) hS ⟨(Nat.le_of_ble_eq_true rfl), (Nat.le_of_ble_eq_true rfl)⟩ (fun E hoE hEm ce q9 n9 H locs hn9 hP hS hcell hcv hcl => ?_) (fun r5 ho7 H locs hP hS => ?_)
  · have hd := hx6 E hoE
    by_cases g9 : E = "java/lang/IndexOutOfBoundsException"
    · subst g9
      have hd := m_i_t rfl hd
      refine m_catch (own := RL) hown hM hEm [] ⟨0, 9, 12, 19⟩ [] htab (fun z hz => nomatch hz) rfl (by decide) (hts (.classLink RL 19 "java/lang/IndexOutOfBoundsException") (by decide +kernel)) hcell hcv hcl ?_
      refine lv_astore_n (lv' := [(3, .ref (q9)), (0, .ref (p0)), (1, .int (p1)), (2, .ref (p2))]) hx hb dL_restore_12 rfl hl (by decide) rfl (fun ls hl => ?_)
      refine lv_iconst (v := 1) hx hb dL_restore_13 (by decide) ?_
      obtain ⟨e1, e2⟩ := m_s_e hd
      refine W.widen (k := 1) (n := 6) (Nat.le_of_ble_eq_true rfl) (Nat.le_of_ble_eq_true rfl) ?_
      exact W.iret hx hb hr (fun t ht hW => ⟨⟨_, m_sX w3 n9, rfl, ⟨e1, n9, by rw [← e2]; exact hn9, by rw [e2]⟩, by show mP _ _ t.heap; rw [ht]; exact hP⟩, hS.F ht⟩) hS.2.2 dL_restore_14
    · have hd := m_i_f g9 hd
      exact nomatch hd
  have hd := hd r5 ho7
  refine lv_i2l (v := r5.toInt64) hx hb dL_restore_7 rfl ?_
  obtain ⟨hg8, hd⟩ := m_g_e hd
  refine m_last hx hb hM.1 hP hS hg8 dL_restore_8 (fun H locs hP hS => ?_)
  obtain ⟨w9, ew, hd⟩ := m_l_e hd
  have hP : mP G w9 H := by rw [ew]; exact hP
  refine lv_goto (tgt := 15) hx hb dL_restore_9 (by decide) ?_
  refine lv_iconst (v := 0) hx hb dL_restore_15 (by decide) ?_
  obtain ⟨e1, e2⟩ := m_s_e hd
  refine W.widen (k := 1) (n := 6) (Nat.le_of_ble_eq_true rfl) (Nat.le_of_ble_eq_true rfl) ?_
  exact W.iret hx hb hr (fun t ht hW => ⟨⟨_, w9, rfl, ⟨e1, m_nx w', Nat.le_refl _, e2.trans m_sX_self.symm⟩, by show mP _ _ t.heap; rw [ht]; exact hP⟩, hS.F ht⟩) hS.2.2 dL_restore_16


noncomputable def e_L_isSetInOrder_15 (w : mW) (s0 : Int64) (s1 : Int32) (s2 : Nat) : Option (Int32 × mW) := m_g (m_kd w s2 = 25 ∧ ¬ (s1 < 0 ∨ m_ln w s2 ≤ s1.toNatClampNeg)) <| m_l (m_sL w s2 (s1.toNatClampNeg) s0) fun w110 => some (0, w110)
noncomputable def e_L_isSetInOrder (w : mW) (p0 : Nat) (p1 : Int32) (p2 : Nat) : Option (Int32 × mW) := m_g (m_kd w p0 = 10) <| m_hw (e_X6_isSetInOrder w p0 p1) (fun E w3 => if E = "java/lang/IndexOutOfBoundsException" then some (1, w3) else none) fun r5 w3 => if r5 = (0 : Int32) then (e_L_isSetInOrder_15 w3 0 0 p2) else (e_L_isSetInOrder_15 w3 1 0 p2)
set_option maxHeartbeats 1000000 in
set_option maxRecDepth 100000 in
theorem c_L_isSetInOrder (l : Launch) (hst : l.stackTraces = false) (G : m_G) (w w' : mW) (p0 : Nat) (p1 : Int32) (p2 : Nat) (r : Int32) (hd : e_L_isSetInOrder w p0 p1 p2 = some (r, w')) : Met l yL_isSetInOrder wsL_isSetInOrder ({ frames := 10, cells := 1, slots := 6, locals := 181 } : Room) (m_Pc G w [.ref (p0), .int (p1), .ref (p2)]) (m_Qn G r w') 1 6 (fun q => G.1 ≤ q) := by
  refine va_MetW (cc := cL_isSetInOrder) (maxL := 4) (ret := (some .int)) (hh := [(0, 16, 19, 19)]) (by decide +kernel) rfl ?_
  intro p e s m args below meth c s₁ B hml hv
  obtain ⟨rfl, hM, hP⟩ := hv
  have hx := B.exec
  have hb := B.bytes
  have hr := B.returns
  have hts := atoms_spec (ws := wsL_isSetInOrder) B.pre
  have hown : s.vm.findClass RL = some m.cls := findClass_of_methodNamed B.named
  have hlocks := B.notSynchronized
  have htab := vx_table (x := yL_isSetInOrder) B (hts (.codeWith yL_isSetInOrder cL_isSetInOrder 4 (some .int) [(0, 16, 19, 19)]) (List.mem_cons_self))
  have hS : va_S (fun q => G.1 ≤ q) s.heap s.heap [] := va_S.rf
  have J15 : ∀ (w : mW) (s0 : Int64) (s1 : Int32) (s2 : Nat) (H : Heap) (locs : List Loc) (ls : Array Slot), e_L_isSetInOrder_15 w s0 s1 s2 = some (r, w') → mP G w H → va_S (fun q => G.1 ≤ q) s.heap H locs → lv_has ls 4 [] → W p l e ({ frames := 10, cells := 1, slots := 6, locals := 181 } : Room) s m ([.ref (p0), .int (p1), .ref (p2)] : List Value).toArray below meth c H locs 1 6 (MQ below (m_Qn G r w') ([.ref (p0), .int (p1), .ref (p2)] : List Value).toArray s 1 6 (fun q => G.1 ≤ q)) (F0 m 15 ls [.long (s0), .int (s1), .ref (s2)]) := by
    intro w s0 s1 s2 H locs ls hd hP hS hl
    obtain ⟨hg109, hd⟩ := m_g_e hd
    refine m_last hx hb hM.1 hP hS hg109 dL_isSetInOrder_15 (fun H locs hP hS => ?_)
    obtain ⟨w110, ew, hd⟩ := m_l_e hd
    have hP : mP G w110 H := by rw [ew]; exact hP
    refine lv_goto (tgt := 22) hx hb dL_isSetInOrder_16 (by decide) ?_
    refine lv_iconst (v := 0) hx hb dL_isSetInOrder_22 (by decide) ?_
    obtain ⟨e1, e2⟩ := m_s_e hd
    refine W.widen (k := 1) (n := 6) (Nat.le_of_ble_eq_true rfl) (Nat.le_of_ble_eq_true rfl) ?_
    exact W.iret hx hb hr (fun t ht hW => ⟨⟨_, w110, rfl, ⟨e1, m_nx w', Nat.le_refl _, e2.trans m_sX_self.symm⟩, by show mP _ _ t.heap; rw [ht]; exact hP⟩, hS.F ht⟩) hS.2.2 dL_isSetInOrder_23
  have hl := lv_entry ([.ref (p0), .int (p1), .ref (p2)]) (n := 4) (Nat.le_of_ble_eq_true rfl)
  rw [lg_entry_eq]
  generalize (lg_sl ([.ref (p0), .int (p1), .ref (p2)]) ++ List.replicate (4 - (lg_sl ([.ref (p0), .int (p1), .ref (p2)])).length) Slot.unset).toArray = ls at hl ⊢
  have hl : lv_has ls 4 [(0, .ref (p0)), (1, .int (p1)), (2, .ref (p2))] := hl
  refine lv_aload_n hx hb dL_isSetInOrder_0 rfl (lv_at hl 2 rfl) ?_
  refine lv_iconst (v := 0) hx hb dL_isSetInOrder_1 (by decide) ?_
  refine lv_aload_n hx hb dL_isSetInOrder_2 rfl (lv_at hl 0 rfl) ?_
  refine lv_iload_n hx hb dL_isSetInOrder_3 rfl (lv_at hl 1 rfl) ?_
  obtain ⟨hk1, hd⟩ := m_g_e hd
  obtain ⟨o2, w3, hc4, hx6, hd⟩ := m_h_e hd
  refine m_callhi (k := 1) (n := 6) (vx_runV (As := [.int (p1)]) (rest := [.int (0), .ref (p2)]) ⟨hx, hb, hml, hown, hts⟩ (c_X6_isSetInOrder l hst G w w3 p0 p1 o2 hc4) (cwV 1 hts gL_isSetInOrder_X6_isSetInOrder rfl rfl rfl (by decide +kernel) ⟨(Nat.le_of_ble_eq_true rfl), (Nat.le_of_ble_eq_true rfl)⟩) (m_preV (C := RX6) (T := TX6) (N := 8) hM hP hS rfl (by decide) hk1) rfl rfl hl.1 rfl (lv_room (Nat.le_of_ble_eq_true rfl)) dL_isSetInOrder_4 ⟨(Nat.le_of_ble_eq_true rfl), (Nat.le_of_ble_eq_true rfl)⟩) hS ⟨(Nat.le_of_ble_eq_true rfl), (Nat.le_of_ble_eq_true rfl)⟩ (fun E hoE hEm ce q9 n9 H locs hn9 hP hS hcell hcv hcl => ?_) (fun r5 ho7 H locs hP hS => ?_)
  · have hd := hx6 E hoE
    by_cases g9 : E = "java/lang/IndexOutOfBoundsException"
    · subst g9
      have hd := m_i_t rfl hd
      refine m_catch (own := RL) hown hM hEm [] ⟨0, 16, 19, 19⟩ [] htab (fun z hz => nomatch hz) rfl (by decide) (hts (.classLink RL 19 "java/lang/IndexOutOfBoundsException") (by decide +kernel)) hcell hcv hcl ?_
      refine lv_astore_n (lv' := [(3, .ref (q9)), (0, .ref (p0)), (1, .int (p1)), (2, .ref (p2))]) hx hb dL_isSetInOrder_19 rfl hl (by decide) rfl (fun ls hl => ?_)
      refine lv_iconst (v := 1) hx hb dL_isSetInOrder_20 (by decide) ?_
      obtain ⟨e1, e2⟩ := m_s_e hd
      refine W.widen (k := 1) (n := 6) (Nat.le_of_ble_eq_true rfl) (Nat.le_of_ble_eq_true rfl) ?_
      exact W.iret hx hb hr (fun t ht hW => ⟨⟨_, m_sX w3 n9, rfl, ⟨e1, n9, by rw [← e2]; exact hn9, by rw [e2]⟩, by show mP _ _ t.heap; rw [ht]; exact hP⟩, hS.F ht⟩) hS.2.2 dL_isSetInOrder_21
    · have hd := m_i_f g9 hd
      exact nomatch hd
  have hd := hd r5 ho7
  refine lv_if_eq (tgt := 14) hx hb dL_isSetInOrder_7 (by decide) (fun c8 => ?_) (fun c8 => ?_)
  · have hd := m_i_t c8 hd
    refine lv_lconst (v := 0) hx hb dL_isSetInOrder_14 (by decide) ?_
    refine W.widen (k := 1) (n := 6) (Nat.le_of_ble_eq_true rfl) (Nat.le_of_ble_eq_true rfl) ?_
    exact J15 w3 0 0 p2 _ _ _ hd hP hS (lv_sub hl [] rfl)
  · have hd := m_i_f c8 hd
    refine lv_lconst (v := 1) hx hb dL_isSetInOrder_10 (by decide) ?_
    refine lv_goto (tgt := 15) hx hb dL_isSetInOrder_11 (by decide) ?_
    refine W.widen (k := 1) (n := 6) (Nat.le_of_ble_eq_true rfl) (Nat.le_of_ble_eq_true rfl) ?_
    exact J15 w3 1 0 p2 _ _ _ hd hP hS (lv_sub hl [] rfl)


noncomputable def e_L_valueInOrder (w : mW) (p0 : Nat) (p1 : Int32) (p2 : Nat) : Option (Int32 × mW) := m_g (m_kd w p0 = 10) <| m_hw (e_X6_valueInOrder w p0 p1) (fun E w3 => if E = "java/lang/IndexOutOfBoundsException" then some (1, w3) else (if E = "java/lang/IllegalStateException" then some (2, w3) else none)) fun r5 w3 => m_g (m_kd w3 p2 = 25 ∧ ¬ ((0 : Int32) < 0 ∨ m_ln w3 p2 ≤ (0 : Int32).toNatClampNeg)) <| m_l (m_sL w3 p2 ((0 : Int32).toNatClampNeg) r5.toInt64) fun w9 => some (0, w9)
set_option maxHeartbeats 1000000 in
set_option maxRecDepth 100000 in
theorem c_L_valueInOrder (l : Launch) (hst : l.stackTraces = false) (G : m_G) (w w' : mW) (p0 : Nat) (p1 : Int32) (p2 : Nat) (r : Int32) (hd : e_L_valueInOrder w p0 p1 p2 = some (r, w')) : Met l yL_valueInOrder wsL_valueInOrder ({ frames := 10, cells := 2, slots := 12, locals := 182 } : Room) (m_Pc G w [.ref (p0), .int (p1), .ref (p2)]) (m_Qn G r w') 2 12 (fun q => G.1 ≤ q) := by
  refine va_MetW (cc := cL_valueInOrder) (maxL := 4) (ret := (some .int)) (hh := [(0, 9, 12, 19), (0, 9, 15, 13)]) (by decide +kernel) rfl ?_
  intro p e s m args below meth c s₁ B hml hv
  obtain ⟨rfl, hM, hP⟩ := hv
  have hx := B.exec
  have hb := B.bytes
  have hr := B.returns
  have hts := atoms_spec (ws := wsL_valueInOrder) B.pre
  have hown : s.vm.findClass RL = some m.cls := findClass_of_methodNamed B.named
  have hlocks := B.notSynchronized
  have htab := vx_table (x := yL_valueInOrder) B (hts (.codeWith yL_valueInOrder cL_valueInOrder 4 (some .int) [(0, 9, 12, 19), (0, 9, 15, 13)]) (List.mem_cons_self))
  have hS : va_S (fun q => G.1 ≤ q) s.heap s.heap [] := va_S.rf
  have hl := lv_entry ([.ref (p0), .int (p1), .ref (p2)]) (n := 4) (Nat.le_of_ble_eq_true rfl)
  rw [lg_entry_eq]
  generalize (lg_sl ([.ref (p0), .int (p1), .ref (p2)]) ++ List.replicate (4 - (lg_sl ([.ref (p0), .int (p1), .ref (p2)])).length) Slot.unset).toArray = ls at hl ⊢
  have hl : lv_has ls 4 [(0, .ref (p0)), (1, .int (p1)), (2, .ref (p2))] := hl
  refine lv_aload_n hx hb dL_valueInOrder_0 rfl (lv_at hl 2 rfl) ?_
  refine lv_iconst (v := 0) hx hb dL_valueInOrder_1 (by decide) ?_
  refine lv_aload_n hx hb dL_valueInOrder_2 rfl (lv_at hl 0 rfl) ?_
  refine lv_iload_n hx hb dL_valueInOrder_3 rfl (lv_at hl 1 rfl) ?_
  obtain ⟨hk1, hd⟩ := m_g_e hd
  obtain ⟨o2, w3, hc4, hx6, hd⟩ := m_h_e hd
  refine m_callhi (k := 2) (n := 12) (vx_runV (As := [.int (p1)]) (rest := [.int (0), .ref (p2)]) ⟨hx, hb, hml, hown, hts⟩ (c_X6_valueInOrder l hst G w w3 p0 p1 o2 hc4) (cwV 1 hts gL_valueInOrder_X6_valueInOrder rfl rfl rfl (by decide +kernel) ⟨(Nat.le_of_ble_eq_true rfl), (Nat.le_of_ble_eq_true rfl)⟩) (m_preV (C := RX6) (T := TX6) (N := 8) hM hP hS rfl (by decide) hk1) rfl rfl hl.1 rfl (lv_room (Nat.le_of_ble_eq_true rfl)) dL_valueInOrder_4 ⟨(Nat.le_of_ble_eq_true rfl), (Nat.le_of_ble_eq_true rfl)⟩) hS ⟨(Nat.le_of_ble_eq_true rfl), (Nat.le_of_ble_eq_true rfl)⟩ (fun E hoE hEm ce q9 n9 H locs hn9 hP hS hcell hcv hcl => ?_) (fun r5 ho7 H locs hP hS => ?_)
  · have hd := hx6 E hoE
    by_cases g9 : E = "java/lang/IndexOutOfBoundsException"
    · subst g9
      have hd := m_i_t rfl hd
      refine m_catch (own := RL) hown hM hEm [] ⟨0, 9, 12, 19⟩ [⟨0, 9, 15, 13⟩] htab (fun z hz => nomatch hz) rfl (by decide) (hts (.classLink RL 19 "java/lang/IndexOutOfBoundsException") (by decide +kernel)) hcell hcv hcl ?_
      refine lv_astore_n (lv' := [(3, .ref (q9)), (0, .ref (p0)), (1, .int (p1)), (2, .ref (p2))]) hx hb dL_valueInOrder_12 rfl hl (by decide) rfl (fun ls hl => ?_)
      refine lv_iconst (v := 1) hx hb dL_valueInOrder_13 (by decide) ?_
      obtain ⟨e1, e2⟩ := m_s_e hd
      refine W.widen (k := 2) (n := 12) (Nat.le_of_ble_eq_true rfl) (Nat.le_of_ble_eq_true rfl) ?_
      exact W.iret hx hb hr (fun t ht hW => ⟨⟨_, m_sX w3 n9, rfl, ⟨e1, n9, by rw [← e2]; exact hn9, by rw [e2]⟩, by show mP _ _ t.heap; rw [ht]; exact hP⟩, hS.F ht⟩) hS.2.2 dL_valueInOrder_14
    · have hd := m_i_f g9 hd
      by_cases g9 : E = "java/lang/IllegalStateException"
      · subst g9
        have hd := m_i_t rfl hd
        refine m_catch (own := RL) hown hM hEm [⟨0, 9, 12, 19⟩] ⟨0, 9, 15, 13⟩ [] htab (fun z hz => by
          simp only [List.mem_cons, List.mem_nil_iff, or_false] at hz
          rcases hz with rfl
          · exact ⟨by decide, "java/lang/IndexOutOfBoundsException", by decide, (hts (.classLink RL 19 "java/lang/IndexOutOfBoundsException") (by decide +kernel)), by decide⟩) rfl (by decide) (hts (.classLink RL 13 "java/lang/IllegalStateException") (by decide +kernel)) hcell hcv hcl ?_
        refine lv_astore_n (lv' := [(3, .ref (q9)), (0, .ref (p0)), (1, .int (p1)), (2, .ref (p2))]) hx hb dL_valueInOrder_15 rfl hl (by decide) rfl (fun ls hl => ?_)
        refine lv_iconst (v := 2) hx hb dL_valueInOrder_16 (by decide) ?_
        obtain ⟨e1, e2⟩ := m_s_e hd
        refine W.widen (k := 2) (n := 12) (Nat.le_of_ble_eq_true rfl) (Nat.le_of_ble_eq_true rfl) ?_
        exact W.iret hx hb hr (fun t ht hW => ⟨⟨_, m_sX w3 n9, rfl, ⟨e1, n9, by rw [← e2]; exact hn9, by rw [e2]⟩, by show mP _ _ t.heap; rw [ht]; exact hP⟩, hS.F ht⟩) hS.2.2 dL_valueInOrder_17
      · have hd := m_i_f g9 hd
        exact nomatch hd
  have hd := hd r5 ho7
  refine lv_i2l (v := r5.toInt64) hx hb dL_valueInOrder_7 rfl ?_
  obtain ⟨hg8, hd⟩ := m_g_e hd
  refine m_last hx hb hM.1 hP hS hg8 dL_valueInOrder_8 (fun H locs hP hS => ?_)
  obtain ⟨w9, ew, hd⟩ := m_l_e hd
  have hP : mP G w9 H := by rw [ew]; exact hP
  refine lv_goto (tgt := 18) hx hb dL_valueInOrder_9 (by decide) ?_
  refine lv_iconst (v := 0) hx hb dL_valueInOrder_18 (by decide) ?_
  obtain ⟨e1, e2⟩ := m_s_e hd
  refine W.widen (k := 2) (n := 12) (Nat.le_of_ble_eq_true rfl) (Nat.le_of_ble_eq_true rfl) ?_
  exact W.iret hx hb hr (fun t ht hW => ⟨⟨_, w9, rfl, ⟨e1, m_nx w', Nat.le_refl _, e2.trans m_sX_self.symm⟩, by show mP _ _ t.heap; rw [ht]; exact hP⟩, hS.F ht⟩) hS.2.2 dL_valueInOrder_19


noncomputable def e_L_logAt (w : mW) (p0 : Nat) (p1 : Int32) (p2 : Nat) : Option (Int32 × mW) := m_g (m_kd w p0 = 10) <| m_hw (e_X6_logAt w p0 p1) (fun E w3 => if E = "java/lang/IndexOutOfBoundsException" then some (1, w3) else none) fun r5 w3 => m_g (m_kd w3 p2 = 25 ∧ ¬ ((0 : Int32) < 0 ∨ m_ln w3 p2 ≤ (0 : Int32).toNatClampNeg)) <| m_l (m_sL w3 p2 ((0 : Int32).toNatClampNeg) r5.toInt64) fun w9 => some (0, w9)
set_option maxHeartbeats 1000000 in
set_option maxRecDepth 100000 in
theorem c_L_logAt (l : Launch) (hst : l.stackTraces = false) (G : m_G) (w w' : mW) (p0 : Nat) (p1 : Int32) (p2 : Nat) (r : Int32) (hd : e_L_logAt w p0 p1 p2 = some (r, w')) : Met l yL_logAt wsL_logAt ({ frames := 9, cells := 1, slots := 6, locals := 162 } : Room) (m_Pc G w [.ref (p0), .int (p1), .ref (p2)]) (m_Qn G r w') 1 6 (fun q => G.1 ≤ q) := by
  refine va_MetW (cc := cL_logAt) (maxL := 4) (ret := (some .int)) (hh := [(0, 9, 12, 19)]) (by decide +kernel) rfl ?_
  intro p e s m args below meth c s₁ B hml hv
  obtain ⟨rfl, hM, hP⟩ := hv
  have hx := B.exec
  have hb := B.bytes
  have hr := B.returns
  have hts := atoms_spec (ws := wsL_logAt) B.pre
  have hown : s.vm.findClass RL = some m.cls := findClass_of_methodNamed B.named
  have hlocks := B.notSynchronized
  have htab := vx_table (x := yL_logAt) B (hts (.codeWith yL_logAt cL_logAt 4 (some .int) [(0, 9, 12, 19)]) (List.mem_cons_self))
  have hS : va_S (fun q => G.1 ≤ q) s.heap s.heap [] := va_S.rf
  have hl := lv_entry ([.ref (p0), .int (p1), .ref (p2)]) (n := 4) (Nat.le_of_ble_eq_true rfl)
  rw [lg_entry_eq]
  generalize (lg_sl ([.ref (p0), .int (p1), .ref (p2)]) ++ List.replicate (4 - (lg_sl ([.ref (p0), .int (p1), .ref (p2)])).length) Slot.unset).toArray = ls at hl ⊢
  have hl : lv_has ls 4 [(0, .ref (p0)), (1, .int (p1)), (2, .ref (p2))] := hl
  refine lv_aload_n hx hb dL_logAt_0 rfl (lv_at hl 2 rfl) ?_
  refine lv_iconst (v := 0) hx hb dL_logAt_1 (by decide) ?_
  refine lv_aload_n hx hb dL_logAt_2 rfl (lv_at hl 0 rfl) ?_
  refine lv_iload_n hx hb dL_logAt_3 rfl (lv_at hl 1 rfl) ?_
  obtain ⟨hk1, hd⟩ := m_g_e hd
  obtain ⟨o2, w3, hc4, hx6, hd⟩ := m_h_e hd
  refine m_callhi (k := 1) (n := 6) (vx_runV (As := [.int (p1)]) (rest := [.int (0), .ref (p2)]) ⟨hx, hb, hml, hown, hts⟩ (c_X6_logAt l hst G w w3 p0 p1 o2 hc4) (cwV 1 hts gL_logAt_X6_logAt rfl rfl rfl (by decide +kernel) ⟨(Nat.le_of_ble_eq_true rfl), (Nat.le_of_ble_eq_true rfl)⟩) (m_preV (C := RX6) (T := TX6) (N := 8) hM hP hS rfl (by decide) hk1) rfl rfl hl.1 rfl (lv_room (Nat.le_of_ble_eq_true rfl)) dL_logAt_4 ⟨(Nat.le_of_ble_eq_true rfl), (Nat.le_of_ble_eq_true rfl)⟩) hS ⟨(Nat.le_of_ble_eq_true rfl), (Nat.le_of_ble_eq_true rfl)⟩ (fun E hoE hEm ce q9 n9 H locs hn9 hP hS hcell hcv hcl => ?_) (fun r5 ho7 H locs hP hS => ?_)
  · have hd := hx6 E hoE
    by_cases g9 : E = "java/lang/IndexOutOfBoundsException"
    · subst g9
      have hd := m_i_t rfl hd
      refine m_catch (own := RL) hown hM hEm [] ⟨0, 9, 12, 19⟩ [] htab (fun z hz => nomatch hz) rfl (by decide) (hts (.classLink RL 19 "java/lang/IndexOutOfBoundsException") (by decide +kernel)) hcell hcv hcl ?_
      refine lv_astore_n (lv' := [(3, .ref (q9)), (0, .ref (p0)), (1, .int (p1)), (2, .ref (p2))]) hx hb dL_logAt_12 rfl hl (by decide) rfl (fun ls hl => ?_)
      refine lv_iconst (v := 1) hx hb dL_logAt_13 (by decide) ?_
      obtain ⟨e1, e2⟩ := m_s_e hd
      refine W.widen (k := 1) (n := 6) (Nat.le_of_ble_eq_true rfl) (Nat.le_of_ble_eq_true rfl) ?_
      exact W.iret hx hb hr (fun t ht hW => ⟨⟨_, m_sX w3 n9, rfl, ⟨e1, n9, by rw [← e2]; exact hn9, by rw [e2]⟩, by show mP _ _ t.heap; rw [ht]; exact hP⟩, hS.F ht⟩) hS.2.2 dL_logAt_14
    · have hd := m_i_f g9 hd
      exact nomatch hd
  have hd := hd r5 ho7
  refine lv_i2l (v := r5.toInt64) hx hb dL_logAt_7 rfl ?_
  obtain ⟨hg8, hd⟩ := m_g_e hd
  refine m_last hx hb hM.1 hP hS hg8 dL_logAt_8 (fun H locs hP hS => ?_)
  obtain ⟨w9, ew, hd⟩ := m_l_e hd
  have hP : mP G w9 H := by rw [ew]; exact hP
  refine lv_goto (tgt := 15) hx hb dL_logAt_9 (by decide) ?_
  refine lv_iconst (v := 0) hx hb dL_logAt_15 (by decide) ?_
  obtain ⟨e1, e2⟩ := m_s_e hd
  refine W.widen (k := 1) (n := 6) (Nat.le_of_ble_eq_true rfl) (Nat.le_of_ble_eq_true rfl) ?_
  exact W.iret hx hb hr (fun t ht hW => ⟨⟨_, w9, rfl, ⟨e1, m_nx w', Nat.le_refl _, e2.trans m_sX_self.symm⟩, by show mP _ _ t.heap; rw [ht]; exact hP⟩, hS.F ht⟩) hS.2.2 dL_logAt_16


noncomputable def e_L_forget (w : mW) (p0 : Nat) (p1 : Int32) (p2 : Nat) : Option (Int32 × mW) := m_g (m_kd w p0 = 10) <| m_hw (e_X6_forget w p0 p1) (fun E w3 => if E = "java/lang/IndexOutOfBoundsException" then some (1, w3) else none) fun r5 w3 => m_g (m_kd w3 p2 = 25 ∧ ¬ ((0 : Int32) < 0 ∨ m_ln w3 p2 ≤ (0 : Int32).toNatClampNeg)) <| m_l (m_sL w3 p2 ((0 : Int32).toNatClampNeg) r5.toInt64) fun w9 => some (0, w9)
set_option maxHeartbeats 1000000 in
set_option maxRecDepth 100000 in
theorem c_L_forget (l : Launch) (hst : l.stackTraces = false) (G : m_G) (w w' : mW) (p0 : Nat) (p1 : Int32) (p2 : Nat) (r : Int32) (hd : e_L_forget w p0 p1 p2 = some (r, w')) : Met l yL_forget wsL_forget ({ frames := 10, cells := 1, slots := 6, locals := 184 } : Room) (m_Pc G w [.ref (p0), .int (p1), .ref (p2)]) (m_Qn G r w') 1 6 (fun q => G.1 ≤ q) := by
  refine va_MetW (cc := cL_forget) (maxL := 4) (ret := (some .int)) (hh := [(0, 9, 12, 19)]) (by decide +kernel) rfl ?_
  intro p e s m args below meth c s₁ B hml hv
  obtain ⟨rfl, hM, hP⟩ := hv
  have hx := B.exec
  have hb := B.bytes
  have hr := B.returns
  have hts := atoms_spec (ws := wsL_forget) B.pre
  have hown : s.vm.findClass RL = some m.cls := findClass_of_methodNamed B.named
  have hlocks := B.notSynchronized
  have htab := vx_table (x := yL_forget) B (hts (.codeWith yL_forget cL_forget 4 (some .int) [(0, 9, 12, 19)]) (List.mem_cons_self))
  have hS : va_S (fun q => G.1 ≤ q) s.heap s.heap [] := va_S.rf
  have hl := lv_entry ([.ref (p0), .int (p1), .ref (p2)]) (n := 4) (Nat.le_of_ble_eq_true rfl)
  rw [lg_entry_eq]
  generalize (lg_sl ([.ref (p0), .int (p1), .ref (p2)]) ++ List.replicate (4 - (lg_sl ([.ref (p0), .int (p1), .ref (p2)])).length) Slot.unset).toArray = ls at hl ⊢
  have hl : lv_has ls 4 [(0, .ref (p0)), (1, .int (p1)), (2, .ref (p2))] := hl
  refine lv_aload_n hx hb dL_forget_0 rfl (lv_at hl 2 rfl) ?_
  refine lv_iconst (v := 0) hx hb dL_forget_1 (by decide) ?_
  refine lv_aload_n hx hb dL_forget_2 rfl (lv_at hl 0 rfl) ?_
  refine lv_iload_n hx hb dL_forget_3 rfl (lv_at hl 1 rfl) ?_
  obtain ⟨hk1, hd⟩ := m_g_e hd
  obtain ⟨o2, w3, hc4, hx6, hd⟩ := m_h_e hd
  refine m_callhi (k := 1) (n := 6) (vx_runV (As := [.int (p1)]) (rest := [.int (0), .ref (p2)]) ⟨hx, hb, hml, hown, hts⟩ (c_X6_forget l hst G w w3 p0 p1 o2 hc4) (cwV 1 hts gL_forget_X6_forget rfl rfl rfl (by decide +kernel) ⟨(Nat.le_of_ble_eq_true rfl), (Nat.le_of_ble_eq_true rfl)⟩) (m_preV (C := RX6) (T := TX6) (N := 8) hM hP hS rfl (by decide) hk1) rfl rfl hl.1 rfl (lv_room (Nat.le_of_ble_eq_true rfl)) dL_forget_4 ⟨(Nat.le_of_ble_eq_true rfl), (Nat.le_of_ble_eq_true rfl)⟩) hS ⟨(Nat.le_of_ble_eq_true rfl), (Nat.le_of_ble_eq_true rfl)⟩ (fun E hoE hEm ce q9 n9 H locs hn9 hP hS hcell hcv hcl => ?_) (fun r5 ho7 H locs hP hS => ?_)
  · have hd := hx6 E hoE
    by_cases g9 : E = "java/lang/IndexOutOfBoundsException"
    · subst g9
      have hd := m_i_t rfl hd
      refine m_catch (own := RL) hown hM hEm [] ⟨0, 9, 12, 19⟩ [] htab (fun z hz => nomatch hz) rfl (by decide) (hts (.classLink RL 19 "java/lang/IndexOutOfBoundsException") (by decide +kernel)) hcell hcv hcl ?_
      refine lv_astore_n (lv' := [(3, .ref (q9)), (0, .ref (p0)), (1, .int (p1)), (2, .ref (p2))]) hx hb dL_forget_12 rfl hl (by decide) rfl (fun ls hl => ?_)
      refine lv_iconst (v := 1) hx hb dL_forget_13 (by decide) ?_
      obtain ⟨e1, e2⟩ := m_s_e hd
      refine W.widen (k := 1) (n := 6) (Nat.le_of_ble_eq_true rfl) (Nat.le_of_ble_eq_true rfl) ?_
      exact W.iret hx hb hr (fun t ht hW => ⟨⟨_, m_sX w3 n9, rfl, ⟨e1, n9, by rw [← e2]; exact hn9, by rw [e2]⟩, by show mP _ _ t.heap; rw [ht]; exact hP⟩, hS.F ht⟩) hS.2.2 dL_forget_14
    · have hd := m_i_f g9 hd
      exact nomatch hd
  have hd := hd r5 ho7
  refine lv_i2l (v := r5.toInt64) hx hb dL_forget_7 rfl ?_
  obtain ⟨hg8, hd⟩ := m_g_e hd
  refine m_last hx hb hM.1 hP hS hg8 dL_forget_8 (fun H locs hP hS => ?_)
  obtain ⟨w9, ew, hd⟩ := m_l_e hd
  have hP : mP G w9 H := by rw [ew]; exact hP
  refine lv_goto (tgt := 15) hx hb dL_forget_9 (by decide) ?_
  refine lv_iconst (v := 0) hx hb dL_forget_15 (by decide) ?_
  obtain ⟨e1, e2⟩ := m_s_e hd
  refine W.widen (k := 1) (n := 6) (Nat.le_of_ble_eq_true rfl) (Nat.le_of_ble_eq_true rfl) ?_
  exact W.iret hx hb hr (fun t ht hW => ⟨⟨_, w9, rfl, ⟨e1, m_nx w', Nat.le_refl _, e2.trans m_sX_self.symm⟩, by show mP _ _ t.heap; rw [ht]; exact hP⟩, hS.F ht⟩) hS.2.2 dL_forget_16
