noncomputable def e_Jxa1e45_init_da8c8 (w : mW) (h : Nat) : Option (Unit × mW) := some ((), w)
set_option maxHeartbeats 1000000 in
set_option maxRecDepth 100000 in
theorem c_Jxa1e45_init_da8c8 (l : Launch) (G : m_G) (w w' : mW) (h : Nat) (r : Unit) (hd : e_Jxa1e45_init_da8c8 w h = some (r, w')) : Met l yJxa1e45_init_da8c8 wsJxa1e45_init_da8c8 ({ frames := 1, cells := 0, slots := 0, locals := 24 } : Room) (m_Pc G w [.ref (h)]) (m_Qv G r w') 0 0 (fun q => G.1 ≤ q) := by
  refine Met.ofW (cc := cJxa1e45_init_da8c8) (maxL := 1) (ret := none) (by decide +kernel) rfl ?_
  intro p e s m args below meth c s₁ B hml hv
  obtain ⟨rfl, hM, hP⟩ := hv
  have hx := B.exec
  have hb := B.bytes
  have hr := B.returns
  have hts := atoms_spec (ws := wsJxa1e45_init_da8c8) B.pre
  have hown : s.vm.findClass RJxa1e45 = some m.cls := findClass_of_methodNamed B.named
  have hlocks := B.notSynchronized
  have hin : meth.name = "<init>" := (name_of_methodNamed B.named B.method).1
  have hS : va_S (fun q => G.1 ≤ q) s.heap s.heap [] := va_S.rf
  have hl := lv_entry ([.ref (h)]) (n := 1) (Nat.le_of_ble_eq_true rfl)
  rw [lg_entry_eq]
  generalize (lg_sl ([.ref (h)]) ++ List.replicate (1 - (lg_sl ([.ref (h)])).length) Slot.unset).toArray = ls at hl ⊢
  have hl : lv_has ls 1 [(0, .ref (h))] := hl
  refine lv_aload_n hx hb dJxa1e45_init_da8c8_0 rfl (lv_at hl 0 rfl) ?_
  refine W.objInit hx hb hown (hts (.methodLink RJxa1e45 1 objectInit) (by decide +kernel)) (hts (.instanceMethod objectInit) (by decide +kernel)) (hts (.code objectInit ⟨#[0xb1]⟩ 1 none) (by decide +kernel)) rfl (by rw [hml]; exact hl.1) rfl dJxa1e45_init_da8c8_1 (Nat.le_of_ble_eq_true rfl) (Nat.le_of_ble_eq_true rfl) ?_
  refine W.eq (g2 := F0 m 4 ls []) rfl ?_
  obtain ⟨e1, e2⟩ := m_s_e hd
  refine W.widen (k := 0) (n := 0) (Nat.le_of_ble_eq_true rfl) (Nat.le_of_ble_eq_true rfl) ?_
  exact W.vret hx hb hr (fun t ht hW => ⟨⟨w, rfl, e2, by show mP _ _ t.heap; rw [ht]; exact hP⟩, hS.F ht⟩) hS.2.2 dJxa1e45_init_da8c8_4


noncomputable def e_Jxc12de_init_da8c8 (w : mW) (h : Nat) : Option (Unit × mW) := m_b (e_Jxa1e45_init_da8c8 w h) fun r1 w2 => m_g (m_kd w2 h = 3) <| m_l (m_sI w2 2 0 h 0) fun w5 => some ((), w5)
set_option maxHeartbeats 1000000 in
set_option maxRecDepth 100000 in
theorem c_Jxc12de_init_da8c8 (l : Launch) (G : m_G) (w w' : mW) (h : Nat) (r : Unit) (hd : e_Jxc12de_init_da8c8 w h = some (r, w')) : Met l yJxc12de_init_da8c8 wsJxc12de_init_da8c8 ({ frames := 2, cells := 0, slots := 0, locals := 44 } : Room) (m_Pc G w [.ref (h)]) (m_Qv G r w') 0 0 (fun q => G.1 ≤ q) := by
  refine Met.ofW (cc := cJxc12de_init_da8c8) (maxL := 1) (ret := none) (by decide +kernel) rfl ?_
  intro p e s m args below meth c s₁ B hml hv
  obtain ⟨rfl, hM, hP⟩ := hv
  have hx := B.exec
  have hb := B.bytes
  have hr := B.returns
  have hts := atoms_spec (ws := wsJxc12de_init_da8c8) B.pre
  have hown : s.vm.findClass RJxc12de = some m.cls := findClass_of_methodNamed B.named
  have hlocks := B.notSynchronized
  have hin : meth.name = "<init>" := (name_of_methodNamed B.named B.method).1
  have hin2 : ∀ w ∈ u_ws RJx4a65c TJx4a65c 3, w ∈ wsJxc12de_init_da8c8 := by decide +kernel
  have hS : va_S (fun q => G.1 ≤ q) s.heap s.heap [] := va_S.rf
  have hl := lv_entry ([.ref (h)]) (n := 1) (Nat.le_of_ble_eq_true rfl)
  rw [lg_entry_eq]
  generalize (lg_sl ([.ref (h)]) ++ List.replicate (1 - (lg_sl ([.ref (h)])).length) Slot.unset).toArray = ls at hl ⊢
  have hl : lv_has ls 1 [(0, .ref (h))] := hl
  refine lv_aload_n hx hb dJxc12de_init_da8c8_0 rfl (lv_at hl 0 rfl) ?_
  obtain ⟨r1, w2, hc3, hd⟩ := m_b_e hd
  refine m_callv (k := 0) (n := 0) (va_runI (As := []) (rest := []) ⟨hx, hb, hml, hown, hts⟩ (c_Jxa1e45_init_da8c8 l G w w2 h r1 hc3) (cwI 0 hts gJxc12de_init_da8c8_Jxa1e45_init_da8c8 rfl rfl rfl (hts (.initialized RJxa1e45) (by decide +kernel)) (hts (.methodLink RJxc12de 1 yJxa1e45_init_da8c8) (by decide +kernel)) (hts (.instanceMethod yJxa1e45_init_da8c8) (by decide +kernel)) rfl (by decide +kernel) ⟨(Nat.le_of_ble_eq_true rfl), (Nat.le_of_ble_eq_true rfl)⟩) (m_preS hM hP hS) rfl rfl hl.1 rfl (lv_room (Nat.le_of_ble_eq_true rfl)) dJxc12de_init_da8c8_1 ⟨(Nat.le_of_ble_eq_true rfl), (Nat.le_of_ble_eq_true rfl)⟩) hS ⟨(Nat.le_of_ble_eq_true rfl), (Nat.le_of_ble_eq_true rfl)⟩ (fun H locs hP hS => ?_)
  refine lv_aload_n hx hb dJxc12de_init_da8c8_4 rfl (lv_at hl 0 rfl) ?_
  refine lv_iconst (v := 0) hx hb dJxc12de_init_da8c8_5 (by decide) ?_
  obtain ⟨hk4, hd⟩ := m_g_e hd
  refine m_putI (C := RJx4a65c) (T := TJx4a65c) (N := 3) (own := RJxc12de) (ref := RJxc12de) hx hb hts hin2 tyJx4a65c tyJx4a65c_ok nmJx4a65c hown hM.1 hP hS 2 rfl 0 hk4 (by decide) (hts (.fieldLink RJxc12de 7 "java/util/AbstractList" "modCount" "I") (by decide +kernel)) (fun _ h9 => h9) (Or.inl rfl) (ty := .int) rfl ⟨rfl, rfl⟩ dJxc12de_init_da8c8_6 (fun H locs hP hS => ?_)
  obtain ⟨w5, ew, hd⟩ := m_l_e hd
  have hP : mP G w5 H := by rw [ew]; exact hP
  have hk4 : m_kd w5 h = 3 := by rw [ew]; exact hk4
  obtain ⟨e1, e2⟩ := m_s_e hd
  refine W.widen (k := 0) (n := 0) (Nat.le_of_ble_eq_true rfl) (Nat.le_of_ble_eq_true rfl) ?_
  exact W.vret hx hb hr (fun t ht hW => ⟨⟨w5, rfl, e2, by show mP _ _ t.heap; rw [ht]; exact hP⟩, hS.F ht⟩) hS.2.2 dJxc12de_init_da8c8_9


noncomputable def e_Jx4a65c_init_da8c8 (t0 : Nat × Nat × Nat × Nat) (w : mW) (h : Nat) : Option (Unit × mW) := m_b (e_Jxc12de_init_da8c8 w h) fun r1 w2 => m_g (m_kd w2 h = 3) <| m_l (m_sR w2 2 1 h (some t0.1)) fun w5 => some ((), w5)
set_option maxHeartbeats 1000000 in
set_option maxRecDepth 100000 in
theorem c_Jx4a65c_init_da8c8 (l : Launch) (G : m_G) (w w' : mW) (h : Nat) (r : Unit) (hd : e_Jx4a65c_init_da8c8 G.2.2.2 w h = some (r, w')) : Met l yJx4a65c_init_da8c8 wsJx4a65c_init_da8c8 ({ frames := 3, cells := 0, slots := 0, locals := 64 } : Room) (m_Pc G w [.ref (h)]) (m_Qv G r w') 0 0 (fun q => G.1 ≤ q) := by
  refine Met.ofW (cc := cJx4a65c_init_da8c8) (maxL := 1) (ret := none) (by decide +kernel) rfl ?_
  intro p e s m args below meth c s₁ B hml hv
  obtain ⟨rfl, hM, hP⟩ := hv
  have hx := B.exec
  have hb := B.bytes
  have hr := B.returns
  have hts := atoms_spec (ws := wsJx4a65c_init_da8c8) B.pre
  have hown : s.vm.findClass RJx4a65c = some m.cls := findClass_of_methodNamed B.named
  have hlocks := B.notSynchronized
  have hin : meth.name = "<init>" := (name_of_methodNamed B.named B.method).1
  have hin2 : ∀ w ∈ u_ws RJx4a65c TJx4a65c 3, w ∈ wsJx4a65c_init_da8c8 := by decide +kernel
  have hS : va_S (fun q => G.1 ≤ q) s.heap s.heap [] := va_S.rf
  have hl := lv_entry ([.ref (h)]) (n := 1) (Nat.le_of_ble_eq_true rfl)
  rw [lg_entry_eq]
  generalize (lg_sl ([.ref (h)]) ++ List.replicate (1 - (lg_sl ([.ref (h)])).length) Slot.unset).toArray = ls at hl ⊢
  have hl : lv_has ls 1 [(0, .ref (h))] := hl
  refine lv_aload_n hx hb dJx4a65c_init_da8c8_0 rfl (lv_at hl 0 rfl) ?_
  obtain ⟨r1, w2, hc3, hd⟩ := m_b_e hd
  refine m_callv (k := 0) (n := 0) (va_runI (As := []) (rest := []) ⟨hx, hb, hml, hown, hts⟩ (c_Jxc12de_init_da8c8 l G w w2 h r1 hc3) (cwI 0 hts gJx4a65c_init_da8c8_Jxc12de_init_da8c8 rfl rfl rfl (hts (.initialized RJxc12de) (by decide +kernel)) (hts (.methodLink RJx4a65c 1 yJxc12de_init_da8c8) (by decide +kernel)) (hts (.instanceMethod yJxc12de_init_da8c8) (by decide +kernel)) rfl (by decide +kernel) ⟨(Nat.le_of_ble_eq_true rfl), (Nat.le_of_ble_eq_true rfl)⟩) (m_preS hM hP hS) rfl rfl hl.1 rfl (lv_room (Nat.le_of_ble_eq_true rfl)) dJx4a65c_init_da8c8_1 ⟨(Nat.le_of_ble_eq_true rfl), (Nat.le_of_ble_eq_true rfl)⟩) hS ⟨(Nat.le_of_ble_eq_true rfl), (Nat.le_of_ble_eq_true rfl)⟩ (fun H locs hP hS => ?_)
  refine lv_aload_n hx hb dJx4a65c_init_da8c8_4 rfl (lv_at hl 0 rfl) ?_
  refine va_gets (own := RJx4a65c) (ref := "java/util/ArrayList") hx hb hM.2.2.1 hS hown (hts (.fieldLink RJx4a65c 39 "java/util/ArrayList" "DEFAULTCAPACITY_EMPTY_ELEMENTDATA" "[Ljava/lang/Object;") (by decide +kernel)) (fun _ h9 => h9) dJx4a65c_init_da8c8_5 ?_
  obtain ⟨hk4, hd⟩ := m_g_e hd
  refine m_putR (C := RJx4a65c) (T := TJx4a65c) (N := 3) (own := RJx4a65c) (ref := RJx4a65c) hx hb hts hin2 tyJx4a65c tyJx4a65c_ok nmJx4a65c hown hM.1 hP hS 2 rfl 1 hk4 (by decide) (hts (.fieldLink RJx4a65c 9 "java/util/ArrayList" "elementData" "[Ljava/lang/Object;") (by decide +kernel)) (fun _ h9 => h9) (Or.inl rfl) (ty := .array (.object "java/lang/Object")) (by decide +kernel) ⟨rfl, rfl⟩ dJx4a65c_init_da8c8_8 (fun H locs hP hS => ?_)
  obtain ⟨w5, ew, hd⟩ := m_l_e hd
  have hP : mP G w5 H := by rw [ew]; exact hP
  have hk4 : m_kd w5 h = 3 := by rw [ew]; exact hk4
  obtain ⟨e1, e2⟩ := m_s_e hd
  refine W.widen (k := 0) (n := 0) (Nat.le_of_ble_eq_true rfl) (Nat.le_of_ble_eq_true rfl) ?_
  exact W.vret hx hb hr (fun t ht hW => ⟨⟨w5, rfl, e2, by show mP _ _ t.heap; rw [ht]; exact hP⟩, hS.F ht⟩) hS.2.2 dJx4a65c_init_da8c8_11


noncomputable def e_Jx4a65c_size_8abf5 (w : mW) (h : Nat) : Option (Int32 × mW) := m_g (m_kd w h = 3) <| some (m_fi w 2 2 h, w)
set_option maxHeartbeats 1000000 in
set_option maxRecDepth 100000 in
theorem c_Jx4a65c_size_8abf5 (l : Launch) (G : m_G) (w w' : mW) (h : Nat) (r : Int32) (hd : e_Jx4a65c_size_8abf5 w h = some (r, w')) : Met l yJx4a65c_size_8abf5 wsJx4a65c_size_8abf5 ({ frames := 0, cells := 0, slots := 0, locals := 0 } : Room) (m_Pc G w [.ref (h)]) (m_Qi G r w') 0 0 (fun q => G.1 ≤ q) := by
  refine Met.ofW (cc := cJx4a65c_size_8abf5) (maxL := 1) (ret := (some .int)) (by decide +kernel) rfl ?_
  intro p e s m args below meth c s₁ B hml hv
  obtain ⟨rfl, hM, hP⟩ := hv
  have hx := B.exec
  have hb := B.bytes
  have hr := B.returns
  have hts := atoms_spec (ws := wsJx4a65c_size_8abf5) B.pre
  have hown : s.vm.findClass RJx4a65c = some m.cls := findClass_of_methodNamed B.named
  have hlocks := B.notSynchronized
  have hin2 : ∀ w ∈ u_ws RJx4a65c TJx4a65c 3, w ∈ wsJx4a65c_size_8abf5 := by decide +kernel
  have hS : va_S (fun q => G.1 ≤ q) s.heap s.heap [] := va_S.rf
  have hl := lv_entry ([.ref (h)]) (n := 1) (Nat.le_of_ble_eq_true rfl)
  rw [lg_entry_eq]
  generalize (lg_sl ([.ref (h)]) ++ List.replicate (1 - (lg_sl ([.ref (h)])).length) Slot.unset).toArray = ls at hl ⊢
  have hl : lv_has ls 1 [(0, .ref (h))] := hl
  refine lv_aload_n hx hb dJx4a65c_size_8abf5_0 rfl (lv_at hl 0 rfl) ?_
  obtain ⟨hk1, hd⟩ := m_g_e hd
  refine m_getI (C := RJx4a65c) (T := TJx4a65c) (N := 3) (own := RJx4a65c) (ref := RJx4a65c) hx hb hts hin2 hown hM.1 hP 2 rfl 2 hk1 (by decide) (hts (.fieldLink RJx4a65c 48 "java/util/ArrayList" "size" "I") (by decide +kernel)) (fun _ h9 => h9) dJx4a65c_size_8abf5_1 ?_
  obtain ⟨e1, e2⟩ := m_s_e hd
  refine W.widen (k := 0) (n := 0) (Nat.le_of_ble_eq_true rfl) (Nat.le_of_ble_eq_true rfl) ?_
  exact W.iret hx hb hr (fun t ht hW => ⟨⟨_, w, rfl, ⟨e1, e2⟩, by show mP _ _ t.heap; rw [ht]; exact hP⟩, hS.F ht⟩) hS.2.2 dJx4a65c_size_8abf5_4


noncomputable def e_Jx4a65c_elementData_915e3 (w : mW) (h : Nat) (p0 : Int32) : Option (Nat × mW) := m_g (m_kd w h = 3) <| m_o (m_fr w 2 1 h) fun r2 => m_g (m_kd w r2 = 23 ∧ ¬ (p0 < 0 ∨ m_ln w r2 ≤ p0.toNatClampNeg)) <| m_o (m_oa w r2 p0.toNatClampNeg) fun r4 => some (r4, w)
set_option maxHeartbeats 1000000 in
set_option maxRecDepth 100000 in
theorem c_Jx4a65c_elementData_915e3 (l : Launch) (G : m_G) (w w' : mW) (h : Nat) (p0 : Int32) (r : Nat) (hd : e_Jx4a65c_elementData_915e3 w h p0 = some (r, w')) : Met l yJx4a65c_elementData_915e3 wsJx4a65c_elementData_915e3 ({ frames := 0, cells := 0, slots := 0, locals := 0 } : Room) (m_Pc G w [.ref (h), .int (p0)]) (m_Qq G (some r) w') 0 0 (fun q => G.1 ≤ q) := by
  refine Met.ofW (cc := cJx4a65c_elementData_915e3) (maxL := 2) (ret := (some (.object "java/lang/Object"))) (by decide +kernel) rfl ?_
  intro p e s m args below meth c s₁ B hml hv
  obtain ⟨rfl, hM, hP⟩ := hv
  have hx := B.exec
  have hb := B.bytes
  have hr := B.returns
  have hts := atoms_spec (ws := wsJx4a65c_elementData_915e3) B.pre
  have hown : s.vm.findClass RJx4a65c = some m.cls := findClass_of_methodNamed B.named
  have hlocks := B.notSynchronized
  have hin2 : ∀ w ∈ u_ws RJx4a65c TJx4a65c 3, w ∈ wsJx4a65c_elementData_915e3 := by decide +kernel
  have hS : va_S (fun q => G.1 ≤ q) s.heap s.heap [] := va_S.rf
  have hl := lv_entry ([.ref (h), .int (p0)]) (n := 2) (Nat.le_of_ble_eq_true rfl)
  rw [lg_entry_eq]
  generalize (lg_sl ([.ref (h), .int (p0)]) ++ List.replicate (2 - (lg_sl ([.ref (h), .int (p0)])).length) Slot.unset).toArray = ls at hl ⊢
  have hl : lv_has ls 2 [(0, .ref (h)), (1, .int (p0))] := hl
  refine lv_aload_n hx hb dJx4a65c_elementData_915e3_0 rfl (lv_at hl 0 rfl) ?_
  obtain ⟨hk1, hd⟩ := m_g_e hd
  obtain ⟨r2, hr2, hd⟩ := m_o_e hd
  refine m_getR (C := RJx4a65c) (T := TJx4a65c) (N := 3) (own := RJx4a65c) (ref := RJx4a65c) hx hb hts hin2 hown hM.1 hP 2 rfl 1 (r := r2) ⟨hk1, hr2⟩ (by decide) (hts (.fieldLink RJx4a65c 9 "java/util/ArrayList" "elementData" "[Ljava/lang/Object;") (by decide +kernel)) (fun _ h9 => h9) dJx4a65c_elementData_915e3_1 ?_
  refine lv_iload_n hx hb dJx4a65c_elementData_915e3_4 rfl (lv_at hl 1 rfl) ?_
  obtain ⟨hg3, hd⟩ := m_g_e hd
  obtain ⟨r4, hr4, hd⟩ := m_o_e hd
  refine m_aald (r := r4) hx hb hM.1 hP ⟨hg3.1, hg3.2, hr4⟩ dJx4a65c_elementData_915e3_5 ?_
  obtain ⟨e1, e2⟩ := m_s_e hd
  refine W.widen (k := 0) (n := 0) (Nat.le_of_ble_eq_true rfl) (Nat.le_of_ble_eq_true rfl) ?_
  exact W.aret hx hb hr (Or.inl ⟨_, rfl⟩) (Or.inr ⟨_, rfl⟩) (fun t ht hW => ⟨⟨some r4, w, rfl, ⟨congrArg some e1, e2⟩, by show mP _ _ t.heap; rw [ht]; exact hP⟩, hS.F ht⟩) hS.2.2 dJx4a65c_elementData_915e3_6


noncomputable def e_J3_checkIndex_8e157_9 (w : mW)  : Option (Int32 × mW) := none
noncomputable def e_J3_checkIndex_8e157 (w : mW) (p0 : Int32) (p1 : Int32) : Option (Int32 × mW) := if p0 < (0 : Int32) then (e_J3_checkIndex_8e157_9 w) else (if p0 < p1 then (some (p0, w)) else (e_J3_checkIndex_8e157_9 w))
set_option maxHeartbeats 1000000 in
set_option maxRecDepth 100000 in
theorem c_J3_checkIndex_8e157 (l : Launch) (G : m_G) (w w' : mW) (p0 : Int32) (p1 : Int32) (r : Int32) (hd : e_J3_checkIndex_8e157 w p0 p1 = some (r, w')) : Met l yJ3_checkIndex_8e157 wsJ3_checkIndex_8e157 ({ frames := 0, cells := 0, slots := 0, locals := 0 } : Room) (m_Pc G w [.int (p0), .int (p1), .null]) (m_Qi G r w') 0 0 (fun q => G.1 ≤ q) := by
  refine Met.ofW (cc := cJ3_checkIndex_8e157) (maxL := 3) (ret := (some .int)) (by decide +kernel) rfl ?_
  intro p e s m args below meth c s₁ B hml hv
  obtain ⟨rfl, hM, hP⟩ := hv
  have hx := B.exec
  have hb := B.bytes
  have hr := B.returns
  have hts := atoms_spec (ws := wsJ3_checkIndex_8e157) B.pre
  have hown : s.vm.findClass RJ3 = some m.cls := findClass_of_methodNamed B.named
  have hlocks := B.notSynchronized
  have hS : va_S (fun q => G.1 ≤ q) s.heap s.heap [] := va_S.rf
  have J9 : ∀ (w : mW) (H : Heap) (locs : List Loc) (ls : Array Slot), e_J3_checkIndex_8e157_9 w = some (r, w') → mP G w H → va_S (fun q => G.1 ≤ q) s.heap H locs → lv_has ls 3 [] → W p l e ({ frames := 0, cells := 0, slots := 0, locals := 0 } : Room) s m ([.int (p0), .int (p1), .null] : List Value).toArray below meth c H locs 0 0 (MQ below (m_Qi G r w') ([.int (p0), .int (p1), .null] : List Value).toArray s 0 0 (fun q => G.1 ≤ q)) (F0 m 9 ls []) := by
    intro w H locs ls hd hP hS hl
    exact nomatch hd
  have hl := lv_entry ([.int (p0), .int (p1), .null]) (n := 3) (Nat.le_of_ble_eq_true rfl)
  rw [lg_entry_eq]
  generalize (lg_sl ([.int (p0), .int (p1), .null]) ++ List.replicate (3 - (lg_sl ([.int (p0), .int (p1), .null])).length) Slot.unset).toArray = ls at hl ⊢
  have hl : lv_has ls 3 [(0, .int (p0)), (1, .int (p1)), (2, .null)] := hl
  refine lv_iload_n hx hb dJ3_checkIndex_8e157_0 rfl (lv_at hl 0 rfl) ?_
  refine lv_if_lt (tgt := 9) hx hb dJ3_checkIndex_8e157_1 (by decide) (fun c1 => ?_) (fun c1 => ?_)
  · have hd := m_i_t c1 hd
    refine W.widen (k := 0) (n := 0) (Nat.le_of_ble_eq_true rfl) (Nat.le_of_ble_eq_true rfl) ?_
    exact J9 w _ _ _ hd hP hS (lv_sub hl [] rfl)
  · have hd := m_i_f c1 hd
    refine lv_iload_n hx hb dJ3_checkIndex_8e157_4 rfl (lv_at hl 0 rfl) ?_
    refine lv_iload_n hx hb dJ3_checkIndex_8e157_5 rfl (lv_at hl 1 rfl) ?_
    refine lv_icmp_lt (tgt := 16) hx hb dJ3_checkIndex_8e157_6 (by decide) (fun c2 => ?_) (fun c2 => ?_)
    · have hd := m_i_t c2 hd
      refine lv_iload_n hx hb dJ3_checkIndex_8e157_16 rfl (lv_at hl 0 rfl) ?_
      obtain ⟨e1, e2⟩ := m_s_e hd
      refine W.widen (k := 0) (n := 0) (Nat.le_of_ble_eq_true rfl) (Nat.le_of_ble_eq_true rfl) ?_
      exact W.iret hx hb hr (fun t ht hW => ⟨⟨_, w, rfl, ⟨e1, e2⟩, by show mP _ _ t.heap; rw [ht]; exact hP⟩, hS.F ht⟩) hS.2.2 dJ3_checkIndex_8e157_17
    · have hd := m_i_f c2 hd
      refine W.widen (k := 0) (n := 0) (Nat.le_of_ble_eq_true rfl) (Nat.le_of_ble_eq_true rfl) ?_
      exact J9 w _ _ _ hd hP hS (lv_sub hl [] rfl)
set_option maxHeartbeats 1000000 in
set_option maxRecDepth 100000 in
theorem c_J3_checkIndex_8e157_R (pR : Nat) (l : Launch) (G : m_G) (w w' : mW) (p0 : Int32) (p1 : Int32) (r : Int32) (hd : e_J3_checkIndex_8e157 w p0 p1 = some (r, w')) : Met l yJ3_checkIndex_8e157 wsJ3_checkIndex_8e157 ({ frames := 0, cells := 0, slots := 0, locals := 0 } : Room) (m_Pc G w [.int (p0), .int (p1), .ref (pR)]) (m_Qi G r w') 0 0 (fun q => G.1 ≤ q) := by
  refine Met.ofW (cc := cJ3_checkIndex_8e157) (maxL := 3) (ret := (some .int)) (by decide +kernel) rfl ?_
  intro p e s m args below meth c s₁ B hml hv
  obtain ⟨rfl, hM, hP⟩ := hv
  have hx := B.exec
  have hb := B.bytes
  have hr := B.returns
  have hts := atoms_spec (ws := wsJ3_checkIndex_8e157) B.pre
  have hown : s.vm.findClass RJ3 = some m.cls := findClass_of_methodNamed B.named
  have hlocks := B.notSynchronized
  have hS : va_S (fun q => G.1 ≤ q) s.heap s.heap [] := va_S.rf
  have J9 : ∀ (w : mW) (H : Heap) (locs : List Loc) (ls : Array Slot), e_J3_checkIndex_8e157_9 w = some (r, w') → mP G w H → va_S (fun q => G.1 ≤ q) s.heap H locs → lv_has ls 3 [] → W p l e ({ frames := 0, cells := 0, slots := 0, locals := 0 } : Room) s m ([.int (p0), .int (p1), .ref (pR)] : List Value).toArray below meth c H locs 0 0 (MQ below (m_Qi G r w') ([.int (p0), .int (p1), .ref (pR)] : List Value).toArray s 0 0 (fun q => G.1 ≤ q)) (F0 m 9 ls []) := by
    intro w H locs ls hd hP hS hl
    exact nomatch hd
  have hl := lv_entry ([.int (p0), .int (p1), .ref (pR)]) (n := 3) (Nat.le_of_ble_eq_true rfl)
  rw [lg_entry_eq]
  generalize (lg_sl ([.int (p0), .int (p1), .ref (pR)]) ++ List.replicate (3 - (lg_sl ([.int (p0), .int (p1), .ref (pR)])).length) Slot.unset).toArray = ls at hl ⊢
  have hl : lv_has ls 3 [(0, .int (p0)), (1, .int (p1)), (2, .ref (pR))] := hl
  refine lv_iload_n hx hb dJ3_checkIndex_8e157_0 rfl (lv_at hl 0 rfl) ?_
  refine lv_if_lt (tgt := 9) hx hb dJ3_checkIndex_8e157_1 (by decide) (fun c1 => ?_) (fun c1 => ?_)
  · have hd := m_i_t c1 hd
    refine W.widen (k := 0) (n := 0) (Nat.le_of_ble_eq_true rfl) (Nat.le_of_ble_eq_true rfl) ?_
    exact J9 w _ _ _ hd hP hS (lv_sub hl [] rfl)
  · have hd := m_i_f c1 hd
    refine lv_iload_n hx hb dJ3_checkIndex_8e157_4 rfl (lv_at hl 0 rfl) ?_
    refine lv_iload_n hx hb dJ3_checkIndex_8e157_5 rfl (lv_at hl 1 rfl) ?_
    refine lv_icmp_lt (tgt := 16) hx hb dJ3_checkIndex_8e157_6 (by decide) (fun c2 => ?_) (fun c2 => ?_)
    · have hd := m_i_t c2 hd
      refine lv_iload_n hx hb dJ3_checkIndex_8e157_16 rfl (lv_at hl 0 rfl) ?_
      obtain ⟨e1, e2⟩ := m_s_e hd
      refine W.widen (k := 0) (n := 0) (Nat.le_of_ble_eq_true rfl) (Nat.le_of_ble_eq_true rfl) ?_
      exact W.iret hx hb hr (fun t ht hW => ⟨⟨_, w, rfl, ⟨e1, e2⟩, by show mP _ _ t.heap; rw [ht]; exact hP⟩, hS.F ht⟩) hS.2.2 dJ3_checkIndex_8e157_17
    · have hd := m_i_f c2 hd
      refine W.widen (k := 0) (n := 0) (Nat.le_of_ble_eq_true rfl) (Nat.le_of_ble_eq_true rfl) ?_
      exact J9 w _ _ _ hd hP hS (lv_sub hl [] rfl)


noncomputable def e_J15_checkIndex_7cf53 (w : mW) (p0 : Int32) (p1 : Int32) : Option (Int32 × mW) := m_b (e_J3_checkIndex_8e157 w p0 p1) fun r1 w2 => some (r1, w2)
set_option maxHeartbeats 1000000 in
set_option maxRecDepth 100000 in
theorem c_J15_checkIndex_7cf53 (l : Launch) (G : m_G) (w w' : mW) (p0 : Int32) (p1 : Int32) (r : Int32) (hd : e_J15_checkIndex_7cf53 w p0 p1 = some (r, w')) : Met l yJ15_checkIndex_7cf53 wsJ15_checkIndex_7cf53 ({ frames := 1, cells := 0, slots := 0, locals := 22 } : Room) (m_Pc G w [.int (p0), .int (p1)]) (m_Qi G r w') 0 0 (fun q => G.1 ≤ q) := by
  refine Met.ofW (cc := cJ15_checkIndex_7cf53) (maxL := 2) (ret := (some .int)) (by decide +kernel) rfl ?_
  intro p e s m args below meth c s₁ B hml hv
  obtain ⟨rfl, hM, hP⟩ := hv
  have hx := B.exec
  have hb := B.bytes
  have hr := B.returns
  have hts := atoms_spec (ws := wsJ15_checkIndex_7cf53) B.pre
  have hown : s.vm.findClass RJ15 = some m.cls := findClass_of_methodNamed B.named
  have hlocks := B.notSynchronized
  have hS : va_S (fun q => G.1 ≤ q) s.heap s.heap [] := va_S.rf
  have hl := lv_entry ([.int (p0), .int (p1)]) (n := 2) (Nat.le_of_ble_eq_true rfl)
  rw [lg_entry_eq]
  generalize (lg_sl ([.int (p0), .int (p1)]) ++ List.replicate (2 - (lg_sl ([.int (p0), .int (p1)])).length) Slot.unset).toArray = ls at hl ⊢
  have hl : lv_has ls 2 [(0, .int (p0)), (1, .int (p1))] := hl
  refine lv_iload_n hx hb dJ15_checkIndex_7cf53_0 rfl (lv_at hl 0 rfl) ?_
  refine lv_iload_n hx hb dJ15_checkIndex_7cf53_1 rfl (lv_at hl 1 rfl) ?_
  refine lv_null hx hb dJ15_checkIndex_7cf53_2 ?_
  obtain ⟨r1, w2, hc3, hd⟩ := m_b_e hd
  refine m_calli (k := 0) (n := 0) (va_runS (As := [.int (p0), .int (p1), .null]) (rest := []) ⟨hx, hb, hml, hown, hts⟩ (c_J3_checkIndex_8e157 l G w w2 p0 p1 r1 hc3) (va_cwS 3 hts gJ15_checkIndex_7cf53_J3_checkIndex_8e157 rfl rfl rfl (by decide +kernel) ⟨(Nat.le_of_ble_eq_true rfl), (Nat.le_of_ble_eq_true rfl)⟩) (m_preS hM hP hS) rfl rfl hl.1 rfl (lv_room (Nat.le_of_ble_eq_true rfl)) dJ15_checkIndex_7cf53_3 ⟨(Nat.le_of_ble_eq_true rfl), (Nat.le_of_ble_eq_true rfl)⟩) hS ⟨(Nat.le_of_ble_eq_true rfl), (Nat.le_of_ble_eq_true rfl)⟩ (fun H locs hP hS => ?_)
  obtain ⟨e1, e2⟩ := m_s_e hd
  refine W.widen (k := 0) (n := 0) (Nat.le_of_ble_eq_true rfl) (Nat.le_of_ble_eq_true rfl) ?_
  exact W.iret hx hb hr (fun t ht hW => ⟨⟨_, w2, rfl, ⟨e1, e2⟩, by show mP _ _ t.heap; rw [ht]; exact hP⟩, hS.F ht⟩) hS.2.2 dJ15_checkIndex_7cf53_6


noncomputable def e_Jx4a65c_get_915e3 (w : mW) (h : Nat) (p0 : Int32) : Option (Nat × mW) := m_g (m_kd w h = 3) <| m_b (e_J15_checkIndex_7cf53 w p0 (m_fi w 2 2 h)) fun r2 w3 => m_g (m_kd w3 h = 3) <| m_b (e_Jx4a65c_elementData_915e3 w3 h p0) fun r6 w7 => some (r6, w7)
set_option maxHeartbeats 1000000 in
set_option maxRecDepth 100000 in
theorem c_Jx4a65c_get_915e3 (l : Launch) (G : m_G) (w w' : mW) (h : Nat) (p0 : Int32) (r : Nat) (hd : e_Jx4a65c_get_915e3 w h p0 = some (r, w')) : Met l yJx4a65c_get_915e3 wsJx4a65c_get_915e3 ({ frames := 2, cells := 0, slots := 0, locals := 43 } : Room) (m_Pc G w [.ref (h), .int (p0)]) (m_Qq G (some r) w') 0 0 (fun q => G.1 ≤ q) := by
  refine Met.ofW (cc := cJx4a65c_get_915e3) (maxL := 2) (ret := (some (.object "java/lang/Object"))) (by decide +kernel) rfl ?_
  intro p e s m args below meth c s₁ B hml hv
  obtain ⟨rfl, hM, hP⟩ := hv
  have hx := B.exec
  have hb := B.bytes
  have hr := B.returns
  have hts := atoms_spec (ws := wsJx4a65c_get_915e3) B.pre
  have hown : s.vm.findClass RJx4a65c = some m.cls := findClass_of_methodNamed B.named
  have hlocks := B.notSynchronized
  have hin2 : ∀ w ∈ u_ws RJx4a65c TJx4a65c 3, w ∈ wsJx4a65c_get_915e3 := by decide +kernel
  have hS : va_S (fun q => G.1 ≤ q) s.heap s.heap [] := va_S.rf
  have hl := lv_entry ([.ref (h), .int (p0)]) (n := 2) (Nat.le_of_ble_eq_true rfl)
  rw [lg_entry_eq]
  generalize (lg_sl ([.ref (h), .int (p0)]) ++ List.replicate (2 - (lg_sl ([.ref (h), .int (p0)])).length) Slot.unset).toArray = ls at hl ⊢
  have hl : lv_has ls 2 [(0, .ref (h)), (1, .int (p0))] := hl
  refine lv_iload_n hx hb dJx4a65c_get_915e3_0 rfl (lv_at hl 1 rfl) ?_
  refine lv_aload_n hx hb dJx4a65c_get_915e3_1 rfl (lv_at hl 0 rfl) ?_
  obtain ⟨hk1, hd⟩ := m_g_e hd
  refine m_getI (C := RJx4a65c) (T := TJx4a65c) (N := 3) (own := RJx4a65c) (ref := RJx4a65c) hx hb hts hin2 hown hM.1 hP 2 rfl 2 hk1 (by decide) (hts (.fieldLink RJx4a65c 48 "java/util/ArrayList" "size" "I") (by decide +kernel)) (fun _ h9 => h9) dJx4a65c_get_915e3_2 ?_
  obtain ⟨r2, w3, hc4, hd⟩ := m_b_e hd
  refine m_calli (k := 0) (n := 0) (va_runS (As := [.int (p0), .int (m_fi w 2 2 h)]) (rest := []) ⟨hx, hb, hml, hown, hts⟩ (c_J15_checkIndex_7cf53 l G w w3 p0 (m_fi w 2 2 h) r2 hc4) (va_cwS 2 hts gJx4a65c_get_915e3_J15_checkIndex_7cf53 rfl rfl rfl (by decide +kernel) ⟨(Nat.le_of_ble_eq_true rfl), (Nat.le_of_ble_eq_true rfl)⟩) (m_preS hM hP hS) rfl rfl hl.1 rfl (lv_room (Nat.le_of_ble_eq_true rfl)) dJx4a65c_get_915e3_5 ⟨(Nat.le_of_ble_eq_true rfl), (Nat.le_of_ble_eq_true rfl)⟩) hS ⟨(Nat.le_of_ble_eq_true rfl), (Nat.le_of_ble_eq_true rfl)⟩ (fun H locs hP hS => ?_)
  refine lv_pop hx hb dJx4a65c_get_915e3_8 rfl ?_
  refine lv_aload_n hx hb dJx4a65c_get_915e3_9 rfl (lv_at hl 0 rfl) ?_
  refine lv_iload_n hx hb dJx4a65c_get_915e3_10 rfl (lv_at hl 1 rfl) ?_
  obtain ⟨hk5, hd⟩ := m_g_e hd
  obtain ⟨r6, w7, hc8, hd⟩ := m_b_e hd
  refine m_callr (k := 0) (n := 0) (va_runV (As := [.int (p0)]) (rest := []) ⟨hx, hb, hml, hown, hts⟩ (c_Jx4a65c_elementData_915e3 l G w3 w7 h p0 r6 hc8) (cwV 1 hts gJx4a65c_get_915e3_Jx4a65c_elementData_915e3 rfl rfl rfl (by decide +kernel) ⟨(Nat.le_of_ble_eq_true rfl), (Nat.le_of_ble_eq_true rfl)⟩) (m_preV (C := RJx4a65c) (T := TJx4a65c) (N := 3) hM hP hS rfl (by decide) hk5) rfl rfl hl.1 rfl (lv_room (Nat.le_of_ble_eq_true rfl)) dJx4a65c_get_915e3_11 ⟨(Nat.le_of_ble_eq_true rfl), (Nat.le_of_ble_eq_true rfl)⟩) hS ⟨(Nat.le_of_ble_eq_true rfl), (Nat.le_of_ble_eq_true rfl)⟩ (fun H locs hP hS => ?_)
  obtain ⟨e1, e2⟩ := m_s_e hd
  refine W.widen (k := 0) (n := 0) (Nat.le_of_ble_eq_true rfl) (Nat.le_of_ble_eq_true rfl) ?_
  exact W.aret hx hb hr (Or.inl ⟨_, rfl⟩) (Or.inr ⟨_, rfl⟩) (fun t ht hW => ⟨⟨some r6, w7, rfl, ⟨congrArg some e1, e2⟩, by show mP _ _ t.heap; rw [ht]; exact hP⟩, hS.F ht⟩) hS.2.2 dJx4a65c_get_915e3_14


noncomputable def e_J8_newLength_cabcc_21 (w : mW)  : Option (Int32 × mW) := none
noncomputable def e_J8_newLength_cabcc (w : mW) (p0 : Int32) (p1 : Int32) (p2 : Int32) : Option (Int32 × mW) := if (p0 + (m_max p1 p2)) ≤ 0 then (e_J8_newLength_cabcc_21 w) else (if 2147483639 < (p0 + (m_max p1 p2)) then (e_J8_newLength_cabcc_21 w) else (some (p0 + (m_max p1 p2), w)))
set_option maxHeartbeats 1000000 in
set_option maxRecDepth 100000 in
theorem c_J8_newLength_cabcc (l : Launch) (G : m_G) (w w' : mW) (p0 : Int32) (p1 : Int32) (p2 : Int32) (r : Int32) (hd : e_J8_newLength_cabcc w p0 p1 p2 = some (r, w')) : Met l yJ8_newLength_cabcc wsJ8_newLength_cabcc ({ frames := 1, cells := 0, slots := 0, locals := 60 } : Room) (m_Pc G w [.int (p0), .int (p1), .int (p2)]) (m_Qi G r w') 0 0 (fun q => G.1 ≤ q) := by
  refine Met.ofW (cc := cJ8_newLength_cabcc) (maxL := 4) (ret := (some .int)) (by decide +kernel) rfl ?_
  intro p e s m args below meth c s₁ B hml hv
  obtain ⟨rfl, hM, hP⟩ := hv
  have hx := B.exec
  have hb := B.bytes
  have hr := B.returns
  have hts := atoms_spec (ws := wsJ8_newLength_cabcc) B.pre
  have hown : s.vm.findClass RJ8 = some m.cls := findClass_of_methodNamed B.named
  have hlocks := B.notSynchronized
  have hS : va_S (fun q => G.1 ≤ q) s.heap s.heap [] := va_S.rf
  have J21 : ∀ (w : mW) (H : Heap) (locs : List Loc) (ls : Array Slot), e_J8_newLength_cabcc_21 w = some (r, w') → mP G w H → va_S (fun q => G.1 ≤ q) s.heap H locs → lv_has ls 4 [] → W p l e ({ frames := 1, cells := 0, slots := 0, locals := 60 } : Room) s m ([.int (p0), .int (p1), .int (p2)] : List Value).toArray below meth c H locs 0 0 (MQ below (m_Qi G r w') ([.int (p0), .int (p1), .int (p2)] : List Value).toArray s 0 0 (fun q => G.1 ≤ q)) (F0 m 21 ls []) := by
    intro w H locs ls hd hP hS hl
    exact nomatch hd
  have hl := lv_entry ([.int (p0), .int (p1), .int (p2)]) (n := 4) (Nat.le_of_ble_eq_true rfl)
  rw [lg_entry_eq]
  generalize (lg_sl ([.int (p0), .int (p1), .int (p2)]) ++ List.replicate (4 - (lg_sl ([.int (p0), .int (p1), .int (p2)])).length) Slot.unset).toArray = ls at hl ⊢
  have hl : lv_has ls 4 [(0, .int (p0)), (1, .int (p1)), (2, .int (p2))] := hl
  refine lv_iload_n hx hb dJ8_newLength_cabcc_0 rfl (lv_at hl 0 rfl) ?_
  refine lv_iload_n hx hb dJ8_newLength_cabcc_1 rfl (lv_at hl 1 rfl) ?_
  refine lv_iload_n hx hb dJ8_newLength_cabcc_2 rfl (lv_at hl 2 rfl) ?_
  refine va_mmax (own := RJ8) hx hb (by rw [hml]; exact hl.1.symm) hown (hts (.methodLink RJ8 194 Lib.Math.max.name) (by decide +kernel)) (hts (.static Lib.Math.max.name) (by decide +kernel)) (hts (.initialized "java/lang/Math") (by decide +kernel)) (hts (.code Lib.Math.max.name Lib.Math.max.code 2 (some .int)) (by decide +kernel)) (Nat.le_of_ble_eq_true rfl) (Nat.le_of_ble_eq_true rfl) (Nat.le_of_ble_eq_true rfl) (Nat.le_of_ble_eq_true rfl) dJ8_newLength_cabcc_3 ?_
  refine lv_iadd hx hb dJ8_newLength_cabcc_6 ?_
  refine lv_istore_n (lv' := [(3, .int (p0 + (m_max p1 p2))), (0, .int (p0)), (1, .int (p1)), (2, .int (p2))]) hx hb dJ8_newLength_cabcc_7 rfl hl (by decide) rfl (fun ls hl => ?_)
  refine lv_iconst (v := 0) hx hb dJ8_newLength_cabcc_8 (by decide) ?_
  refine lv_iload_n hx hb dJ8_newLength_cabcc_9 rfl (lv_at hl 0 rfl) ?_
  refine lv_icmp_ge (tgt := 21) hx hb dJ8_newLength_cabcc_10 (by decide) (fun c1 => ?_) (fun c1 => ?_)
  · have hd := m_i_t c1 hd
    refine W.widen (k := 0) (n := 0) (Nat.le_of_ble_eq_true rfl) (Nat.le_of_ble_eq_true rfl) ?_
    exact J21 w _ _ _ hd hP hS (lv_sub hl [] rfl)
  · have hd := m_i_f c1 hd
    refine lv_iload_n hx hb dJ8_newLength_cabcc_13 rfl (lv_at hl 0 rfl) ?_
    refine lv_ldc (own := RJ8) (index := 200) (v := 2147483639) hx hb hown (hts (.constant RJ8 200 (2147483639)) (by decide +kernel)) dJ8_newLength_cabcc_14 ?_
    refine lv_icmp_gt (tgt := 21) hx hb dJ8_newLength_cabcc_16 (by decide) (fun c2 => ?_) (fun c2 => ?_)
    · have hd := m_i_t c2 hd
      refine W.widen (k := 0) (n := 0) (Nat.le_of_ble_eq_true rfl) (Nat.le_of_ble_eq_true rfl) ?_
      exact J21 w _ _ _ hd hP hS (lv_sub hl [] rfl)
    · have hd := m_i_f c2 hd
      refine lv_iload_n hx hb dJ8_newLength_cabcc_19 rfl (lv_at hl 0 rfl) ?_
      obtain ⟨e1, e2⟩ := m_s_e hd
      refine W.widen (k := 0) (n := 0) (Nat.le_of_ble_eq_true rfl) (Nat.le_of_ble_eq_true rfl) ?_
      exact W.iret hx hb hr (fun t ht hW => ⟨⟨_, w, rfl, ⟨e1, e2⟩, by show mP _ _ t.heap; rw [ht]; exact hP⟩, hS.F ht⟩) hS.2.2 dJ8_newLength_cabcc_20


noncomputable def e_J7_copyOf_6403c (t0 : Nat × Nat × Nat × Nat) (w : mW) (p0 : Nat) (p1 : Int32) (p2 : Nat) : Option (Nat × mW) := if (some p2 : Option Nat) = some t0.2.1 then (m_g (¬ p1 < (0 : Int32) ∧ (p1 : Int32).toNatClampNeg ≤ 600 ∧ 600 ≤ 4000) <| m_l (m_nA w 23 (p1 : Int32).toNatClampNeg) fun w3 => m_g (21 ≤ m_kd w3 p0 ∧ m_kd w3 p0 ≤ 25) <| m_g (m_kd w3 p0 = 23 ∧ m_kd w3 (m_nx w) = 23 ∧ ¬ 0 < (0 : Int32) ∧ ¬ 0 < (0 : Int32) ∧ ¬ (m_min (nI (m_ln w3 p0)) p1) < (0 : Int32) ∧ (0 : Int32).toNatClampNeg + (m_min (nI (m_ln w3 p0)) p1 : Int32).toNatClampNeg ≤ m_ln w3 p0 ∧ (0 : Int32).toNatClampNeg + (m_min (nI (m_ln w3 p0)) p1 : Int32).toNatClampNeg ≤ m_ln w3 (m_nx w) ∧ 0 < m_ln w3 (m_nx w)) <| m_g (∀ i, i < (m_min (nI (m_ln w3 p0)) p1 : Int32).toNatClampNeg → ∀ y ∈ m_oa w3 p0 ((0 : Int32).toNatClampNeg + i), 1 ≤ m_kd w3 y ∧ m_kd w3 y ≤ 11) <| m_l (m_sG w3 (m_nx w) (va_cpy (m_oa w3 p0) (m_oa w3 (m_nx w)) (0 : Int32).toNatClampNeg (0 : Int32).toNatClampNeg (m_min (nI (m_ln w3 p0)) p1 : Int32).toNatClampNeg)) fun w8 => some ((m_nx w), w8)) else (none)
set_option maxHeartbeats 1000000 in
set_option maxRecDepth 100000 in
theorem c_J7_copyOf_6403c (l : Launch) (G : m_G) (w w' : mW) (p0 : Nat) (p1 : Int32) (p2 : Nat) (r : Nat) (hd : e_J7_copyOf_6403c G.2.2.2 w p0 p1 p2 = some (r, w')) : Met l yJ7_copyOf_6403c wsJ7_copyOf_6403c ({ frames := 2, cells := 1, slots := 600, locals := 80 } : Room) (m_Pc G w [.ref (p0), .int (p1), .ref (p2)]) (m_Qq G (some r) w') 1 600 (fun q => G.1 ≤ q) := by
  refine Met.ofW (cc := cJ7_copyOf_6403c) (maxL := 4) (ret := (some (.array (.object "java/lang/Object")))) (by decide +kernel) rfl ?_
  intro p e s m args below meth c s₁ B hml hv
  obtain ⟨rfl, hM, hP⟩ := hv
  have hx := B.exec
  have hb := B.bytes
  have hr := B.returns
  have hts := atoms_spec (ws := wsJ7_copyOf_6403c) B.pre
  have hown : s.vm.findClass RJ7 = some m.cls := findClass_of_methodNamed B.named
  have hlocks := B.notSynchronized
  have hS : va_S (fun q => G.1 ≤ q) s.heap s.heap [] := va_S.rf
  have hl := lv_entry ([.ref (p0), .int (p1), .ref (p2)]) (n := 4) (Nat.le_of_ble_eq_true rfl)
  rw [lg_entry_eq]
  generalize (lg_sl ([.ref (p0), .int (p1), .ref (p2)]) ++ List.replicate (4 - (lg_sl ([.ref (p0), .int (p1), .ref (p2)])).length) Slot.unset).toArray = ls at hl ⊢
  have hl : lv_has ls 4 [(0, .ref (p0)), (1, .int (p1)), (2, .ref (p2))] := hl
  refine lv_aload_n hx hb dJ7_copyOf_6403c_0 rfl (lv_at hl 2 rfl) ?_
  refine va_ldcM (own := RJ7) (C := "[Ljava/lang/Object;") hx hb hown (hts (.classLink RJ7 110 "[Ljava/lang/Object;") (by decide +kernel)) hM.2.1.2.2.2.2.1 dJ7_copyOf_6403c_1 ?_
  refine lv_acmp_ne (tgt := 13) (rx := some p2) (ry := some G.2.2.2.2.1) hx hb dJ7_copyOf_6403c_3 (by decide) (fun c1 => ?_) (fun c1 => ?_)
  · have hd := m_i_f c1 hd
    exact nomatch hd
  · have hd := m_i_t c1 hd
    refine lv_iload_n hx hb dJ7_copyOf_6403c_6 rfl (lv_at hl 1 rfl) ?_
    obtain ⟨hg2, hd⟩ := m_g_e hd
    refine m_newQ (own := RJ7) hx hb hown (hts (.classLink RJ7 2 "java/lang/Object") (by decide +kernel)) hM.2.1.2.2.2.1 hM.1 hP hS hg2 (Nat.le_of_ble_eq_true rfl) (Nat.le_of_ble_eq_true rfl) dJ7_copyOf_6403c_7 (fun H hP hS => ?_)
    obtain ⟨w3, ew, hd⟩ := m_l_e hd
    have hP : mP G w3 H := by rw [ew]; exact hP
    have hk4 : m_kd w3 (m_nx w) = 23 := by rw [ew]; exact m_nA_new
    refine lv_goto (tgt := 24) hx hb dJ7_copyOf_6403c_10 (by decide) ?_
    refine lv_astore_n (lv' := [(3, .ref (m_nx w)), (0, .ref (p0)), (1, .int (p1)), (2, .ref (p2))]) hx hb dJ7_copyOf_6403c_24 rfl hl (by decide) rfl (fun ls hl => ?_)
    refine lv_aload_n hx hb dJ7_copyOf_6403c_25 rfl (lv_at hl 1 rfl) ?_
    refine lv_iconst (v := 0) hx hb dJ7_copyOf_6403c_26 (by decide) ?_
    refine lv_aload_n hx hb dJ7_copyOf_6403c_27 rfl (lv_at hl 0 rfl) ?_
    refine lv_iconst (v := 0) hx hb dJ7_copyOf_6403c_28 (by decide) ?_
    refine lv_aload_n hx hb dJ7_copyOf_6403c_29 rfl (lv_at hl 1 rfl) ?_
    obtain ⟨hg5, hd⟩ := m_g_e hd
    refine m_alen hx hb hM.1 hP hg5 dJ7_copyOf_6403c_30 ?_
    refine lv_iload_n hx hb dJ7_copyOf_6403c_31 rfl (lv_at hl 2 rfl) ?_
    refine va_mmin (own := RJ7) hx hb (by rw [hml]; exact hl.1.symm) hown (hts (.methodLink RJ7 304 Lib.Math.min.name) (by decide +kernel)) (hts (.static Lib.Math.min.name) (by decide +kernel)) (hts (.initialized "java/lang/Math") (by decide +kernel)) (hts (.code Lib.Math.min.name Lib.Math.min.code 2 (some .int)) (by decide +kernel)) (Nat.le_of_ble_eq_true rfl) (Nat.le_of_ble_eq_true rfl) (Nat.le_of_ble_eq_true rfl) (Nat.le_of_ble_eq_true rfl) dJ7_copyOf_6403c_32 ?_
    obtain ⟨hg6, hd⟩ := m_g_e hd
    obtain ⟨hg7, hd⟩ := m_g_e hd
    refine m_copyQ (own := RJ7) hx hb (by rw [hml]; exact hl.1.symm) hown (hts (.methodLink RJ7 150 arraycopyName) (by decide +kernel)) (hts (.native arraycopyName) (by decide +kernel)) (hts (.static arraycopyName) (by decide +kernel)) (hts (.initialized "java/lang/System") (by decide +kernel)) hM hP hS hg6 hg7 (Nat.le_of_ble_eq_true rfl) (Nat.le_of_ble_eq_true rfl) dJ7_copyOf_6403c_35 (fun H locs hP hS => ?_)
    obtain ⟨w8, ew, hd⟩ := m_l_e hd
    have hP : mP G w8 H := by rw [ew]; exact hP
    have hk4 : m_kd w8 (m_nx w) = 23 := by rw [ew]; exact hk4
    refine lv_aload_n hx hb dJ7_copyOf_6403c_38 rfl (lv_at hl 0 rfl) ?_
    obtain ⟨e1, e2⟩ := m_s_e hd
    refine W.widen (k := 1) (n := 600) (Nat.le_of_ble_eq_true rfl) (Nat.le_of_ble_eq_true rfl) ?_
    exact W.aret hx hb hr (Or.inr ⟨_, rfl⟩) (Or.inr ⟨_, rfl⟩) (fun t ht hW => ⟨⟨some (m_nx w), w8, rfl, ⟨congrArg some e1, e2⟩, by show mP _ _ t.heap; rw [ht]; exact hP⟩, hS.F ht⟩) hS.2.2 dJ7_copyOf_6403c_39


noncomputable def e_J7_copyOf_1904c (t0 : Nat × Nat × Nat × Nat) (w : mW) (p0 : Nat) (p1 : Int32) : Option (Nat × mW) := m_g (m_kd w p0 = 23) <| m_b (e_J7_copyOf_6403c t0 w p0 p1 t0.2.1) fun r2 w3 => some (r2, w3)
set_option maxHeartbeats 1000000 in
set_option maxRecDepth 100000 in
theorem c_J7_copyOf_1904c (l : Launch) (G : m_G) (w w' : mW) (p0 : Nat) (p1 : Int32) (r : Nat) (hd : e_J7_copyOf_1904c G.2.2.2 w p0 p1 = some (r, w')) : Met l yJ7_copyOf_1904c wsJ7_copyOf_1904c ({ frames := 3, cells := 1, slots := 600, locals := 103 } : Room) (m_Pc G w [.ref (p0), .int (p1)]) (m_Qq G (some r) w') 1 600 (fun q => G.1 ≤ q) := by
  refine Met.ofW (cc := cJ7_copyOf_1904c) (maxL := 2) (ret := (some (.array (.object "java/lang/Object")))) (by decide +kernel) rfl ?_
  intro p e s m args below meth c s₁ B hml hv
  obtain ⟨rfl, hM, hP⟩ := hv
  have hx := B.exec
  have hb := B.bytes
  have hr := B.returns
  have hts := atoms_spec (ws := wsJ7_copyOf_1904c) B.pre
  have hown : s.vm.findClass RJ7 = some m.cls := findClass_of_methodNamed B.named
  have hlocks := B.notSynchronized
  have hS : va_S (fun q => G.1 ≤ q) s.heap s.heap [] := va_S.rf
  have hl := lv_entry ([.ref (p0), .int (p1)]) (n := 2) (Nat.le_of_ble_eq_true rfl)
  rw [lg_entry_eq]
  generalize (lg_sl ([.ref (p0), .int (p1)]) ++ List.replicate (2 - (lg_sl ([.ref (p0), .int (p1)])).length) Slot.unset).toArray = ls at hl ⊢
  have hl : lv_has ls 2 [(0, .ref (p0)), (1, .int (p1))] := hl
  refine lv_aload_n hx hb dJ7_copyOf_1904c_0 rfl (lv_at hl 0 rfl) ?_
  refine lv_iload_n hx hb dJ7_copyOf_1904c_1 rfl (lv_at hl 1 rfl) ?_
  refine lv_aload_n hx hb dJ7_copyOf_1904c_2 rfl (lv_at hl 0 rfl) ?_
  obtain ⟨hg1, hd⟩ := m_g_e hd
  refine va_getC (C := "[Ljava/lang/Object;") (own := RJ7) hx hb (by rw [hml]; exact hl.1.symm) hown (hts (.methodLink RJ7 86 ⟨"java/lang/Object", "getClass", "()Ljava/lang/Class;"⟩) (by decide +kernel)) (va_Dc.use hM.2.1.2.2.2.2.2.1) (hts (.selects "[Ljava/lang/Object;" ⟨"java/lang/Object", "getClass", "()Ljava/lang/Class;"⟩ ⟨"java/lang/Object", "getClass", "()Ljava/lang/Class;"⟩) (by decide +kernel)) (hts (.instanceMethod ⟨"java/lang/Object", "getClass", "()Ljava/lang/Class;"⟩) (by decide +kernel)) (hts (.native ⟨"java/lang/Object", "getClass", "()Ljava/lang/Class;"⟩) (by decide +kernel)) hM.2.1.2.2.2.2.1 (m_recvQ hM.1 hP hg1) (Nat.le_of_ble_eq_true rfl) (Nat.le_of_ble_eq_true rfl) dJ7_copyOf_1904c_3 ?_
  obtain ⟨r2, w3, hc4, hd⟩ := m_b_e hd
  refine m_callr (k := 1) (n := 600) (va_runS (As := [.ref (p0), .int (p1), .ref (G.2.2.2.2.1)]) (rest := []) ⟨hx, hb, hml, hown, hts⟩ (c_J7_copyOf_6403c l G w w3 p0 p1 G.2.2.2.2.1 r2 hc4) (va_cwS 3 hts gJ7_copyOf_1904c_J7_copyOf_6403c rfl rfl rfl (by decide +kernel) ⟨(Nat.le_of_ble_eq_true rfl), (Nat.le_of_ble_eq_true rfl)⟩) (m_preS hM hP hS) rfl rfl hl.1 rfl (lv_room (Nat.le_of_ble_eq_true rfl)) dJ7_copyOf_1904c_6 ⟨(Nat.le_of_ble_eq_true rfl), (Nat.le_of_ble_eq_true rfl)⟩) hS ⟨(Nat.le_of_ble_eq_true rfl), (Nat.le_of_ble_eq_true rfl)⟩ (fun H locs hP hS => ?_)
  obtain ⟨e1, e2⟩ := m_s_e hd
  refine W.widen (k := 1) (n := 600) (Nat.le_of_ble_eq_true rfl) (Nat.le_of_ble_eq_true rfl) ?_
  exact W.aret hx hb hr (Or.inr ⟨_, rfl⟩) (Or.inr ⟨_, rfl⟩) (fun t ht hW => ⟨⟨some r2, w3, rfl, ⟨congrArg some e1, e2⟩, by show mP _ _ t.heap; rw [ht]; exact hP⟩, hS.F ht⟩) hS.2.2 dJ7_copyOf_1904c_9


noncomputable def e_Jx4a65c_grow_92f84_20 (t0 : Nat × Nat × Nat × Nat) (w : mW) (x0 : Nat) (x1 : Int32) (x2 : Int32) : Option (Nat × mW) := m_b (e_J8_newLength_cabcc w x2 (x1 - x2) (x2 >>> (1 &&& 31))) fun r111 w112 => m_g (m_kd w112 x0 = 3) <| m_o (m_fr w112 2 1 x0) fun r115 => m_b (e_J7_copyOf_1904c t0 w112 r115 r111) fun r116 w117 => m_g (m_kd w117 x0 = 3) <| m_l (m_sR w117 2 1 x0 (some r116)) fun w120 => some (r116, w120)
noncomputable def e_Jx4a65c_grow_92f84 (t0 : Nat × Nat × Nat × Nat) (w : mW) (h : Nat) (p0 : Int32) : Option (Nat × mW) := m_g (m_kd w h = 3) <| m_o (m_fr w 2 1 h) fun r2 => m_g (21 ≤ m_kd w r2 ∧ m_kd w r2 ≤ 25) <| if (0 : Int32) < (nI (m_ln w r2)) then (e_Jx4a65c_grow_92f84_20 t0 w h p0 (nI (m_ln w r2))) else (m_o (m_fr w 2 1 h) fun r5 => if (some r5 : Option Nat) = some t0.1 then (m_g (¬ (m_max 10 p0) < (0 : Int32) ∧ (m_max 10 p0 : Int32).toNatClampNeg ≤ 600 ∧ 600 ≤ 4000) <| m_l (m_nA w 23 (m_max 10 p0 : Int32).toNatClampNeg) fun w8 => m_l (m_sR w8 2 1 h (some (m_nx w))) fun w10 => some ((m_nx w), w10)) else (e_Jx4a65c_grow_92f84_20 t0 w h p0 (nI (m_ln w r2))))
set_option maxHeartbeats 1000000 in
set_option maxRecDepth 100000 in
theorem c_Jx4a65c_grow_92f84 (l : Launch) (G : m_G) (w w' : mW) (h : Nat) (p0 : Int32) (r : Nat) (hd : e_Jx4a65c_grow_92f84 G.2.2.2 w h p0 = some (r, w')) : Met l yJx4a65c_grow_92f84 wsJx4a65c_grow_92f84 ({ frames := 4, cells := 1, slots := 600, locals := 124 } : Room) (m_Pc G w [.ref (h), .int (p0)]) (m_Qq G (some r) w') 1 600 (fun q => G.1 ≤ q) := by
  refine Met.ofW (cc := cJx4a65c_grow_92f84) (maxL := 4) (ret := (some (.array (.object "java/lang/Object")))) (by decide +kernel) rfl ?_
  intro p e s m args below meth c s₁ B hml hv
  obtain ⟨rfl, hM, hP⟩ := hv
  have hx := B.exec
  have hb := B.bytes
  have hr := B.returns
  have hts := atoms_spec (ws := wsJx4a65c_grow_92f84) B.pre
  have hown : s.vm.findClass RJx4a65c = some m.cls := findClass_of_methodNamed B.named
  have hlocks := B.notSynchronized
  have hin2 : ∀ w ∈ u_ws RJx4a65c TJx4a65c 3, w ∈ wsJx4a65c_grow_92f84 := by decide +kernel
  have hS : va_S (fun q => G.1 ≤ q) s.heap s.heap [] := va_S.rf
  have J20 : ∀ (w : mW) (x0 : Nat) (x1 : Int32) (x2 : Int32) (H : Heap) (locs : List Loc) (ls : Array Slot), e_Jx4a65c_grow_92f84_20 G.2.2.2 w x0 x1 x2 = some (r, w') → mP G w H → va_S (fun q => G.1 ≤ q) s.heap H locs → lv_has ls 4 [(0, .ref (x0)), (1, .int (x1)), (2, .int (x2))] → W p l e ({ frames := 4, cells := 1, slots := 600, locals := 124 } : Room) s m ([.ref (h), .int (p0)] : List Value).toArray below meth c H locs 0 0 (MQ below (m_Qq G (some r) w') ([.ref (h), .int (p0)] : List Value).toArray s 1 600 (fun q => G.1 ≤ q)) (F0 m 20 ls []) := by
    intro w x0 x1 x2 H locs ls hd hP hS hl
    refine lv_iload_n hx hb dJx4a65c_grow_92f84_20 rfl (lv_at hl 2 rfl) ?_
    refine lv_iload_n hx hb dJx4a65c_grow_92f84_21 rfl (lv_at hl 1 rfl) ?_
    refine lv_iload_n hx hb dJx4a65c_grow_92f84_22 rfl (lv_at hl 2 rfl) ?_
    refine lv_isub hx hb dJx4a65c_grow_92f84_23 ?_
    refine lv_iload_n hx hb dJx4a65c_grow_92f84_24 rfl (lv_at hl 2 rfl) ?_
    refine lv_iconst (v := 1) hx hb dJx4a65c_grow_92f84_25 (by decide) ?_
    refine lv_ishr hx hb dJx4a65c_grow_92f84_26 ?_
    obtain ⟨r111, w112, hc113, hd⟩ := m_b_e hd
    refine m_calli (k := 0) (n := 0) (va_runS (As := [.int (x2), .int (x1 - x2), .int (x2 >>> (1 &&& 31))]) (rest := []) ⟨hx, hb, hml, hown, hts⟩ (c_J8_newLength_cabcc l G w w112 x2 (x1 - x2) (x2 >>> (1 &&& 31)) r111 hc113) (va_cwS 3 hts gJx4a65c_grow_92f84_J8_newLength_cabcc rfl rfl rfl (by decide +kernel) ⟨(Nat.le_of_ble_eq_true rfl), (Nat.le_of_ble_eq_true rfl)⟩) (m_preS hM hP hS) rfl rfl hl.1 rfl (lv_room (Nat.le_of_ble_eq_true rfl)) dJx4a65c_grow_92f84_27 ⟨(Nat.le_of_ble_eq_true rfl), (Nat.le_of_ble_eq_true rfl)⟩) hS ⟨(Nat.le_of_ble_eq_true rfl), (Nat.le_of_ble_eq_true rfl)⟩ (fun H locs hP hS => ?_)
    refine lv_istore_n (lv' := [(3, .int (r111)), (0, .ref (x0)), (1, .int (x1)), (2, .int (x2))]) hx hb dJx4a65c_grow_92f84_30 rfl hl (by decide) rfl (fun ls hl => ?_)
    refine lv_aload_n hx hb dJx4a65c_grow_92f84_31 rfl (lv_at hl 1 rfl) ?_
    refine lv_aload_n hx hb dJx4a65c_grow_92f84_32 rfl (lv_at hl 1 rfl) ?_
    obtain ⟨hk114, hd⟩ := m_g_e hd
    obtain ⟨r115, hr115, hd⟩ := m_o_e hd
    refine m_getR (C := RJx4a65c) (T := TJx4a65c) (N := 3) (own := RJx4a65c) (ref := RJx4a65c) hx hb hts hin2 hown hM.1 hP 2 rfl 1 (r := r115) ⟨hk114, hr115⟩ (by decide) (hts (.fieldLink RJx4a65c 9 "java/util/ArrayList" "elementData" "[Ljava/lang/Object;") (by decide +kernel)) (fun _ h9 => h9) dJx4a65c_grow_92f84_33 ?_
    refine lv_iload_n hx hb dJx4a65c_grow_92f84_36 rfl (lv_at hl 0 rfl) ?_
    obtain ⟨r116, w117, hc118, hd⟩ := m_b_e hd
    refine m_callr (k := 1) (n := 600) (va_runS (As := [.ref (r115), .int (r111)]) (rest := [.ref (x0)]) ⟨hx, hb, hml, hown, hts⟩ (c_J7_copyOf_1904c l G w112 w117 r115 r111 r116 hc118) (va_cwS 2 hts gJx4a65c_grow_92f84_J7_copyOf_1904c rfl rfl rfl (by decide +kernel) ⟨(Nat.le_of_ble_eq_true rfl), (Nat.le_of_ble_eq_true rfl)⟩) (m_preS hM hP hS) rfl rfl hl.1 rfl (lv_room (Nat.le_of_ble_eq_true rfl)) dJx4a65c_grow_92f84_37 ⟨(Nat.le_of_ble_eq_true rfl), (Nat.le_of_ble_eq_true rfl)⟩) hS ⟨(Nat.le_of_ble_eq_true rfl), (Nat.le_of_ble_eq_true rfl)⟩ (fun H locs hP hS => ?_)
    refine lv_dup_x1 hx hb dJx4a65c_grow_92f84_40 rfl rfl ?_
    obtain ⟨hk119, hd⟩ := m_g_e hd
    refine m_putR (C := RJx4a65c) (T := TJx4a65c) (N := 3) (own := RJx4a65c) (ref := RJx4a65c) hx hb hts hin2 tyJx4a65c tyJx4a65c_ok nmJx4a65c hown hM.1 hP hS 2 rfl 1 hk119 (by decide) (hts (.fieldLink RJx4a65c 9 "java/util/ArrayList" "elementData" "[Ljava/lang/Object;") (by decide +kernel)) (fun _ h9 => h9) (Or.inl rfl) (ty := .array (.object "java/lang/Object")) (by decide +kernel) ⟨rfl, rfl⟩ dJx4a65c_grow_92f84_41 (fun H locs hP hS => ?_)
    obtain ⟨w120, ew, hd⟩ := m_l_e hd
    have hP : mP G w120 H := by rw [ew]; exact hP
    have hk119 : m_kd w120 x0 = 3 := by rw [ew]; exact hk119
    obtain ⟨e1, e2⟩ := m_s_e hd
    refine W.widen (k := 1) (n := 600) (Nat.le_of_ble_eq_true rfl) (Nat.le_of_ble_eq_true rfl) ?_
    exact W.aret hx hb hr (Or.inr ⟨_, rfl⟩) (Or.inr ⟨_, rfl⟩) (fun t ht hW => ⟨⟨some r116, w120, rfl, ⟨congrArg some e1, e2⟩, by show mP _ _ t.heap; rw [ht]; exact hP⟩, hS.F ht⟩) hS.2.2 dJx4a65c_grow_92f84_44
  have hl := lv_entry ([.ref (h), .int (p0)]) (n := 4) (Nat.le_of_ble_eq_true rfl)
  rw [lg_entry_eq]
  generalize (lg_sl ([.ref (h), .int (p0)]) ++ List.replicate (4 - (lg_sl ([.ref (h), .int (p0)])).length) Slot.unset).toArray = ls at hl ⊢
  have hl : lv_has ls 4 [(0, .ref (h)), (1, .int (p0))] := hl
  refine lv_aload_n hx hb dJx4a65c_grow_92f84_0 rfl (lv_at hl 0 rfl) ?_
  obtain ⟨hk1, hd⟩ := m_g_e hd
  obtain ⟨r2, hr2, hd⟩ := m_o_e hd
  refine m_getR (C := RJx4a65c) (T := TJx4a65c) (N := 3) (own := RJx4a65c) (ref := RJx4a65c) hx hb hts hin2 hown hM.1 hP 2 rfl 1 (r := r2) ⟨hk1, hr2⟩ (by decide) (hts (.fieldLink RJx4a65c 9 "java/util/ArrayList" "elementData" "[Ljava/lang/Object;") (by decide +kernel)) (fun _ h9 => h9) dJx4a65c_grow_92f84_1 ?_
  obtain ⟨hg3, hd⟩ := m_g_e hd
  refine m_alen hx hb hM.1 hP hg3 dJx4a65c_grow_92f84_4 ?_
  refine lv_istore_n (lv' := [(2, .int (nI (m_ln w r2))), (0, .ref (h)), (1, .int (p0))]) hx hb dJx4a65c_grow_92f84_5 rfl hl (by decide) rfl (fun ls hl => ?_)
  refine lv_iload_n hx hb dJx4a65c_grow_92f84_6 rfl (lv_at hl 0 rfl) ?_
  refine lv_if_gt (tgt := 20) hx hb dJx4a65c_grow_92f84_7 (by decide) (fun c4 => ?_) (fun c4 => ?_)
  · have hd := m_i_t c4 hd
    refine W.widen (k := 0) (n := 0) (Nat.le_of_ble_eq_true rfl) (Nat.le_of_ble_eq_true rfl) ?_
    exact J20 w h p0 (nI (m_ln w r2)) _ _ _ hd hP hS (lv_sub hl [1, 2, 0] rfl)
  · have hd := m_i_f c4 hd
    refine lv_aload_n hx hb dJx4a65c_grow_92f84_10 rfl (lv_at hl 1 rfl) ?_
    obtain ⟨r5, hr5, hd⟩ := m_o_e hd
    refine m_getR (C := RJx4a65c) (T := TJx4a65c) (N := 3) (own := RJx4a65c) (ref := RJx4a65c) hx hb hts hin2 hown hM.1 hP 2 rfl 1 (r := r5) ⟨hk1, hr5⟩ (by decide) (hts (.fieldLink RJx4a65c 9 "java/util/ArrayList" "elementData" "[Ljava/lang/Object;") (by decide +kernel)) (fun _ h9 => h9) dJx4a65c_grow_92f84_11 ?_
    refine va_gets (own := RJx4a65c) (ref := "java/util/ArrayList") hx hb hM.2.2.1 hS hown (hts (.fieldLink RJx4a65c 39 "java/util/ArrayList" "DEFAULTCAPACITY_EMPTY_ELEMENTDATA" "[Ljava/lang/Object;") (by decide +kernel)) (fun _ h9 => h9) dJx4a65c_grow_92f84_14 ?_
    refine lv_acmp_eq (tgt := 45) (rx := some r5) (ry := some G.2.2.2.1) hx hb dJx4a65c_grow_92f84_17 (by decide) (fun c6 => ?_) (fun c6 => ?_)
    · have hd := m_i_t c6 hd
      refine lv_aload_n hx hb dJx4a65c_grow_92f84_45 rfl (lv_at hl 1 rfl) ?_
      refine lv_bipush (v := 10) hx hb dJx4a65c_grow_92f84_46 (by decide) ?_
      refine lv_iload_n hx hb dJx4a65c_grow_92f84_48 rfl (lv_at hl 2 rfl) ?_
      refine va_mmax (own := RJx4a65c) hx hb (by rw [hml]; exact hl.1.symm) hown (hts (.methodLink RJx4a65c 79 Lib.Math.max.name) (by decide +kernel)) (hts (.static Lib.Math.max.name) (by decide +kernel)) (hts (.initialized "java/lang/Math") (by decide +kernel)) (hts (.code Lib.Math.max.name Lib.Math.max.code 2 (some .int)) (by decide +kernel)) (Nat.le_of_ble_eq_true rfl) (Nat.le_of_ble_eq_true rfl) (Nat.le_of_ble_eq_true rfl) (Nat.le_of_ble_eq_true rfl) dJx4a65c_grow_92f84_49 ?_
      obtain ⟨hg7, hd⟩ := m_g_e hd
      have hne0 : h ≠ m_nx w := m_ne hP hk1 (by decide)
      refine m_newQ (own := RJx4a65c) hx hb hown (hts (.classLink RJx4a65c 7 "java/lang/Object") (by decide +kernel)) hM.2.1.2.2.2.1 hM.1 hP hS hg7 (Nat.le_of_ble_eq_true rfl) (Nat.le_of_ble_eq_true rfl) dJx4a65c_grow_92f84_52 (fun H hP hS => ?_)
      obtain ⟨w8, ew, hd⟩ := m_l_e hd
      have hP : mP G w8 H := by rw [ew]; exact hP
      have hk1 : m_kd w8 h = 3 := by rw [ew]; exact m_nA_old hk1 hne0
      have hk9 : m_kd w8 (m_nx w) = 23 := by rw [ew]; exact m_nA_new
      refine lv_dup_x1 hx hb dJx4a65c_grow_92f84_55 rfl rfl ?_
      refine m_putR (C := RJx4a65c) (T := TJx4a65c) (N := 3) (own := RJx4a65c) (ref := RJx4a65c) hx hb hts hin2 tyJx4a65c tyJx4a65c_ok nmJx4a65c hown hM.1 hP hS 2 rfl 1 hk1 (by decide) (hts (.fieldLink RJx4a65c 9 "java/util/ArrayList" "elementData" "[Ljava/lang/Object;") (by decide +kernel)) (fun _ h9 => h9) (Or.inl rfl) (ty := .array (.object "java/lang/Object")) (by decide +kernel) ⟨rfl, rfl⟩ dJx4a65c_grow_92f84_56 (fun H locs hP hS => ?_)
      obtain ⟨w10, ew, hd⟩ := m_l_e hd
      have hP : mP G w10 H := by rw [ew]; exact hP
      have hk1 : m_kd w10 h = 3 := by rw [ew]; exact hk1
      have hk9 : m_kd w10 (m_nx w) = 23 := by rw [ew]; exact hk9
      obtain ⟨e1, e2⟩ := m_s_e hd
      refine W.widen (k := 1) (n := 600) (Nat.le_of_ble_eq_true rfl) (Nat.le_of_ble_eq_true rfl) ?_
      exact W.aret hx hb hr (Or.inr ⟨_, rfl⟩) (Or.inr ⟨_, rfl⟩) (fun t ht hW => ⟨⟨some (m_nx w), w10, rfl, ⟨congrArg some e1, e2⟩, by show mP _ _ t.heap; rw [ht]; exact hP⟩, hS.F ht⟩) hS.2.2 dJx4a65c_grow_92f84_59
    · have hd := m_i_f c6 hd
      refine W.widen (k := 0) (n := 0) (Nat.le_of_ble_eq_true rfl) (Nat.le_of_ble_eq_true rfl) ?_
      exact J20 w h p0 (nI (m_ln w r2)) _ _ _ hd hP hS (lv_sub hl [1, 2, 0] rfl)


noncomputable def e_Jx4a65c_grow_d5877 (t0 : Nat × Nat × Nat × Nat) (w : mW) (h : Nat) : Option (Nat × mW) := m_g (m_kd w h = 3) <| m_b (e_Jx4a65c_grow_92f84 t0 w h ((m_fi w 2 2 h) + 1)) fun r2 w3 => some (r2, w3)
set_option maxHeartbeats 1000000 in
set_option maxRecDepth 100000 in
theorem c_Jx4a65c_grow_d5877 (l : Launch) (G : m_G) (w w' : mW) (h : Nat) (r : Nat) (hd : e_Jx4a65c_grow_d5877 G.2.2.2 w h = some (r, w')) : Met l yJx4a65c_grow_d5877 wsJx4a65c_grow_d5877 ({ frames := 5, cells := 1, slots := 600, locals := 147 } : Room) (m_Pc G w [.ref (h)]) (m_Qq G (some r) w') 1 600 (fun q => G.1 ≤ q) := by
  refine Met.ofW (cc := cJx4a65c_grow_d5877) (maxL := 1) (ret := (some (.array (.object "java/lang/Object")))) (by decide +kernel) rfl ?_
  intro p e s m args below meth c s₁ B hml hv
  obtain ⟨rfl, hM, hP⟩ := hv
  have hx := B.exec
  have hb := B.bytes
  have hr := B.returns
  have hts := atoms_spec (ws := wsJx4a65c_grow_d5877) B.pre
  have hown : s.vm.findClass RJx4a65c = some m.cls := findClass_of_methodNamed B.named
  have hlocks := B.notSynchronized
  have hin2 : ∀ w ∈ u_ws RJx4a65c TJx4a65c 3, w ∈ wsJx4a65c_grow_d5877 := by decide +kernel
  have hS : va_S (fun q => G.1 ≤ q) s.heap s.heap [] := va_S.rf
  have hl := lv_entry ([.ref (h)]) (n := 1) (Nat.le_of_ble_eq_true rfl)
  rw [lg_entry_eq]
  generalize (lg_sl ([.ref (h)]) ++ List.replicate (1 - (lg_sl ([.ref (h)])).length) Slot.unset).toArray = ls at hl ⊢
  have hl : lv_has ls 1 [(0, .ref (h))] := hl
  refine lv_aload_n hx hb dJx4a65c_grow_d5877_0 rfl (lv_at hl 0 rfl) ?_
  refine lv_aload_n hx hb dJx4a65c_grow_d5877_1 rfl (lv_at hl 0 rfl) ?_
  obtain ⟨hk1, hd⟩ := m_g_e hd
  refine m_getI (C := RJx4a65c) (T := TJx4a65c) (N := 3) (own := RJx4a65c) (ref := RJx4a65c) hx hb hts hin2 hown hM.1 hP 2 rfl 2 hk1 (by decide) (hts (.fieldLink RJx4a65c 48 "java/util/ArrayList" "size" "I") (by decide +kernel)) (fun _ h9 => h9) dJx4a65c_grow_d5877_2 ?_
  refine lv_iconst (v := 1) hx hb dJx4a65c_grow_d5877_5 (by decide) ?_
  refine lv_iadd hx hb dJx4a65c_grow_d5877_6 ?_
  obtain ⟨r2, w3, hc4, hd⟩ := m_b_e hd
  refine m_callr (k := 1) (n := 600) (va_runV (As := [.int ((m_fi w 2 2 h) + 1)]) (rest := []) ⟨hx, hb, hml, hown, hts⟩ (c_Jx4a65c_grow_92f84 l G w w3 h ((m_fi w 2 2 h) + 1) r2 hc4) (cwV 1 hts gJx4a65c_grow_d5877_Jx4a65c_grow_92f84 rfl rfl rfl (by decide +kernel) ⟨(Nat.le_of_ble_eq_true rfl), (Nat.le_of_ble_eq_true rfl)⟩) (m_preV (C := RJx4a65c) (T := TJx4a65c) (N := 3) hM hP hS rfl (by decide) hk1) rfl rfl hl.1 rfl (lv_room (Nat.le_of_ble_eq_true rfl)) dJx4a65c_grow_d5877_7 ⟨(Nat.le_of_ble_eq_true rfl), (Nat.le_of_ble_eq_true rfl)⟩) hS ⟨(Nat.le_of_ble_eq_true rfl), (Nat.le_of_ble_eq_true rfl)⟩ (fun H locs hP hS => ?_)
  obtain ⟨e1, e2⟩ := m_s_e hd
  refine W.widen (k := 1) (n := 600) (Nat.le_of_ble_eq_true rfl) (Nat.le_of_ble_eq_true rfl) ?_
  exact W.aret hx hb hr (Or.inr ⟨_, rfl⟩) (Or.inr ⟨_, rfl⟩) (fun t ht hW => ⟨⟨some r2, w3, rfl, ⟨congrArg some e1, e2⟩, by show mP _ _ t.heap; rw [ht]; exact hP⟩, hS.F ht⟩) hS.2.2 dJx4a65c_grow_d5877_10


noncomputable def e_Jx4a65c_add_72be8_11 (t0 : Nat × Nat × Nat × Nat) (w : mW) (x0 : Nat) (x1 : Nat) (x2 : Nat) (x3 : Int32) : Option (Unit × mW) := m_g (m_kd w x2 = 23 ∧ ¬ (x3 < 0 ∨ m_ln w x2 ≤ x3.toNatClampNeg)) <| m_g (1 ≤ m_kd w x1 ∧ m_kd w x1 ≤ 11) <| m_l (m_sO w x2 (x3.toNatClampNeg) (some x1)) fun w109 => m_g (m_kd w109 x0 = 3) <| m_l (m_sI w109 2 2 x0 (x3 + 1)) fun w111 => some ((), w111)
noncomputable def e_Jx4a65c_add_72be8 (t0 : Nat × Nat × Nat × Nat) (w : mW) (h : Nat) (p0 : Nat) (p1 : Nat) (p2 : Int32) : Option (Unit × mW) := m_g (21 ≤ m_kd w p1 ∧ m_kd w p1 ≤ 25) <| if p2 = (nI (m_ln w p1)) then (m_g (m_kd w h = 3) <| m_b (e_Jx4a65c_grow_d5877 t0 w h) fun r4 w5 => e_Jx4a65c_add_72be8_11 t0 w5 h p0 r4 p2) else (e_Jx4a65c_add_72be8_11 t0 w h p0 p1 p2)
set_option maxHeartbeats 1000000 in
set_option maxRecDepth 100000 in
theorem c_Jx4a65c_add_72be8 (l : Launch) (G : m_G) (w w' : mW) (h : Nat) (p0 : Nat) (p1 : Nat) (p2 : Int32) (r : Unit) (hd : e_Jx4a65c_add_72be8 G.2.2.2 w h p0 p1 p2 = some (r, w')) : Met l yJx4a65c_add_72be8 wsJx4a65c_add_72be8 ({ frames := 6, cells := 1, slots := 600, locals := 167 } : Room) (m_Pc G w [.ref (h), .ref (p0), .ref (p1), .int (p2)]) (m_Qv G r w') 1 600 (fun q => G.1 ≤ q) := by
  refine Met.ofW (cc := cJx4a65c_add_72be8) (maxL := 4) (ret := none) (by decide +kernel) rfl ?_
  intro p e s m args below meth c s₁ B hml hv
  obtain ⟨rfl, hM, hP⟩ := hv
  have hx := B.exec
  have hb := B.bytes
  have hr := B.returns
  have hts := atoms_spec (ws := wsJx4a65c_add_72be8) B.pre
  have hown : s.vm.findClass RJx4a65c = some m.cls := findClass_of_methodNamed B.named
  have hlocks := B.notSynchronized
  have hin2 : ∀ w ∈ u_ws RJx4a65c TJx4a65c 3, w ∈ wsJx4a65c_add_72be8 := by decide +kernel
  have hS : va_S (fun q => G.1 ≤ q) s.heap s.heap [] := va_S.rf
  have J11 : ∀ (w : mW) (x0 : Nat) (x1 : Nat) (x2 : Nat) (x3 : Int32) (H : Heap) (locs : List Loc) (ls : Array Slot), e_Jx4a65c_add_72be8_11 G.2.2.2 w x0 x1 x2 x3 = some (r, w') → mP G w H → va_S (fun q => G.1 ≤ q) s.heap H locs → lv_has ls 4 [(0, .ref (x0)), (1, .ref (x1)), (2, .ref (x2)), (3, .int (x3))] → W p l e ({ frames := 6, cells := 1, slots := 600, locals := 167 } : Room) s m ([.ref (h), .ref (p0), .ref (p1), .int (p2)] : List Value).toArray below meth c H locs 1 600 (MQ below (m_Qv G r w') ([.ref (h), .ref (p0), .ref (p1), .int (p2)] : List Value).toArray s 1 600 (fun q => G.1 ≤ q)) (F0 m 11 ls []) := by
    intro w x0 x1 x2 x3 H locs ls hd hP hS hl
    refine lv_aload_n hx hb dJx4a65c_add_72be8_11 rfl (lv_at hl 2 rfl) ?_
    refine lv_iload_n hx hb dJx4a65c_add_72be8_12 rfl (lv_at hl 3 rfl) ?_
    refine lv_aload_n hx hb dJx4a65c_add_72be8_13 rfl (lv_at hl 1 rfl) ?_
    obtain ⟨hg107, hd⟩ := m_g_e hd
    obtain ⟨hv108, hd⟩ := m_g_e hd
    refine m_aast hx hb hM.1 hP hS (m_anyK hM hP hv108) hg107 dJx4a65c_add_72be8_14 (fun H locs hP hS => ?_)
    obtain ⟨w109, ew, hd⟩ := m_l_e hd
    have hP : mP G w109 H := by rw [ew]; exact hP
    refine lv_aload_n hx hb dJx4a65c_add_72be8_15 rfl (lv_at hl 0 rfl) ?_
    refine lv_iload_n hx hb dJx4a65c_add_72be8_16 rfl (lv_at hl 3 rfl) ?_
    refine lv_iconst (v := 1) hx hb dJx4a65c_add_72be8_17 (by decide) ?_
    refine lv_iadd hx hb dJx4a65c_add_72be8_18 ?_
    obtain ⟨hk110, hd⟩ := m_g_e hd
    refine m_putI (C := RJx4a65c) (T := TJx4a65c) (N := 3) (own := RJx4a65c) (ref := RJx4a65c) hx hb hts hin2 tyJx4a65c tyJx4a65c_ok nmJx4a65c hown hM.1 hP hS 2 rfl 2 hk110 (by decide) (hts (.fieldLink RJx4a65c 48 "java/util/ArrayList" "size" "I") (by decide +kernel)) (fun _ h9 => h9) (Or.inl rfl) (ty := .int) rfl ⟨rfl, rfl⟩ dJx4a65c_add_72be8_19 (fun H locs hP hS => ?_)
    obtain ⟨w111, ew, hd⟩ := m_l_e hd
    have hP : mP G w111 H := by rw [ew]; exact hP
    have hk110 : m_kd w111 x0 = 3 := by rw [ew]; exact hk110
    obtain ⟨e1, e2⟩ := m_s_e hd
    refine W.widen (k := 1) (n := 600) (Nat.le_of_ble_eq_true rfl) (Nat.le_of_ble_eq_true rfl) ?_
    exact W.vret hx hb hr (fun t ht hW => ⟨⟨w111, rfl, e2, by show mP _ _ t.heap; rw [ht]; exact hP⟩, hS.F ht⟩) hS.2.2 dJx4a65c_add_72be8_22
  have hl := lv_entry ([.ref (h), .ref (p0), .ref (p1), .int (p2)]) (n := 4) (Nat.le_of_ble_eq_true rfl)
  rw [lg_entry_eq]
  generalize (lg_sl ([.ref (h), .ref (p0), .ref (p1), .int (p2)]) ++ List.replicate (4 - (lg_sl ([.ref (h), .ref (p0), .ref (p1), .int (p2)])).length) Slot.unset).toArray = ls at hl ⊢
  have hl : lv_has ls 4 [(0, .ref (h)), (1, .ref (p0)), (2, .ref (p1)), (3, .int (p2))] := hl
  refine lv_iload_n hx hb dJx4a65c_add_72be8_0 rfl (lv_at hl 3 rfl) ?_
  refine lv_aload_n hx hb dJx4a65c_add_72be8_1 rfl (lv_at hl 2 rfl) ?_
  obtain ⟨hg1, hd⟩ := m_g_e hd
  refine m_alen hx hb hM.1 hP hg1 dJx4a65c_add_72be8_2 ?_
  refine lv_icmp_ne (tgt := 11) hx hb dJx4a65c_add_72be8_3 (by decide) (fun c2 => ?_) (fun c2 => ?_)
  · have hd := m_i_f c2 hd
    refine W.widen (k := 1) (n := 600) (Nat.le_of_ble_eq_true rfl) (Nat.le_of_ble_eq_true rfl) ?_
    exact J11 w h p0 p1 p2 _ _ _ hd hP hS (lv_sub hl [0, 1, 2, 3] rfl)
  · have hd := m_i_t c2 hd
    refine lv_aload_n hx hb dJx4a65c_add_72be8_6 rfl (lv_at hl 0 rfl) ?_
    obtain ⟨hk3, hd⟩ := m_g_e hd
    obtain ⟨r4, w5, hc6, hd⟩ := m_b_e hd
    refine m_callr (k := 1) (n := 600) (va_runV (As := []) (rest := []) ⟨hx, hb, hml, hown, hts⟩ (c_Jx4a65c_grow_d5877 l G w w5 h r4 hc6) (cwV 0 hts gJx4a65c_add_72be8_Jx4a65c_grow_d5877 rfl rfl rfl (by decide +kernel) ⟨(Nat.le_of_ble_eq_true rfl), (Nat.le_of_ble_eq_true rfl)⟩) (m_preV (C := RJx4a65c) (T := TJx4a65c) (N := 3) hM hP hS rfl (by decide) hk3) rfl rfl hl.1 rfl (lv_room (Nat.le_of_ble_eq_true rfl)) dJx4a65c_add_72be8_7 ⟨(Nat.le_of_ble_eq_true rfl), (Nat.le_of_ble_eq_true rfl)⟩) hS ⟨(Nat.le_of_ble_eq_true rfl), (Nat.le_of_ble_eq_true rfl)⟩ (fun H locs hP hS => ?_)
    refine lv_astore_n (lv' := [(2, .ref (r4)), (0, .ref (h)), (1, .ref (p0)), (3, .int (p2))]) hx hb dJx4a65c_add_72be8_10 rfl hl (by decide) rfl (fun ls hl => ?_)
    refine W.widen (k := 1) (n := 600) (Nat.le_of_ble_eq_true rfl) (Nat.le_of_ble_eq_true rfl) ?_
    exact J11 w5 h p0 r4 p2 _ _ _ hd hP hS (lv_sub hl [1, 2, 0, 3] rfl)


noncomputable def e_Jx4a65c_add_9ea2d (t0 : Nat × Nat × Nat × Nat) (w : mW) (h : Nat) (p0 : Nat) : Option (Int32 × mW) := m_g (m_kd w h = 3) <| m_l (m_sI w 2 0 h ((m_fi w 2 0 h) + 1)) fun w2 => m_o (m_fr w2 2 1 h) fun r3 => m_b (e_Jx4a65c_add_72be8 t0 w2 h p0 r3 (m_fi w2 2 2 h)) fun r4 w5 => m_g (vp_nar .boolean 1 = 1) <| some (1, w5)
set_option maxHeartbeats 1000000 in
set_option maxRecDepth 100000 in
theorem c_Jx4a65c_add_9ea2d (l : Launch) (G : m_G) (w w' : mW) (h : Nat) (p0 : Nat) (r : Int32) (hd : e_Jx4a65c_add_9ea2d G.2.2.2 w h p0 = some (r, w')) : Met l yJx4a65c_add_9ea2d wsJx4a65c_add_9ea2d ({ frames := 7, cells := 1, slots := 600, locals := 190 } : Room) (m_Pc G w [.ref (h), .ref (p0)]) (m_Qi G r w') 1 600 (fun q => G.1 ≤ q) := by
  refine Met.ofW (cc := cJx4a65c_add_9ea2d) (maxL := 2) (ret := (some .boolean)) (by decide +kernel) rfl ?_
  intro p e s m args below meth c s₁ B hml hv
  obtain ⟨rfl, hM, hP⟩ := hv
  have hx := B.exec
  have hb := B.bytes
  have hr := B.returns
  have hts := atoms_spec (ws := wsJx4a65c_add_9ea2d) B.pre
  have hown : s.vm.findClass RJx4a65c = some m.cls := findClass_of_methodNamed B.named
  have hlocks := B.notSynchronized
  have hin2 : ∀ w ∈ u_ws RJx4a65c TJx4a65c 3, w ∈ wsJx4a65c_add_9ea2d := by decide +kernel
  have hS : va_S (fun q => G.1 ≤ q) s.heap s.heap [] := va_S.rf
  have hl := lv_entry ([.ref (h), .ref (p0)]) (n := 2) (Nat.le_of_ble_eq_true rfl)
  rw [lg_entry_eq]
  generalize (lg_sl ([.ref (h), .ref (p0)]) ++ List.replicate (2 - (lg_sl ([.ref (h), .ref (p0)])).length) Slot.unset).toArray = ls at hl ⊢
  have hl : lv_has ls 2 [(0, .ref (h)), (1, .ref (p0))] := hl
  refine lv_aload_n hx hb dJx4a65c_add_9ea2d_0 rfl (lv_at hl 0 rfl) ?_
  refine lv_dup hx hb dJx4a65c_add_9ea2d_1 rfl ?_
  obtain ⟨hk1, hd⟩ := m_g_e hd
  refine m_getI (C := RJx4a65c) (T := TJx4a65c) (N := 3) (own := RJx4a65c) (ref := RJx4a65c) hx hb hts hin2 hown hM.1 hP 2 rfl 0 hk1 (by decide) (hts (.fieldLink RJx4a65c 63 "java/util/ArrayList" "modCount" "I") (by decide +kernel)) (u_same (hts (.sameField "java/util/ArrayList" "java/util/AbstractList" "modCount" "I") (by decide +kernel))) dJx4a65c_add_9ea2d_2 ?_
  refine lv_iconst (v := 1) hx hb dJx4a65c_add_9ea2d_5 (by decide) ?_
  refine lv_iadd hx hb dJx4a65c_add_9ea2d_6 ?_
  refine m_putI (C := RJx4a65c) (T := TJx4a65c) (N := 3) (own := RJx4a65c) (ref := RJx4a65c) hx hb hts hin2 tyJx4a65c tyJx4a65c_ok nmJx4a65c hown hM.1 hP hS 2 rfl 0 hk1 (by decide) (hts (.fieldLink RJx4a65c 63 "java/util/ArrayList" "modCount" "I") (by decide +kernel)) (u_same (hts (.sameField "java/util/ArrayList" "java/util/AbstractList" "modCount" "I") (by decide +kernel))) (Or.inl rfl) (ty := .int) rfl ⟨rfl, rfl⟩ dJx4a65c_add_9ea2d_7 (fun H locs hP hS => ?_)
  obtain ⟨w2, ew, hd⟩ := m_l_e hd
  have hP : mP G w2 H := by rw [ew]; exact hP
  have hk1 : m_kd w2 h = 3 := by rw [ew]; exact hk1
  refine lv_aload_n hx hb dJx4a65c_add_9ea2d_10 rfl (lv_at hl 0 rfl) ?_
  refine lv_aload_n hx hb dJx4a65c_add_9ea2d_11 rfl (lv_at hl 1 rfl) ?_
  refine lv_aload_n hx hb dJx4a65c_add_9ea2d_12 rfl (lv_at hl 0 rfl) ?_
  obtain ⟨r3, hr3, hd⟩ := m_o_e hd
  refine m_getR (C := RJx4a65c) (T := TJx4a65c) (N := 3) (own := RJx4a65c) (ref := RJx4a65c) hx hb hts hin2 hown hM.1 hP 2 rfl 1 (r := r3) ⟨hk1, hr3⟩ (by decide) (hts (.fieldLink RJx4a65c 9 "java/util/ArrayList" "elementData" "[Ljava/lang/Object;") (by decide +kernel)) (fun _ h9 => h9) dJx4a65c_add_9ea2d_13 ?_
  refine lv_aload_n hx hb dJx4a65c_add_9ea2d_16 rfl (lv_at hl 0 rfl) ?_
  refine m_getI (C := RJx4a65c) (T := TJx4a65c) (N := 3) (own := RJx4a65c) (ref := RJx4a65c) hx hb hts hin2 hown hM.1 hP 2 rfl 2 hk1 (by decide) (hts (.fieldLink RJx4a65c 48 "java/util/ArrayList" "size" "I") (by decide +kernel)) (fun _ h9 => h9) dJx4a65c_add_9ea2d_17 ?_
  obtain ⟨r4, w5, hc6, hd⟩ := m_b_e hd
  refine m_callv (k := 1) (n := 600) (va_runV (As := [.ref (p0), .ref (r3), .int (m_fi w2 2 2 h)]) (rest := []) ⟨hx, hb, hml, hown, hts⟩ (c_Jx4a65c_add_72be8 l G w2 w5 h p0 r3 (m_fi w2 2 2 h) r4 hc6) (cwV 3 hts gJx4a65c_add_9ea2d_Jx4a65c_add_72be8 rfl rfl rfl (by decide +kernel) ⟨(Nat.le_of_ble_eq_true rfl), (Nat.le_of_ble_eq_true rfl)⟩) (m_preV (C := RJx4a65c) (T := TJx4a65c) (N := 3) hM hP hS rfl (by decide) hk1) rfl rfl hl.1 rfl (lv_room (Nat.le_of_ble_eq_true rfl)) dJx4a65c_add_9ea2d_20 ⟨(Nat.le_of_ble_eq_true rfl), (Nat.le_of_ble_eq_true rfl)⟩) hS ⟨(Nat.le_of_ble_eq_true rfl), (Nat.le_of_ble_eq_true rfl)⟩ (fun H locs hP hS => ?_)
  refine lv_iconst (v := 1) hx hb dJx4a65c_add_9ea2d_23 (by decide) ?_
  obtain ⟨hn7, hd⟩ := m_g_e hd
  obtain ⟨e1, e2⟩ := m_s_e hd
  refine W.widen (k := 1) (n := 600) (Nat.le_of_ble_eq_true rfl) (Nat.le_of_ble_eq_true rfl) ?_
  exact W.zret hx hb hr (m_narZ hn7).1 (fun t ht hW => ⟨⟨_, w5, rfl, ⟨e1, e2⟩, by show mP _ _ t.heap; rw [ht]; exact hP⟩, hS.F ht⟩) hS.2.2 dJx4a65c_add_9ea2d_24


noncomputable def e_Jx4a65c_clear_da8c8_27_b (k27 : mW → Nat → Int32 → Int32 → Option (Unit × mW)) (w : mW) (x1 : Nat) (x2 : Int32) (x3 : Int32) : Option (Unit × mW) := if x2 ≤ x3 then (some ((), w)) else (m_g (m_kd w x1 = 23 ∧ ¬ (x3 < 0 ∨ m_ln w x1 ≤ x3.toNatClampNeg)) <| m_l (m_sO w x1 (x3.toNatClampNeg) none) fun w107 => k27 w107 x1 x2 (x3 + 1))
noncomputable def e_Jx4a65c_clear_da8c8_27 (n : Nat) : mW → Nat → Int32 → Int32 → Option (Unit × mW) := Nat.rec (motive := fun _ => mW → Nat → Int32 → Int32 → Option (Unit × mW)) (fun _ _ _ _ => none) (fun _ k => e_Jx4a65c_clear_da8c8_27_b  k) n
noncomputable def e_Jx4a65c_clear_da8c8 (w : mW) (h : Nat) : Option (Unit × mW) := m_g (m_kd w h = 3) <| m_l (m_sI w 2 0 h ((m_fi w 2 0 h) + 1)) fun w2 => m_o (m_fr w2 2 1 h) fun r3 => m_l (m_sI w2 2 2 h 0) fun w4 => e_Jx4a65c_clear_da8c8_27 m_N w4 r3 (m_fi w2 2 2 h) 0
set_option maxHeartbeats 1000000 in
set_option maxRecDepth 100000 in
theorem c_Jx4a65c_clear_da8c8 (l : Launch) (G : m_G) (w w' : mW) (h : Nat) (r : Unit) (hd : e_Jx4a65c_clear_da8c8 w h = some (r, w')) : Met l yJx4a65c_clear_da8c8 wsJx4a65c_clear_da8c8 ({ frames := 0, cells := 0, slots := 0, locals := 0 } : Room) (m_Pc G w [.ref (h)]) (m_Qv G r w') 0 0 (fun q => G.1 ≤ q) := by
  refine Met.ofW (cc := cJx4a65c_clear_da8c8) (maxL := 4) (ret := none) (by decide +kernel) rfl ?_
  intro p e s m args below meth c s₁ B hml hv
  obtain ⟨rfl, hM, hP⟩ := hv
  have hx := B.exec
  have hb := B.bytes
  have hr := B.returns
  have hts := atoms_spec (ws := wsJx4a65c_clear_da8c8) B.pre
  have hown : s.vm.findClass RJx4a65c = some m.cls := findClass_of_methodNamed B.named
  have hlocks := B.notSynchronized
  have hin2 : ∀ w ∈ u_ws RJx4a65c TJx4a65c 3, w ∈ wsJx4a65c_clear_da8c8 := by decide +kernel
  have hS : va_S (fun q => G.1 ≤ q) s.heap s.heap [] := va_S.rf
  have J27 : ∀ (n27 : Nat) (w : mW) (x1 : Nat) (x2 : Int32) (x3 : Int32) (H : Heap) (locs : List Loc) (ls : Array Slot), e_Jx4a65c_clear_da8c8_27 n27 w x1 x2 x3 = some (r, w') → mP G w H → va_S (fun q => G.1 ≤ q) s.heap H locs → lv_has ls 4 [(1, .ref (x1)), (2, .int (x2)), (3, .int (x3))] → W p l e ({ frames := 0, cells := 0, slots := 0, locals := 0 } : Room) s m ([.ref (h)] : List Value).toArray below meth c H locs 0 0 (MQ below (m_Qv G r w') ([.ref (h)] : List Value).toArray s 0 0 (fun q => G.1 ≤ q)) (F0 m 27 ls []) := by
    intro n27
    induction n27 with
    | zero => intro w x1 x2 x3 H locs ls hd; exact absurd (show (none : Option (Unit × mW)) = some _ from hd) (fun h => nomatch h)
    | succ n27 ih27 =>
      intro w x1 x2 x3 H locs ls hd hP hS hl
      have hd : e_Jx4a65c_clear_da8c8_27_b (e_Jx4a65c_clear_da8c8_27 n27) w x1 x2 x3 = some (r, w') := hd
      refine lv_iload_n hx hb dJx4a65c_clear_da8c8_27 rfl (lv_at hl 2 rfl) ?_
      refine lv_iload_n hx hb dJx4a65c_clear_da8c8_28 rfl (lv_at hl 1 rfl) ?_
      refine lv_icmp_ge (tgt := 42) hx hb dJx4a65c_clear_da8c8_29 (by decide) (fun c105 => ?_) (fun c105 => ?_)
      · have hd := m_i_t c105 hd
        obtain ⟨e1, e2⟩ := m_s_e hd
        refine W.widen (k := 0) (n := 0) (Nat.le_of_ble_eq_true rfl) (Nat.le_of_ble_eq_true rfl) ?_
        exact W.vret hx hb hr (fun t ht hW => ⟨⟨w, rfl, e2, by show mP _ _ t.heap; rw [ht]; exact hP⟩, hS.F ht⟩) hS.2.2 dJx4a65c_clear_da8c8_42
      · have hd := m_i_f c105 hd
        refine lv_aload_n hx hb dJx4a65c_clear_da8c8_32 rfl (lv_at hl 0 rfl) ?_
        refine lv_iload_n hx hb dJx4a65c_clear_da8c8_33 rfl (lv_at hl 2 rfl) ?_
        refine lv_null hx hb dJx4a65c_clear_da8c8_34 ?_
        obtain ⟨hg106, hd⟩ := m_g_e hd
        refine m_aastN hx hb hM.1 hP hS hg106 dJx4a65c_clear_da8c8_35 (fun H locs hP hS => ?_)
        obtain ⟨w107, ew, hd⟩ := m_l_e hd
        have hP : mP G w107 H := by rw [ew]; exact hP
        refine lv_iinc (v := x3 + 1) (lv' := [(3, .int (x3 + 1)), (1, .ref (x1)), (2, .int (x2))]) hx hb dJx4a65c_clear_da8c8_36 hl (k := 2) rfl rfl (by decide) rfl (fun ls hl => ?_)
        refine lv_goto (tgt := 27) hx hb dJx4a65c_clear_da8c8_39 (by decide) ?_
        refine W.widen (k := 0) (n := 0) (Nat.le_of_ble_eq_true rfl) (Nat.le_of_ble_eq_true rfl) ?_
        exact ih27 w107 x1 x2 (x3 + 1) _ _ _ hd hP hS (lv_sub hl [1, 2, 0] rfl)
  have hl := lv_entry ([.ref (h)]) (n := 4) (Nat.le_of_ble_eq_true rfl)
  rw [lg_entry_eq]
  generalize (lg_sl ([.ref (h)]) ++ List.replicate (4 - (lg_sl ([.ref (h)])).length) Slot.unset).toArray = ls at hl ⊢
  have hl : lv_has ls 4 [(0, .ref (h))] := hl
  refine lv_aload_n hx hb dJx4a65c_clear_da8c8_0 rfl (lv_at hl 0 rfl) ?_
  refine lv_dup hx hb dJx4a65c_clear_da8c8_1 rfl ?_
  obtain ⟨hk1, hd⟩ := m_g_e hd
  refine m_getI (C := RJx4a65c) (T := TJx4a65c) (N := 3) (own := RJx4a65c) (ref := RJx4a65c) hx hb hts hin2 hown hM.1 hP 2 rfl 0 hk1 (by decide) (hts (.fieldLink RJx4a65c 63 "java/util/ArrayList" "modCount" "I") (by decide +kernel)) (u_same (hts (.sameField "java/util/ArrayList" "java/util/AbstractList" "modCount" "I") (by decide +kernel))) dJx4a65c_clear_da8c8_2 ?_
  refine lv_iconst (v := 1) hx hb dJx4a65c_clear_da8c8_5 (by decide) ?_
  refine lv_iadd hx hb dJx4a65c_clear_da8c8_6 ?_
  refine m_putI (C := RJx4a65c) (T := TJx4a65c) (N := 3) (own := RJx4a65c) (ref := RJx4a65c) hx hb hts hin2 tyJx4a65c tyJx4a65c_ok nmJx4a65c hown hM.1 hP hS 2 rfl 0 hk1 (by decide) (hts (.fieldLink RJx4a65c 63 "java/util/ArrayList" "modCount" "I") (by decide +kernel)) (u_same (hts (.sameField "java/util/ArrayList" "java/util/AbstractList" "modCount" "I") (by decide +kernel))) (Or.inl rfl) (ty := .int) rfl ⟨rfl, rfl⟩ dJx4a65c_clear_da8c8_7 (fun H locs hP hS => ?_)
  obtain ⟨w2, ew, hd⟩ := m_l_e hd
  have hP : mP G w2 H := by rw [ew]; exact hP
  have hk1 : m_kd w2 h = 3 := by rw [ew]; exact hk1
  refine lv_aload_n hx hb dJx4a65c_clear_da8c8_10 rfl (lv_at hl 0 rfl) ?_
  obtain ⟨r3, hr3, hd⟩ := m_o_e hd
  refine m_getR (C := RJx4a65c) (T := TJx4a65c) (N := 3) (own := RJx4a65c) (ref := RJx4a65c) hx hb hts hin2 hown hM.1 hP 2 rfl 1 (r := r3) ⟨hk1, hr3⟩ (by decide) (hts (.fieldLink RJx4a65c 9 "java/util/ArrayList" "elementData" "[Ljava/lang/Object;") (by decide +kernel)) (fun _ h9 => h9) dJx4a65c_clear_da8c8_11 ?_
  refine lv_astore_n (lv' := [(1, .ref (r3)), (0, .ref (h))]) hx hb dJx4a65c_clear_da8c8_14 rfl hl (by decide) rfl (fun ls hl => ?_)
  refine lv_aload_n hx hb dJx4a65c_clear_da8c8_15 rfl (lv_at hl 1 rfl) ?_
  refine m_getI (C := RJx4a65c) (T := TJx4a65c) (N := 3) (own := RJx4a65c) (ref := RJx4a65c) hx hb hts hin2 hown hM.1 hP 2 rfl 2 hk1 (by decide) (hts (.fieldLink RJx4a65c 48 "java/util/ArrayList" "size" "I") (by decide +kernel)) (fun _ h9 => h9) dJx4a65c_clear_da8c8_16 ?_
  refine lv_istore_n (lv' := [(2, .int (m_fi w2 2 2 h)), (1, .ref (r3)), (0, .ref (h))]) hx hb dJx4a65c_clear_da8c8_19 rfl hl (by decide) rfl (fun ls hl => ?_)
  refine lv_aload_n hx hb dJx4a65c_clear_da8c8_20 rfl (lv_at hl 2 rfl) ?_
  refine lv_iconst (v := 0) hx hb dJx4a65c_clear_da8c8_21 (by decide) ?_
  refine lv_dup_x1 hx hb dJx4a65c_clear_da8c8_22 rfl rfl ?_
  refine m_putI (C := RJx4a65c) (T := TJx4a65c) (N := 3) (own := RJx4a65c) (ref := RJx4a65c) hx hb hts hin2 tyJx4a65c tyJx4a65c_ok nmJx4a65c hown hM.1 hP hS 2 rfl 2 hk1 (by decide) (hts (.fieldLink RJx4a65c 48 "java/util/ArrayList" "size" "I") (by decide +kernel)) (fun _ h9 => h9) (Or.inl rfl) (ty := .int) rfl ⟨rfl, rfl⟩ dJx4a65c_clear_da8c8_23 (fun H locs hP hS => ?_)
  obtain ⟨w4, ew, hd⟩ := m_l_e hd
  have hP : mP G w4 H := by rw [ew]; exact hP
  have hk1 : m_kd w4 h = 3 := by rw [ew]; exact hk1
  refine lv_istore_n (lv' := [(3, .int (0)), (2, .int (m_fi w2 2 2 h)), (1, .ref (r3)), (0, .ref (h))]) hx hb dJx4a65c_clear_da8c8_26 rfl hl (by decide) rfl (fun ls hl => ?_)
  refine W.widen (k := 0) (n := 0) (Nat.le_of_ble_eq_true rfl) (Nat.le_of_ble_eq_true rfl) ?_
  exact J27 m_N w4 r3 (m_fi w2 2 2 h) 0 _ _ _ hd hP hS (lv_sub hl [2, 1, 0] rfl)


noncomputable def e_Jx4a65c_fastRemove_b59b0_34 (w : mW) (x0 : Nat) (x1 : Nat) (x3 : Int32) : Option (Unit × mW) := m_g (m_kd w x0 = 3) <| m_l (m_sI w 2 2 x0 x3) fun w108 => m_g (m_kd w108 x1 = 23 ∧ ¬ (x3 < 0 ∨ m_ln w108 x1 ≤ x3.toNatClampNeg)) <| m_l (m_sO w108 x1 (x3.toNatClampNeg) none) fun w110 => some ((), w110)
noncomputable def e_Jx4a65c_fastRemove_b59b0 (w : mW) (h : Nat) (p0 : Nat) (p1 : Int32) : Option (Unit × mW) := m_g (m_kd w h = 3) <| m_l (m_sI w 2 0 h ((m_fi w 2 0 h) + 1)) fun w2 => if ((m_fi w2 2 2 h) - 1) ≤ p1 then (e_Jx4a65c_fastRemove_b59b0_34 w2 h p0 ((m_fi w2 2 2 h) - 1)) else (m_g (m_kd w2 p0 = 23 ∧ m_kd w2 p0 = 23 ∧ ¬ (p1 + 1) < (0 : Int32) ∧ ¬ p1 < (0 : Int32) ∧ ¬ (((m_fi w2 2 2 h) - 1) - p1) < (0 : Int32) ∧ (p1 + 1 : Int32).toNatClampNeg + (((m_fi w2 2 2 h) - 1) - p1 : Int32).toNatClampNeg ≤ m_ln w2 p0 ∧ (p1 : Int32).toNatClampNeg + (((m_fi w2 2 2 h) - 1) - p1 : Int32).toNatClampNeg ≤ m_ln w2 p0 ∧ 0 < m_ln w2 p0) <| m_g (∀ i, i < (((m_fi w2 2 2 h) - 1) - p1 : Int32).toNatClampNeg → ∀ y ∈ m_oa w2 p0 ((p1 + 1 : Int32).toNatClampNeg + i), 1 ≤ m_kd w2 y ∧ m_kd w2 y ≤ 11) <| m_l (m_sG w2 p0 (va_cpy (m_oa w2 p0) (m_oa w2 p0) (p1 + 1 : Int32).toNatClampNeg (p1 : Int32).toNatClampNeg (((m_fi w2 2 2 h) - 1) - p1 : Int32).toNatClampNeg)) fun w6 => e_Jx4a65c_fastRemove_b59b0_34 w6 h p0 ((m_fi w2 2 2 h) - 1))
set_option maxHeartbeats 1000000 in
set_option maxRecDepth 100000 in
theorem c_Jx4a65c_fastRemove_b59b0 (l : Launch) (G : m_G) (w w' : mW) (h : Nat) (p0 : Nat) (p1 : Int32) (r : Unit) (hd : e_Jx4a65c_fastRemove_b59b0 w h p0 p1 = some (r, w')) : Met l yJx4a65c_fastRemove_b59b0 wsJx4a65c_fastRemove_b59b0 ({ frames := 2, cells := 0, slots := 0, locals := 80 } : Room) (m_Pc G w [.ref (h), .ref (p0), .int (p1)]) (m_Qv G r w') 0 0 (fun q => G.1 ≤ q) := by
  refine Met.ofW (cc := cJx4a65c_fastRemove_b59b0) (maxL := 4) (ret := none) (by decide +kernel) rfl ?_
  intro p e s m args below meth c s₁ B hml hv
  obtain ⟨rfl, hM, hP⟩ := hv
  have hx := B.exec
  have hb := B.bytes
  have hr := B.returns
  have hts := atoms_spec (ws := wsJx4a65c_fastRemove_b59b0) B.pre
  have hown : s.vm.findClass RJx4a65c = some m.cls := findClass_of_methodNamed B.named
  have hlocks := B.notSynchronized
  have hin2 : ∀ w ∈ u_ws RJx4a65c TJx4a65c 3, w ∈ wsJx4a65c_fastRemove_b59b0 := by decide +kernel
  have hS : va_S (fun q => G.1 ≤ q) s.heap s.heap [] := va_S.rf
  have J34 : ∀ (w : mW) (x0 : Nat) (x1 : Nat) (x3 : Int32) (H : Heap) (locs : List Loc) (ls : Array Slot), e_Jx4a65c_fastRemove_b59b0_34 w x0 x1 x3 = some (r, w') → mP G w H → va_S (fun q => G.1 ≤ q) s.heap H locs → lv_has ls 4 [(0, .ref (x0)), (1, .ref (x1)), (3, .int (x3))] → W p l e ({ frames := 2, cells := 0, slots := 0, locals := 80 } : Room) s m ([.ref (h), .ref (p0), .int (p1)] : List Value).toArray below meth c H locs 0 0 (MQ below (m_Qv G r w') ([.ref (h), .ref (p0), .int (p1)] : List Value).toArray s 0 0 (fun q => G.1 ≤ q)) (F0 m 34 ls []) := by
    intro w x0 x1 x3 H locs ls hd hP hS hl
    refine lv_aload_n hx hb dJx4a65c_fastRemove_b59b0_34 rfl (lv_at hl 1 rfl) ?_
    refine lv_aload_n hx hb dJx4a65c_fastRemove_b59b0_35 rfl (lv_at hl 0 rfl) ?_
    refine lv_iload_n hx hb dJx4a65c_fastRemove_b59b0_36 rfl (lv_at hl 2 rfl) ?_
    refine lv_dup_x1 hx hb dJx4a65c_fastRemove_b59b0_37 rfl rfl ?_
    obtain ⟨hk107, hd⟩ := m_g_e hd
    refine m_putI (C := RJx4a65c) (T := TJx4a65c) (N := 3) (own := RJx4a65c) (ref := RJx4a65c) hx hb hts hin2 tyJx4a65c tyJx4a65c_ok nmJx4a65c hown hM.1 hP hS 2 rfl 2 hk107 (by decide) (hts (.fieldLink RJx4a65c 48 "java/util/ArrayList" "size" "I") (by decide +kernel)) (fun _ h9 => h9) (Or.inl rfl) (ty := .int) rfl ⟨rfl, rfl⟩ dJx4a65c_fastRemove_b59b0_38 (fun H locs hP hS => ?_)
    obtain ⟨w108, ew, hd⟩ := m_l_e hd
    have hP : mP G w108 H := by rw [ew]; exact hP
    have hk107 : m_kd w108 x0 = 3 := by rw [ew]; exact hk107
    refine lv_null hx hb dJx4a65c_fastRemove_b59b0_41 ?_
    obtain ⟨hg109, hd⟩ := m_g_e hd
    refine m_aastN hx hb hM.1 hP hS hg109 dJx4a65c_fastRemove_b59b0_42 (fun H locs hP hS => ?_)
    obtain ⟨w110, ew, hd⟩ := m_l_e hd
    have hP : mP G w110 H := by rw [ew]; exact hP
    have hk107 : m_kd w110 x0 = 3 := by rw [ew]; exact hk107
    obtain ⟨e1, e2⟩ := m_s_e hd
    refine W.widen (k := 0) (n := 0) (Nat.le_of_ble_eq_true rfl) (Nat.le_of_ble_eq_true rfl) ?_
    exact W.vret hx hb hr (fun t ht hW => ⟨⟨w110, rfl, e2, by show mP _ _ t.heap; rw [ht]; exact hP⟩, hS.F ht⟩) hS.2.2 dJx4a65c_fastRemove_b59b0_43
  have hl := lv_entry ([.ref (h), .ref (p0), .int (p1)]) (n := 4) (Nat.le_of_ble_eq_true rfl)
  rw [lg_entry_eq]
  generalize (lg_sl ([.ref (h), .ref (p0), .int (p1)]) ++ List.replicate (4 - (lg_sl ([.ref (h), .ref (p0), .int (p1)])).length) Slot.unset).toArray = ls at hl ⊢
  have hl : lv_has ls 4 [(0, .ref (h)), (1, .ref (p0)), (2, .int (p1))] := hl
  refine lv_aload_n hx hb dJx4a65c_fastRemove_b59b0_0 rfl (lv_at hl 0 rfl) ?_
  refine lv_dup hx hb dJx4a65c_fastRemove_b59b0_1 rfl ?_
  obtain ⟨hk1, hd⟩ := m_g_e hd
  refine m_getI (C := RJx4a65c) (T := TJx4a65c) (N := 3) (own := RJx4a65c) (ref := RJx4a65c) hx hb hts hin2 hown hM.1 hP 2 rfl 0 hk1 (by decide) (hts (.fieldLink RJx4a65c 63 "java/util/ArrayList" "modCount" "I") (by decide +kernel)) (u_same (hts (.sameField "java/util/ArrayList" "java/util/AbstractList" "modCount" "I") (by decide +kernel))) dJx4a65c_fastRemove_b59b0_2 ?_
  refine lv_iconst (v := 1) hx hb dJx4a65c_fastRemove_b59b0_5 (by decide) ?_
  refine lv_iadd hx hb dJx4a65c_fastRemove_b59b0_6 ?_
  refine m_putI (C := RJx4a65c) (T := TJx4a65c) (N := 3) (own := RJx4a65c) (ref := RJx4a65c) hx hb hts hin2 tyJx4a65c tyJx4a65c_ok nmJx4a65c hown hM.1 hP hS 2 rfl 0 hk1 (by decide) (hts (.fieldLink RJx4a65c 63 "java/util/ArrayList" "modCount" "I") (by decide +kernel)) (u_same (hts (.sameField "java/util/ArrayList" "java/util/AbstractList" "modCount" "I") (by decide +kernel))) (Or.inl rfl) (ty := .int) rfl ⟨rfl, rfl⟩ dJx4a65c_fastRemove_b59b0_7 (fun H locs hP hS => ?_)
  obtain ⟨w2, ew, hd⟩ := m_l_e hd
  have hP : mP G w2 H := by rw [ew]; exact hP
  have hk1 : m_kd w2 h = 3 := by rw [ew]; exact hk1
  refine lv_aload_n hx hb dJx4a65c_fastRemove_b59b0_10 rfl (lv_at hl 0 rfl) ?_
  refine m_getI (C := RJx4a65c) (T := TJx4a65c) (N := 3) (own := RJx4a65c) (ref := RJx4a65c) hx hb hts hin2 hown hM.1 hP 2 rfl 2 hk1 (by decide) (hts (.fieldLink RJx4a65c 48 "java/util/ArrayList" "size" "I") (by decide +kernel)) (fun _ h9 => h9) dJx4a65c_fastRemove_b59b0_11 ?_
  refine lv_iconst (v := 1) hx hb dJx4a65c_fastRemove_b59b0_14 (by decide) ?_
  refine lv_isub hx hb dJx4a65c_fastRemove_b59b0_15 ?_
  refine lv_dup hx hb dJx4a65c_fastRemove_b59b0_16 rfl ?_
  refine lv_istore_n (lv' := [(3, .int ((m_fi w2 2 2 h) - 1)), (0, .ref (h)), (1, .ref (p0)), (2, .int (p1))]) hx hb dJx4a65c_fastRemove_b59b0_17 rfl hl (by decide) rfl (fun ls hl => ?_)
  refine lv_iload_n hx hb dJx4a65c_fastRemove_b59b0_18 rfl (lv_at hl 3 rfl) ?_
  refine lv_icmp_le (tgt := 34) hx hb dJx4a65c_fastRemove_b59b0_19 (by decide) (fun c3 => ?_) (fun c3 => ?_)
  · have hd := m_i_t c3 hd
    refine W.widen (k := 0) (n := 0) (Nat.le_of_ble_eq_true rfl) (Nat.le_of_ble_eq_true rfl) ?_
    exact J34 w2 h p0 ((m_fi w2 2 2 h) - 1) _ _ _ hd hP hS (lv_sub hl [1, 2, 0] rfl)
  · have hd := m_i_f c3 hd
    refine lv_aload_n hx hb dJx4a65c_fastRemove_b59b0_22 rfl (lv_at hl 2 rfl) ?_
    refine lv_iload_n hx hb dJx4a65c_fastRemove_b59b0_23 rfl (lv_at hl 3 rfl) ?_
    refine lv_iconst (v := 1) hx hb dJx4a65c_fastRemove_b59b0_24 (by decide) ?_
    refine lv_iadd hx hb dJx4a65c_fastRemove_b59b0_25 ?_
    refine lv_aload_n hx hb dJx4a65c_fastRemove_b59b0_26 rfl (lv_at hl 2 rfl) ?_
    refine lv_iload_n hx hb dJx4a65c_fastRemove_b59b0_27 rfl (lv_at hl 3 rfl) ?_
    refine lv_iload_n hx hb dJx4a65c_fastRemove_b59b0_28 rfl (lv_at hl 0 rfl) ?_
    refine lv_iload_n hx hb dJx4a65c_fastRemove_b59b0_29 rfl (lv_at hl 3 rfl) ?_
    refine lv_isub hx hb dJx4a65c_fastRemove_b59b0_30 ?_
    obtain ⟨hg4, hd⟩ := m_g_e hd
    obtain ⟨hg5, hd⟩ := m_g_e hd
    refine m_copyQ (own := RJx4a65c) hx hb (by rw [hml]; exact hl.1.symm) hown (hts (.methodLink RJx4a65c 112 arraycopyName) (by decide +kernel)) (hts (.native arraycopyName) (by decide +kernel)) (hts (.static arraycopyName) (by decide +kernel)) (hts (.initialized "java/lang/System") (by decide +kernel)) hM hP hS hg4 hg5 (Nat.le_of_ble_eq_true rfl) (Nat.le_of_ble_eq_true rfl) dJx4a65c_fastRemove_b59b0_31 (fun H locs hP hS => ?_)
    obtain ⟨w6, ew, hd⟩ := m_l_e hd
    have hP : mP G w6 H := by rw [ew]; exact hP
    have hk1 : m_kd w6 h = 3 := by rw [ew]; exact hk1
    refine W.widen (k := 0) (n := 0) (Nat.le_of_ble_eq_true rfl) (Nat.le_of_ble_eq_true rfl) ?_
    exact J34 w6 h p0 ((m_fi w2 2 2 h) - 1) _ _ _ hd hP hS (lv_sub hl [1, 2, 0] rfl)


noncomputable def e_Jx4a65c_remove_915e3 (w : mW) (h : Nat) (p0 : Int32) : Option (Nat × mW) := m_g (m_kd w h = 3) <| m_b (e_J15_checkIndex_7cf53 w p0 (m_fi w 2 2 h)) fun r2 w3 => m_g (m_kd w3 h = 3) <| m_o (m_fr w3 2 1 h) fun r6 => m_g (m_kd w3 r6 = 23 ∧ ¬ (p0 < 0 ∨ m_ln w3 r6 ≤ p0.toNatClampNeg)) <| m_o (m_oa w3 r6 p0.toNatClampNeg) fun r8 => m_b (e_Jx4a65c_fastRemove_b59b0 w3 h r6 p0) fun r9 w10 => some (r8, w10)
set_option maxHeartbeats 1000000 in
set_option maxRecDepth 100000 in
theorem c_Jx4a65c_remove_915e3 (l : Launch) (G : m_G) (w w' : mW) (h : Nat) (p0 : Int32) (r : Nat) (hd : e_Jx4a65c_remove_915e3 w h p0 = some (r, w')) : Met l yJx4a65c_remove_915e3 wsJx4a65c_remove_915e3 ({ frames := 3, cells := 0, slots := 0, locals := 103 } : Room) (m_Pc G w [.ref (h), .int (p0)]) (m_Qq G (some r) w') 0 0 (fun q => G.1 ≤ q) := by
  refine Met.ofW (cc := cJx4a65c_remove_915e3) (maxL := 4) (ret := (some (.object "java/lang/Object"))) (by decide +kernel) rfl ?_
  intro p e s m args below meth c s₁ B hml hv
  obtain ⟨rfl, hM, hP⟩ := hv
  have hx := B.exec
  have hb := B.bytes
  have hr := B.returns
  have hts := atoms_spec (ws := wsJx4a65c_remove_915e3) B.pre
  have hown : s.vm.findClass RJx4a65c = some m.cls := findClass_of_methodNamed B.named
  have hlocks := B.notSynchronized
  have hin2 : ∀ w ∈ u_ws RJx4a65c TJx4a65c 3, w ∈ wsJx4a65c_remove_915e3 := by decide +kernel
  have hS : va_S (fun q => G.1 ≤ q) s.heap s.heap [] := va_S.rf
  have hl := lv_entry ([.ref (h), .int (p0)]) (n := 4) (Nat.le_of_ble_eq_true rfl)
  rw [lg_entry_eq]
  generalize (lg_sl ([.ref (h), .int (p0)]) ++ List.replicate (4 - (lg_sl ([.ref (h), .int (p0)])).length) Slot.unset).toArray = ls at hl ⊢
  have hl : lv_has ls 4 [(0, .ref (h)), (1, .int (p0))] := hl
  refine lv_iload_n hx hb dJx4a65c_remove_915e3_0 rfl (lv_at hl 1 rfl) ?_
  refine lv_aload_n hx hb dJx4a65c_remove_915e3_1 rfl (lv_at hl 0 rfl) ?_
  obtain ⟨hk1, hd⟩ := m_g_e hd
  refine m_getI (C := RJx4a65c) (T := TJx4a65c) (N := 3) (own := RJx4a65c) (ref := RJx4a65c) hx hb hts hin2 hown hM.1 hP 2 rfl 2 hk1 (by decide) (hts (.fieldLink RJx4a65c 48 "java/util/ArrayList" "size" "I") (by decide +kernel)) (fun _ h9 => h9) dJx4a65c_remove_915e3_2 ?_
  obtain ⟨r2, w3, hc4, hd⟩ := m_b_e hd
  refine m_calli (k := 0) (n := 0) (va_runS (As := [.int (p0), .int (m_fi w 2 2 h)]) (rest := []) ⟨hx, hb, hml, hown, hts⟩ (c_J15_checkIndex_7cf53 l G w w3 p0 (m_fi w 2 2 h) r2 hc4) (va_cwS 2 hts gJx4a65c_remove_915e3_J15_checkIndex_7cf53 rfl rfl rfl (by decide +kernel) ⟨(Nat.le_of_ble_eq_true rfl), (Nat.le_of_ble_eq_true rfl)⟩) (m_preS hM hP hS) rfl rfl hl.1 rfl (lv_room (Nat.le_of_ble_eq_true rfl)) dJx4a65c_remove_915e3_5 ⟨(Nat.le_of_ble_eq_true rfl), (Nat.le_of_ble_eq_true rfl)⟩) hS ⟨(Nat.le_of_ble_eq_true rfl), (Nat.le_of_ble_eq_true rfl)⟩ (fun H locs hP hS => ?_)
  refine lv_pop hx hb dJx4a65c_remove_915e3_8 rfl ?_
  refine lv_aload_n hx hb dJx4a65c_remove_915e3_9 rfl (lv_at hl 0 rfl) ?_
  obtain ⟨hk5, hd⟩ := m_g_e hd
  obtain ⟨r6, hr6, hd⟩ := m_o_e hd
  refine m_getR (C := RJx4a65c) (T := TJx4a65c) (N := 3) (own := RJx4a65c) (ref := RJx4a65c) hx hb hts hin2 hown hM.1 hP 2 rfl 1 (r := r6) ⟨hk5, hr6⟩ (by decide) (hts (.fieldLink RJx4a65c 9 "java/util/ArrayList" "elementData" "[Ljava/lang/Object;") (by decide +kernel)) (fun _ h9 => h9) dJx4a65c_remove_915e3_10 ?_
  refine lv_astore_n (lv' := [(2, .ref (r6)), (0, .ref (h)), (1, .int (p0))]) hx hb dJx4a65c_remove_915e3_13 rfl hl (by decide) rfl (fun ls hl => ?_)
  refine lv_aload_n hx hb dJx4a65c_remove_915e3_14 rfl (lv_at hl 0 rfl) ?_
  refine lv_iload_n hx hb dJx4a65c_remove_915e3_15 rfl (lv_at hl 2 rfl) ?_
  obtain ⟨hg7, hd⟩ := m_g_e hd
  obtain ⟨r8, hr8, hd⟩ := m_o_e hd
  refine m_aald (r := r8) hx hb hM.1 hP ⟨hg7.1, hg7.2, hr8⟩ dJx4a65c_remove_915e3_16 ?_
  refine lv_astore_n (lv' := [(3, .ref (r8)), (2, .ref (r6)), (0, .ref (h)), (1, .int (p0))]) hx hb dJx4a65c_remove_915e3_17 rfl hl (by decide) rfl (fun ls hl => ?_)
  refine lv_aload_n hx hb dJx4a65c_remove_915e3_18 rfl (lv_at hl 2 rfl) ?_
  refine lv_aload_n hx hb dJx4a65c_remove_915e3_19 rfl (lv_at hl 1 rfl) ?_
  refine lv_iload_n hx hb dJx4a65c_remove_915e3_20 rfl (lv_at hl 3 rfl) ?_
  obtain ⟨r9, w10, hc11, hd⟩ := m_b_e hd
  refine m_callv (k := 0) (n := 0) (va_runV (As := [.ref (r6), .int (p0)]) (rest := []) ⟨hx, hb, hml, hown, hts⟩ (c_Jx4a65c_fastRemove_b59b0 l G w3 w10 h r6 p0 r9 hc11) (cwV 2 hts gJx4a65c_remove_915e3_Jx4a65c_fastRemove_b59b0 rfl rfl rfl (by decide +kernel) ⟨(Nat.le_of_ble_eq_true rfl), (Nat.le_of_ble_eq_true rfl)⟩) (m_preV (C := RJx4a65c) (T := TJx4a65c) (N := 3) hM hP hS rfl (by decide) hk5) rfl rfl hl.1 rfl (lv_room (Nat.le_of_ble_eq_true rfl)) dJx4a65c_remove_915e3_21 ⟨(Nat.le_of_ble_eq_true rfl), (Nat.le_of_ble_eq_true rfl)⟩) hS ⟨(Nat.le_of_ble_eq_true rfl), (Nat.le_of_ble_eq_true rfl)⟩ (fun H locs hP hS => ?_)
  refine lv_aload_n hx hb dJx4a65c_remove_915e3_24 rfl (lv_at hl 0 rfl) ?_
  obtain ⟨e1, e2⟩ := m_s_e hd
  refine W.widen (k := 0) (n := 0) (Nat.le_of_ble_eq_true rfl) (Nat.le_of_ble_eq_true rfl) ?_
  exact W.aret hx hb hr (Or.inl ⟨_, rfl⟩) (Or.inr ⟨_, rfl⟩) (fun t ht hW => ⟨⟨some r8, w10, rfl, ⟨congrArg some e1, e2⟩, by show mP _ _ t.heap; rw [ht]; exact hP⟩, hS.F ht⟩) hS.2.2 dJx4a65c_remove_915e3_25


noncomputable def e_Jx4a65c_rangeCheckForAdd_d00df_12 (w : mW)  : Option (Unit × mW) := none
noncomputable def e_Jx4a65c_rangeCheckForAdd_d00df (w : mW) (h : Nat) (p0 : Int32) : Option (Unit × mW) := m_g (m_kd w h = 3) <| if (m_fi w 2 2 h) < p0 then (e_Jx4a65c_rangeCheckForAdd_d00df_12 w) else (if (0 : Int32) ≤ p0 then (some ((), w)) else (e_Jx4a65c_rangeCheckForAdd_d00df_12 w))
set_option maxHeartbeats 1000000 in
set_option maxRecDepth 100000 in
theorem c_Jx4a65c_rangeCheckForAdd_d00df (l : Launch) (G : m_G) (w w' : mW) (h : Nat) (p0 : Int32) (r : Unit) (hd : e_Jx4a65c_rangeCheckForAdd_d00df w h p0 = some (r, w')) : Met l yJx4a65c_rangeCheckForAdd_d00df wsJx4a65c_rangeCheckForAdd_d00df ({ frames := 0, cells := 0, slots := 0, locals := 0 } : Room) (m_Pc G w [.ref (h), .int (p0)]) (m_Qv G r w') 0 0 (fun q => G.1 ≤ q) := by
  refine Met.ofW (cc := cJx4a65c_rangeCheckForAdd_d00df) (maxL := 2) (ret := none) (by decide +kernel) rfl ?_
  intro p e s m args below meth c s₁ B hml hv
  obtain ⟨rfl, hM, hP⟩ := hv
  have hx := B.exec
  have hb := B.bytes
  have hr := B.returns
  have hts := atoms_spec (ws := wsJx4a65c_rangeCheckForAdd_d00df) B.pre
  have hown : s.vm.findClass RJx4a65c = some m.cls := findClass_of_methodNamed B.named
  have hlocks := B.notSynchronized
  have hin2 : ∀ w ∈ u_ws RJx4a65c TJx4a65c 3, w ∈ wsJx4a65c_rangeCheckForAdd_d00df := by decide +kernel
  have hS : va_S (fun q => G.1 ≤ q) s.heap s.heap [] := va_S.rf
  have J12 : ∀ (w : mW) (H : Heap) (locs : List Loc) (ls : Array Slot), e_Jx4a65c_rangeCheckForAdd_d00df_12 w = some (r, w') → mP G w H → va_S (fun q => G.1 ≤ q) s.heap H locs → lv_has ls 2 [] → W p l e ({ frames := 0, cells := 0, slots := 0, locals := 0 } : Room) s m ([.ref (h), .int (p0)] : List Value).toArray below meth c H locs 0 0 (MQ below (m_Qv G r w') ([.ref (h), .int (p0)] : List Value).toArray s 0 0 (fun q => G.1 ≤ q)) (F0 m 12 ls []) := by
    intro w H locs ls hd hP hS hl
    exact nomatch hd
  have hl := lv_entry ([.ref (h), .int (p0)]) (n := 2) (Nat.le_of_ble_eq_true rfl)
  rw [lg_entry_eq]
  generalize (lg_sl ([.ref (h), .int (p0)]) ++ List.replicate (2 - (lg_sl ([.ref (h), .int (p0)])).length) Slot.unset).toArray = ls at hl ⊢
  have hl : lv_has ls 2 [(0, .ref (h)), (1, .int (p0))] := hl
  refine lv_iload_n hx hb dJx4a65c_rangeCheckForAdd_d00df_0 rfl (lv_at hl 1 rfl) ?_
  refine lv_aload_n hx hb dJx4a65c_rangeCheckForAdd_d00df_1 rfl (lv_at hl 0 rfl) ?_
  obtain ⟨hk1, hd⟩ := m_g_e hd
  refine m_getI (C := RJx4a65c) (T := TJx4a65c) (N := 3) (own := RJx4a65c) (ref := RJx4a65c) hx hb hts hin2 hown hM.1 hP 2 rfl 2 hk1 (by decide) (hts (.fieldLink RJx4a65c 48 "java/util/ArrayList" "size" "I") (by decide +kernel)) (fun _ h9 => h9) dJx4a65c_rangeCheckForAdd_d00df_2 ?_
  refine lv_icmp_gt (tgt := 12) hx hb dJx4a65c_rangeCheckForAdd_d00df_5 (by decide) (fun c2 => ?_) (fun c2 => ?_)
  · have hd := m_i_t c2 hd
    refine W.widen (k := 0) (n := 0) (Nat.le_of_ble_eq_true rfl) (Nat.le_of_ble_eq_true rfl) ?_
    exact J12 w _ _ _ hd hP hS (lv_sub hl [] rfl)
  · have hd := m_i_f c2 hd
    refine lv_iload_n hx hb dJx4a65c_rangeCheckForAdd_d00df_8 rfl (lv_at hl 1 rfl) ?_
    refine lv_if_ge (tgt := 25) hx hb dJx4a65c_rangeCheckForAdd_d00df_9 (by decide) (fun c3 => ?_) (fun c3 => ?_)
    · have hd := m_i_t c3 hd
      obtain ⟨e1, e2⟩ := m_s_e hd
      refine W.widen (k := 0) (n := 0) (Nat.le_of_ble_eq_true rfl) (Nat.le_of_ble_eq_true rfl) ?_
      exact W.vret hx hb hr (fun t ht hW => ⟨⟨w, rfl, e2, by show mP _ _ t.heap; rw [ht]; exact hP⟩, hS.F ht⟩) hS.2.2 dJx4a65c_rangeCheckForAdd_d00df_25
    · have hd := m_i_f c3 hd
      refine W.widen (k := 0) (n := 0) (Nat.le_of_ble_eq_true rfl) (Nat.le_of_ble_eq_true rfl) ?_
      exact J12 w _ _ _ hd hP hS (lv_sub hl [] rfl)


noncomputable def e_Jx4a65c_add_7a177_38 (t0 : Nat × Nat × Nat × Nat) (w : mW) (x0 : Nat) (x1 : Int32) (x2 : Nat) (x3 : Int32) (x4 : Nat) : Option (Unit × mW) := m_g (m_kd w x4 = 23 ∧ m_kd w x4 = 23 ∧ ¬ x1 < (0 : Int32) ∧ ¬ (x1 + 1) < (0 : Int32) ∧ ¬ (x3 - x1) < (0 : Int32) ∧ (x1 : Int32).toNatClampNeg + (x3 - x1 : Int32).toNatClampNeg ≤ m_ln w x4 ∧ (x1 + 1 : Int32).toNatClampNeg + (x3 - x1 : Int32).toNatClampNeg ≤ m_ln w x4 ∧ 0 < m_ln w x4) <| m_g (∀ i, i < (x3 - x1 : Int32).toNatClampNeg → ∀ y ∈ m_oa w x4 ((x1 : Int32).toNatClampNeg + i), 1 ≤ m_kd w y ∧ m_kd w y ≤ 11) <| m_l (m_sG w x4 (va_cpy (m_oa w x4) (m_oa w x4) (x1 : Int32).toNatClampNeg (x1 + 1 : Int32).toNatClampNeg (x3 - x1 : Int32).toNatClampNeg)) fun w115 => m_g (m_kd w115 x4 = 23 ∧ ¬ (x1 < 0 ∨ m_ln w115 x4 ≤ x1.toNatClampNeg)) <| m_g (1 ≤ m_kd w115 x2 ∧ m_kd w115 x2 ≤ 11) <| m_l (m_sO w115 x4 (x1.toNatClampNeg) (some x2)) fun w118 => m_g (m_kd w118 x0 = 3) <| m_l (m_sI w118 2 2 x0 (x3 + 1)) fun w120 => some ((), w120)
noncomputable def e_Jx4a65c_add_7a177 (t0 : Nat × Nat × Nat × Nat) (w : mW) (h : Nat) (p0 : Int32) (p1 : Nat) : Option (Unit × mW) := m_g (m_kd w h = 3) <| m_b (e_Jx4a65c_rangeCheckForAdd_d00df w h p0) fun r2 w3 => m_g (m_kd w3 h = 3) <| m_l (m_sI w3 2 0 h ((m_fi w3 2 0 h) + 1)) fun w6 => m_o (m_fr w6 2 1 h) fun r7 => m_g (21 ≤ m_kd w6 r7 ∧ m_kd w6 r7 ≤ 25) <| if (m_fi w6 2 2 h) = (nI (m_ln w6 r7)) then (m_b (e_Jx4a65c_grow_d5877 t0 w6 h) fun r10 w11 => e_Jx4a65c_add_7a177_38 t0 w11 h p0 p1 (m_fi w6 2 2 h) r10) else (e_Jx4a65c_add_7a177_38 t0 w6 h p0 p1 (m_fi w6 2 2 h) r7)
set_option maxHeartbeats 1000000 in
set_option maxRecDepth 100000 in
theorem c_Jx4a65c_add_7a177 (l : Launch) (G : m_G) (w w' : mW) (h : Nat) (p0 : Int32) (p1 : Nat) (r : Unit) (hd : e_Jx4a65c_add_7a177 G.2.2.2 w h p0 p1 = some (r, w')) : Met l yJx4a65c_add_7a177 wsJx4a65c_add_7a177 ({ frames := 6, cells := 1, slots := 600, locals := 167 } : Room) (m_Pc G w [.ref (h), .int (p0), .ref (p1)]) (m_Qv G r w') 1 600 (fun q => G.1 ≤ q) := by
  refine Met.ofW (cc := cJx4a65c_add_7a177) (maxL := 5) (ret := none) (by decide +kernel) rfl ?_
  intro p e s m args below meth c s₁ B hml hv
  obtain ⟨rfl, hM, hP⟩ := hv
  have hx := B.exec
  have hb := B.bytes
  have hr := B.returns
  have hts := atoms_spec (ws := wsJx4a65c_add_7a177) B.pre
  have hown : s.vm.findClass RJx4a65c = some m.cls := findClass_of_methodNamed B.named
  have hlocks := B.notSynchronized
  have hin2 : ∀ w ∈ u_ws RJx4a65c TJx4a65c 3, w ∈ wsJx4a65c_add_7a177 := by decide +kernel
  have hS : va_S (fun q => G.1 ≤ q) s.heap s.heap [] := va_S.rf
  have J38 : ∀ (w : mW) (x0 : Nat) (x1 : Int32) (x2 : Nat) (x3 : Int32) (x4 : Nat) (H : Heap) (locs : List Loc) (ls : Array Slot), e_Jx4a65c_add_7a177_38 G.2.2.2 w x0 x1 x2 x3 x4 = some (r, w') → mP G w H → va_S (fun q => G.1 ≤ q) s.heap H locs → lv_has ls 5 [(0, .ref (x0)), (1, .int (x1)), (2, .ref (x2)), (3, .int (x3)), (4, .ref (x4))] → W p l e ({ frames := 6, cells := 1, slots := 600, locals := 167 } : Room) s m ([.ref (h), .int (p0), .ref (p1)] : List Value).toArray below meth c H locs 1 600 (MQ below (m_Qv G r w') ([.ref (h), .int (p0), .ref (p1)] : List Value).toArray s 1 600 (fun q => G.1 ≤ q)) (F0 m 38 ls []) := by
    intro w x0 x1 x2 x3 x4 H locs ls hd hP hS hl
    refine lv_aload hx hb dJx4a65c_add_7a177_38 (lv_at hl 4 rfl) ?_
    refine lv_iload_n hx hb dJx4a65c_add_7a177_40 rfl (lv_at hl 1 rfl) ?_
    refine lv_aload hx hb dJx4a65c_add_7a177_41 (lv_at hl 4 rfl) ?_
    refine lv_iload_n hx hb dJx4a65c_add_7a177_43 rfl (lv_at hl 1 rfl) ?_
    refine lv_iconst (v := 1) hx hb dJx4a65c_add_7a177_44 (by decide) ?_
    refine lv_iadd hx hb dJx4a65c_add_7a177_45 ?_
    refine lv_iload_n hx hb dJx4a65c_add_7a177_46 rfl (lv_at hl 3 rfl) ?_
    refine lv_iload_n hx hb dJx4a65c_add_7a177_47 rfl (lv_at hl 1 rfl) ?_
    refine lv_isub hx hb dJx4a65c_add_7a177_48 ?_
    obtain ⟨hg113, hd⟩ := m_g_e hd
    obtain ⟨hg114, hd⟩ := m_g_e hd
    refine m_copyQ (own := RJx4a65c) hx hb (by rw [hml]; exact hl.1.symm) hown (hts (.methodLink RJx4a65c 112 arraycopyName) (by decide +kernel)) (hts (.native arraycopyName) (by decide +kernel)) (hts (.static arraycopyName) (by decide +kernel)) (hts (.initialized "java/lang/System") (by decide +kernel)) hM hP hS hg113 hg114 (Nat.le_of_ble_eq_true rfl) (Nat.le_of_ble_eq_true rfl) dJx4a65c_add_7a177_49 (fun H locs hP hS => ?_)
    obtain ⟨w115, ew, hd⟩ := m_l_e hd
    have hP : mP G w115 H := by rw [ew]; exact hP
    refine lv_aload hx hb dJx4a65c_add_7a177_52 (lv_at hl 4 rfl) ?_
    refine lv_iload_n hx hb dJx4a65c_add_7a177_54 rfl (lv_at hl 1 rfl) ?_
    refine lv_aload_n hx hb dJx4a65c_add_7a177_55 rfl (lv_at hl 2 rfl) ?_
    obtain ⟨hg116, hd⟩ := m_g_e hd
    obtain ⟨hv117, hd⟩ := m_g_e hd
    refine m_aast hx hb hM.1 hP hS (m_anyK hM hP hv117) hg116 dJx4a65c_add_7a177_56 (fun H locs hP hS => ?_)
    obtain ⟨w118, ew, hd⟩ := m_l_e hd
    have hP : mP G w118 H := by rw [ew]; exact hP
    refine lv_aload_n hx hb dJx4a65c_add_7a177_57 rfl (lv_at hl 0 rfl) ?_
    refine lv_iload_n hx hb dJx4a65c_add_7a177_58 rfl (lv_at hl 3 rfl) ?_
    refine lv_iconst (v := 1) hx hb dJx4a65c_add_7a177_59 (by decide) ?_
    refine lv_iadd hx hb dJx4a65c_add_7a177_60 ?_
    obtain ⟨hk119, hd⟩ := m_g_e hd
    refine m_putI (C := RJx4a65c) (T := TJx4a65c) (N := 3) (own := RJx4a65c) (ref := RJx4a65c) hx hb hts hin2 tyJx4a65c tyJx4a65c_ok nmJx4a65c hown hM.1 hP hS 2 rfl 2 hk119 (by decide) (hts (.fieldLink RJx4a65c 48 "java/util/ArrayList" "size" "I") (by decide +kernel)) (fun _ h9 => h9) (Or.inl rfl) (ty := .int) rfl ⟨rfl, rfl⟩ dJx4a65c_add_7a177_61 (fun H locs hP hS => ?_)
    obtain ⟨w120, ew, hd⟩ := m_l_e hd
    have hP : mP G w120 H := by rw [ew]; exact hP
    have hk119 : m_kd w120 x0 = 3 := by rw [ew]; exact hk119
    obtain ⟨e1, e2⟩ := m_s_e hd
    refine W.widen (k := 1) (n := 600) (Nat.le_of_ble_eq_true rfl) (Nat.le_of_ble_eq_true rfl) ?_
    exact W.vret hx hb hr (fun t ht hW => ⟨⟨w120, rfl, e2, by show mP _ _ t.heap; rw [ht]; exact hP⟩, hS.F ht⟩) hS.2.2 dJx4a65c_add_7a177_64
  have hl := lv_entry ([.ref (h), .int (p0), .ref (p1)]) (n := 5) (Nat.le_of_ble_eq_true rfl)
  rw [lg_entry_eq]
  generalize (lg_sl ([.ref (h), .int (p0), .ref (p1)]) ++ List.replicate (5 - (lg_sl ([.ref (h), .int (p0), .ref (p1)])).length) Slot.unset).toArray = ls at hl ⊢
  have hl : lv_has ls 5 [(0, .ref (h)), (1, .int (p0)), (2, .ref (p1))] := hl
  refine lv_aload_n hx hb dJx4a65c_add_7a177_0 rfl (lv_at hl 0 rfl) ?_
  refine lv_iload_n hx hb dJx4a65c_add_7a177_1 rfl (lv_at hl 1 rfl) ?_
  obtain ⟨hk1, hd⟩ := m_g_e hd
  obtain ⟨r2, w3, hc4, hd⟩ := m_b_e hd
  refine m_callv (k := 0) (n := 0) (va_runV (As := [.int (p0)]) (rest := []) ⟨hx, hb, hml, hown, hts⟩ (c_Jx4a65c_rangeCheckForAdd_d00df l G w w3 h p0 r2 hc4) (cwV 1 hts gJx4a65c_add_7a177_Jx4a65c_rangeCheckForAdd_d00df rfl rfl rfl (by decide +kernel) ⟨(Nat.le_of_ble_eq_true rfl), (Nat.le_of_ble_eq_true rfl)⟩) (m_preV (C := RJx4a65c) (T := TJx4a65c) (N := 3) hM hP hS rfl (by decide) hk1) rfl rfl hl.1 rfl (lv_room (Nat.le_of_ble_eq_true rfl)) dJx4a65c_add_7a177_2 ⟨(Nat.le_of_ble_eq_true rfl), (Nat.le_of_ble_eq_true rfl)⟩) hS ⟨(Nat.le_of_ble_eq_true rfl), (Nat.le_of_ble_eq_true rfl)⟩ (fun H locs hP hS => ?_)
  refine lv_aload_n hx hb dJx4a65c_add_7a177_5 rfl (lv_at hl 0 rfl) ?_
  refine lv_dup hx hb dJx4a65c_add_7a177_6 rfl ?_
  obtain ⟨hk5, hd⟩ := m_g_e hd
  refine m_getI (C := RJx4a65c) (T := TJx4a65c) (N := 3) (own := RJx4a65c) (ref := RJx4a65c) hx hb hts hin2 hown hM.1 hP 2 rfl 0 hk5 (by decide) (hts (.fieldLink RJx4a65c 63 "java/util/ArrayList" "modCount" "I") (by decide +kernel)) (u_same (hts (.sameField "java/util/ArrayList" "java/util/AbstractList" "modCount" "I") (by decide +kernel))) dJx4a65c_add_7a177_7 ?_
  refine lv_iconst (v := 1) hx hb dJx4a65c_add_7a177_10 (by decide) ?_
  refine lv_iadd hx hb dJx4a65c_add_7a177_11 ?_
  refine m_putI (C := RJx4a65c) (T := TJx4a65c) (N := 3) (own := RJx4a65c) (ref := RJx4a65c) hx hb hts hin2 tyJx4a65c tyJx4a65c_ok nmJx4a65c hown hM.1 hP hS 2 rfl 0 hk5 (by decide) (hts (.fieldLink RJx4a65c 63 "java/util/ArrayList" "modCount" "I") (by decide +kernel)) (u_same (hts (.sameField "java/util/ArrayList" "java/util/AbstractList" "modCount" "I") (by decide +kernel))) (Or.inl rfl) (ty := .int) rfl ⟨rfl, rfl⟩ dJx4a65c_add_7a177_12 (fun H locs hP hS => ?_)
  obtain ⟨w6, ew, hd⟩ := m_l_e hd
  have hP : mP G w6 H := by rw [ew]; exact hP
  have hk5 : m_kd w6 h = 3 := by rw [ew]; exact hk5
  refine lv_aload_n hx hb dJx4a65c_add_7a177_15 rfl (lv_at hl 0 rfl) ?_
  refine m_getI (C := RJx4a65c) (T := TJx4a65c) (N := 3) (own := RJx4a65c) (ref := RJx4a65c) hx hb hts hin2 hown hM.1 hP 2 rfl 2 hk5 (by decide) (hts (.fieldLink RJx4a65c 48 "java/util/ArrayList" "size" "I") (by decide +kernel)) (fun _ h9 => h9) dJx4a65c_add_7a177_16 ?_
  refine lv_dup hx hb dJx4a65c_add_7a177_19 rfl ?_
  refine lv_istore_n (lv' := [(3, .int (m_fi w6 2 2 h)), (0, .ref (h)), (1, .int (p0)), (2, .ref (p1))]) hx hb dJx4a65c_add_7a177_20 rfl hl (by decide) rfl (fun ls hl => ?_)
  refine lv_aload_n hx hb dJx4a65c_add_7a177_21 rfl (lv_at hl 1 rfl) ?_
  obtain ⟨r7, hr7, hd⟩ := m_o_e hd
  refine m_getR (C := RJx4a65c) (T := TJx4a65c) (N := 3) (own := RJx4a65c) (ref := RJx4a65c) hx hb hts hin2 hown hM.1 hP 2 rfl 1 (r := r7) ⟨hk5, hr7⟩ (by decide) (hts (.fieldLink RJx4a65c 9 "java/util/ArrayList" "elementData" "[Ljava/lang/Object;") (by decide +kernel)) (fun _ h9 => h9) dJx4a65c_add_7a177_22 ?_
  refine lv_dup hx hb dJx4a65c_add_7a177_25 rfl ?_
  refine lv_astore (lv' := [(4, .ref (r7)), (3, .int (m_fi w6 2 2 h)), (0, .ref (h)), (1, .int (p0)), (2, .ref (p1))]) hx hb dJx4a65c_add_7a177_26 hl (by decide) rfl (fun ls hl => ?_)
  obtain ⟨hg8, hd⟩ := m_g_e hd
  refine m_alen hx hb hM.1 hP hg8 dJx4a65c_add_7a177_28 ?_
  refine lv_icmp_ne (tgt := 38) hx hb dJx4a65c_add_7a177_29 (by decide) (fun c9 => ?_) (fun c9 => ?_)
  · have hd := m_i_f c9 hd
    refine W.widen (k := 1) (n := 600) (Nat.le_of_ble_eq_true rfl) (Nat.le_of_ble_eq_true rfl) ?_
    exact J38 w6 h p0 p1 (m_fi w6 2 2 h) r7 _ _ _ hd hP hS (lv_sub hl [2, 3, 4, 1, 0] rfl)
  · have hd := m_i_t c9 hd
    refine lv_aload_n hx hb dJx4a65c_add_7a177_32 rfl (lv_at hl 2 rfl) ?_
    obtain ⟨r10, w11, hc12, hd⟩ := m_b_e hd
    refine m_callr (k := 1) (n := 600) (va_runV (As := []) (rest := []) ⟨hx, hb, hml, hown, hts⟩ (c_Jx4a65c_grow_d5877 l G w6 w11 h r10 hc12) (cwV 0 hts gJx4a65c_add_7a177_Jx4a65c_grow_d5877 rfl rfl rfl (by decide +kernel) ⟨(Nat.le_of_ble_eq_true rfl), (Nat.le_of_ble_eq_true rfl)⟩) (m_preV (C := RJx4a65c) (T := TJx4a65c) (N := 3) hM hP hS rfl (by decide) hk5) rfl rfl hl.1 rfl (lv_room (Nat.le_of_ble_eq_true rfl)) dJx4a65c_add_7a177_33 ⟨(Nat.le_of_ble_eq_true rfl), (Nat.le_of_ble_eq_true rfl)⟩) hS ⟨(Nat.le_of_ble_eq_true rfl), (Nat.le_of_ble_eq_true rfl)⟩ (fun H locs hP hS => ?_)
    refine lv_astore (lv' := [(4, .ref (r10)), (3, .int (m_fi w6 2 2 h)), (0, .ref (h)), (1, .int (p0)), (2, .ref (p1))]) hx hb dJx4a65c_add_7a177_36 hl (by decide) rfl (fun ls hl => ?_)
    refine W.widen (k := 1) (n := 600) (Nat.le_of_ble_eq_true rfl) (Nat.le_of_ble_eq_true rfl) ?_
    exact J38 w11 h p0 p1 (m_fi w6 2 2 h) r10 _ _ _ hd hP hS (lv_sub hl [2, 3, 4, 1, 0] rfl)


noncomputable def e_J5_init_d00df (w : mW) (h : Nat) (p0 : Int32) : Option (Unit × mW) := if 1 = (0 : Int32) then (none) else (m_g (¬ p0 < (0 : Int32) ∧ (p0 : Int32).toNatClampNeg ≤ 16 ∧ 16 ≤ 4000) <| m_l (m_nA w 24 (p0 : Int32).toNatClampNeg) fun w3 => m_g (m_kd w3 h = 2) <| m_l (m_sR w3 1 0 h (some (m_nx w))) fun w6 => m_g (vp_nar .byte 0 = 0) <| m_l (m_sI w6 1 1 h 0) fun w8 => some ((), w8))
set_option maxHeartbeats 1000000 in
set_option maxRecDepth 100000 in
theorem c_J5_init_d00df (l : Launch) (G : m_G) (w w' : mW) (h : Nat) (p0 : Int32) (r : Unit) (hd : e_J5_init_d00df w h p0 = some (r, w')) : Met l yJ5_init_d00df wsJ5_init_d00df ({ frames := 1, cells := 1, slots := 16, locals := 40 } : Room) (m_Pc G w [.ref (h), .int (p0)]) (m_Qv G r w') 1 16 (fun q => G.1 ≤ q) := by
  refine Met.ofW (cc := cJ5_init_d00df) (maxL := 2) (ret := none) (by decide +kernel) rfl ?_
  intro p e s m args below meth c s₁ B hml hv
  obtain ⟨rfl, hM, hP⟩ := hv
  have hx := B.exec
  have hb := B.bytes
  have hr := B.returns
  have hts := atoms_spec (ws := wsJ5_init_d00df) B.pre
  have hown : s.vm.findClass RJ5 = some m.cls := findClass_of_methodNamed B.named
  have hlocks := B.notSynchronized
  have hin : meth.name = "<init>" := (name_of_methodNamed B.named B.method).1
  have hin1 : ∀ w ∈ u_ws RJ4 TJ4 4, w ∈ wsJ5_init_d00df := by decide +kernel
  have hS : va_S (fun q => G.1 ≤ q) s.heap s.heap [] := va_S.rf
  have hl := lv_entry ([.ref (h), .int (p0)]) (n := 2) (Nat.le_of_ble_eq_true rfl)
  rw [lg_entry_eq]
  generalize (lg_sl ([.ref (h), .int (p0)]) ++ List.replicate (2 - (lg_sl ([.ref (h), .int (p0)])).length) Slot.unset).toArray = ls at hl ⊢
  have hl : lv_has ls 2 [(0, .ref (h)), (1, .int (p0))] := hl
  refine lv_aload_n hx hb dJ5_init_d00df_0 rfl (lv_at hl 0 rfl) ?_
  refine W.objInit hx hb hown (hts (.methodLink RJ5 3 objectInit) (by decide +kernel)) (hts (.instanceMethod objectInit) (by decide +kernel)) (hts (.code objectInit ⟨#[0xb1]⟩ 1 none) (by decide +kernel)) rfl (by rw [hml]; exact hl.1) rfl dJ5_init_d00df_1 (Nat.le_of_ble_eq_true rfl) (Nat.le_of_ble_eq_true rfl) ?_
  refine W.eq (g2 := F0 m 4 ls []) rfl ?_
  refine va_gets (own := RJ5) (ref := "java/lang/String") hx hb hM.2.2.2.1 hS hown (hts (.fieldLink RJ5 18 "java/lang/String" "COMPACT_STRINGS" "Z") (by decide +kernel)) (fun _ h9 => h9) dJ5_init_d00df_4 ?_
  refine lv_if_eq (tgt := 25) hx hb dJ5_init_d00df_7 (by decide) (fun c1 => ?_) (fun c1 => ?_)
  · have hd := m_i_t c1 hd
    exact nomatch hd
  · have hd := m_i_f c1 hd
    refine lv_aload_n hx hb dJ5_init_d00df_10 rfl (lv_at hl 0 rfl) ?_
    refine lv_iload_n hx hb dJ5_init_d00df_11 rfl (lv_at hl 1 rfl) ?_
    obtain ⟨hg2, hd⟩ := m_g_e hd
    refine m_newA (atype := .byte) 24 hx hb (hts (.arrayClass .byte) (by decide +kernel)) rfl hM.1 hP hS (t0 := 3) rfl m_nabyte hg2 (Nat.le_of_ble_eq_true rfl) (Nat.le_of_ble_eq_true rfl) dJ5_init_d00df_12 (fun H hP hS => ?_)
    obtain ⟨w3, ew, hd⟩ := m_l_e hd
    have hP : mP G w3 H := by rw [ew]; exact hP
    have hk4 : m_kd w3 (m_nx w) = 24 := by rw [ew]; exact m_nA_new
    obtain ⟨hk5, hd⟩ := m_g_e hd
    refine m_putR (C := RJ4) (T := TJ4) (N := 4) (own := RJ5) (ref := RJ5) hx hb hts hin1 tyJ4 tyJ4_ok nmJ4 hown hM.1 hP hS 1 rfl 0 hk5 (by decide) (hts (.fieldLink RJ5 15 "java/lang/AbstractStringBuilder" "value" "[B") (by decide +kernel)) (fun _ h9 => h9) (Or.inl rfl) (ty := .array .byte) (by decide +kernel) ⟨rfl, rfl⟩ dJ5_init_d00df_14 (fun H locs hP hS => ?_)
    obtain ⟨w6, ew, hd⟩ := m_l_e hd
    have hP : mP G w6 H := by rw [ew]; exact hP
    have hk4 : m_kd w6 (m_nx w) = 24 := by rw [ew]; exact hk4
    have hk5 : m_kd w6 h = 2 := by rw [ew]; exact hk5
    refine lv_aload_n hx hb dJ5_init_d00df_17 rfl (lv_at hl 0 rfl) ?_
    refine lv_iconst (v := 0) hx hb dJ5_init_d00df_18 (by decide) ?_
    obtain ⟨hn7, hd⟩ := m_g_e hd
    refine m_putI (C := RJ4) (T := TJ4) (N := 4) (own := RJ5) (ref := RJ5) hx hb hts hin1 tyJ4 tyJ4_ok nmJ4 hown hM.1 hP hS 1 rfl 1 hk5 (by decide) (hts (.fieldLink RJ5 22 "java/lang/AbstractStringBuilder" "coder" "B") (by decide +kernel)) (fun _ h9 => h9) (Or.inl rfl) (ty := .byte) rfl (m_narB hn7) dJ5_init_d00df_19 (fun H locs hP hS => ?_)
    obtain ⟨w8, ew, hd⟩ := m_l_e hd
    have hP : mP G w8 H := by rw [ew]; exact hP
    have hk4 : m_kd w8 (m_nx w) = 24 := by rw [ew]; exact hk4
    have hk5 : m_kd w8 h = 2 := by rw [ew]; exact hk5
    refine lv_goto (tgt := 38) hx hb dJ5_init_d00df_22 (by decide) ?_
    obtain ⟨e1, e2⟩ := m_s_e hd
    refine W.widen (k := 1) (n := 16) (Nat.le_of_ble_eq_true rfl) (Nat.le_of_ble_eq_true rfl) ?_
    exact W.vret hx hb hr (fun t ht hW => ⟨⟨w8, rfl, e2, by show mP _ _ t.heap; rw [ht]; exact hP⟩, hS.F ht⟩) hS.2.2 dJ5_init_d00df_38


noncomputable def e_J4_init_da8c8 (w : mW) (h : Nat) : Option (Unit × mW) := m_b (e_J5_init_d00df w h 16) fun r1 w2 => some ((), w2)
set_option maxHeartbeats 1000000 in
set_option maxRecDepth 100000 in
theorem c_J4_init_da8c8 (l : Launch) (G : m_G) (w w' : mW) (h : Nat) (r : Unit) (hd : e_J4_init_da8c8 w h = some (r, w')) : Met l yJ4_init_da8c8 wsJ4_init_da8c8 ({ frames := 2, cells := 1, slots := 16, locals := 61 } : Room) (m_Pc G w [.ref (h)]) (m_Qv G r w') 1 16 (fun q => G.1 ≤ q) := by
  refine Met.ofW (cc := cJ4_init_da8c8) (maxL := 1) (ret := none) (by decide +kernel) rfl ?_
  intro p e s m args below meth c s₁ B hml hv
  obtain ⟨rfl, hM, hP⟩ := hv
  have hx := B.exec
  have hb := B.bytes
  have hr := B.returns
  have hts := atoms_spec (ws := wsJ4_init_da8c8) B.pre
  have hown : s.vm.findClass RJ4 = some m.cls := findClass_of_methodNamed B.named
  have hlocks := B.notSynchronized
  have hin : meth.name = "<init>" := (name_of_methodNamed B.named B.method).1
  have hS : va_S (fun q => G.1 ≤ q) s.heap s.heap [] := va_S.rf
  have hl := lv_entry ([.ref (h)]) (n := 1) (Nat.le_of_ble_eq_true rfl)
  rw [lg_entry_eq]
  generalize (lg_sl ([.ref (h)]) ++ List.replicate (1 - (lg_sl ([.ref (h)])).length) Slot.unset).toArray = ls at hl ⊢
  have hl : lv_has ls 1 [(0, .ref (h))] := hl
  refine lv_aload_n hx hb dJ4_init_da8c8_0 rfl (lv_at hl 0 rfl) ?_
  refine lv_bipush (v := 16) hx hb dJ4_init_da8c8_1 (by decide) ?_
  obtain ⟨r1, w2, hc3, hd⟩ := m_b_e hd
  refine m_callv (k := 1) (n := 16) (va_runI (As := [.int (16)]) (rest := []) ⟨hx, hb, hml, hown, hts⟩ (c_J5_init_d00df l G w w2 h 16 r1 hc3) (cwI 1 hts gJ4_init_da8c8_J5_init_d00df rfl rfl rfl (hts (.initialized RJ5) (by decide +kernel)) (hts (.methodLink RJ4 1 yJ5_init_d00df) (by decide +kernel)) (hts (.instanceMethod yJ5_init_d00df) (by decide +kernel)) rfl (by decide +kernel) ⟨(Nat.le_of_ble_eq_true rfl), (Nat.le_of_ble_eq_true rfl)⟩) (m_preS hM hP hS) rfl rfl hl.1 rfl (lv_room (Nat.le_of_ble_eq_true rfl)) dJ4_init_da8c8_3 ⟨(Nat.le_of_ble_eq_true rfl), (Nat.le_of_ble_eq_true rfl)⟩) hS ⟨(Nat.le_of_ble_eq_true rfl), (Nat.le_of_ble_eq_true rfl)⟩ (fun H locs hP hS => ?_)
  obtain ⟨e1, e2⟩ := m_s_e hd
  refine W.widen (k := 1) (n := 16) (Nat.le_of_ble_eq_true rfl) (Nat.le_of_ble_eq_true rfl) ?_
  exact W.vret hx hb hr (fun t ht hW => ⟨⟨w2, rfl, e2, by show mP _ _ t.heap; rw [ht]; exact hP⟩, hS.F ht⟩) hS.2.2 dJ4_init_da8c8_6


noncomputable def e_J5_newCapacity_0f7a4 (w : mW) (h : Nat) (p0 : Int32) : Option (Int32 × mW) := m_g (m_kd w h = 2) <| m_o (m_fr w 1 0 h) fun r2 => m_g (21 ≤ m_kd w r2 ∧ m_kd w r2 ≤ 25) <| m_b (e_J8_newLength_cabcc w (nI (m_ln w r2)) ((p0 <<< ((m_fi w 1 1 h) &&& 31)) - (nI (m_ln w r2))) ((nI (m_ln w r2)) + (2 <<< ((m_fi w 1 1 h) &&& 31)))) fun r4 w5 => if r4 = 2147483647 then (none) else (m_g (m_kd w5 h = 2) <| some (r4 >>> ((m_fi w5 1 1 h) &&& 31), w5))
set_option maxHeartbeats 1000000 in
set_option maxRecDepth 100000 in
theorem c_J5_newCapacity_0f7a4 (l : Launch) (G : m_G) (w w' : mW) (h : Nat) (p0 : Int32) (r : Int32) (hd : e_J5_newCapacity_0f7a4 w h p0 = some (r, w')) : Met l yJ5_newCapacity_0f7a4 wsJ5_newCapacity_0f7a4 ({ frames := 2, cells := 0, slots := 0, locals := 83 } : Room) (m_Pc G w [.ref (h), .int (p0)]) (m_Qi G r w') 0 0 (fun q => G.1 ≤ q) := by
  refine Met.ofW (cc := cJ5_newCapacity_0f7a4) (maxL := 6) (ret := (some .int)) (by decide +kernel) rfl ?_
  intro p e s m args below meth c s₁ B hml hv
  obtain ⟨rfl, hM, hP⟩ := hv
  have hx := B.exec
  have hb := B.bytes
  have hr := B.returns
  have hts := atoms_spec (ws := wsJ5_newCapacity_0f7a4) B.pre
  have hown : s.vm.findClass RJ5 = some m.cls := findClass_of_methodNamed B.named
  have hlocks := B.notSynchronized
  have hin1 : ∀ w ∈ u_ws RJ4 TJ4 4, w ∈ wsJ5_newCapacity_0f7a4 := by decide +kernel
  have hS : va_S (fun q => G.1 ≤ q) s.heap s.heap [] := va_S.rf
  have hl := lv_entry ([.ref (h), .int (p0)]) (n := 6) (Nat.le_of_ble_eq_true rfl)
  rw [lg_entry_eq]
  generalize (lg_sl ([.ref (h), .int (p0)]) ++ List.replicate (6 - (lg_sl ([.ref (h), .int (p0)])).length) Slot.unset).toArray = ls at hl ⊢
  have hl : lv_has ls 6 [(0, .ref (h)), (1, .int (p0))] := hl
  refine lv_aload_n hx hb dJ5_newCapacity_0f7a4_0 rfl (lv_at hl 0 rfl) ?_
  obtain ⟨hk1, hd⟩ := m_g_e hd
  obtain ⟨r2, hr2, hd⟩ := m_o_e hd
  refine m_getR (C := RJ4) (T := TJ4) (N := 4) (own := RJ5) (ref := RJ5) hx hb hts hin1 hown hM.1 hP 1 rfl 0 (r := r2) ⟨hk1, hr2⟩ (by decide) (hts (.fieldLink RJ5 15 "java/lang/AbstractStringBuilder" "value" "[B") (by decide +kernel)) (fun _ h9 => h9) dJ5_newCapacity_0f7a4_1 ?_
  obtain ⟨hg3, hd⟩ := m_g_e hd
  refine m_alen hx hb hM.1 hP hg3 dJ5_newCapacity_0f7a4_4 ?_
  refine lv_istore_n (lv' := [(2, .int (nI (m_ln w r2))), (0, .ref (h)), (1, .int (p0))]) hx hb dJ5_newCapacity_0f7a4_5 rfl hl (by decide) rfl (fun ls hl => ?_)
  refine lv_iload_n hx hb dJ5_newCapacity_0f7a4_6 rfl (lv_at hl 2 rfl) ?_
  refine lv_aload_n hx hb dJ5_newCapacity_0f7a4_7 rfl (lv_at hl 1 rfl) ?_
  refine m_getI (C := RJ4) (T := TJ4) (N := 4) (own := RJ5) (ref := RJ5) hx hb hts hin1 hown hM.1 hP 1 rfl 1 hk1 (by decide) (hts (.fieldLink RJ5 22 "java/lang/AbstractStringBuilder" "coder" "B") (by decide +kernel)) (fun _ h9 => h9) dJ5_newCapacity_0f7a4_8 ?_
  refine lv_ishl hx hb dJ5_newCapacity_0f7a4_11 ?_
  refine lv_istore_n (lv' := [(3, .int (p0 <<< ((m_fi w 1 1 h) &&& 31))), (2, .int (nI (m_ln w r2))), (0, .ref (h)), (1, .int (p0))]) hx hb dJ5_newCapacity_0f7a4_12 rfl hl (by decide) rfl (fun ls hl => ?_)
  refine lv_iload_n hx hb dJ5_newCapacity_0f7a4_13 rfl (lv_at hl 0 rfl) ?_
  refine lv_iload_n hx hb dJ5_newCapacity_0f7a4_14 rfl (lv_at hl 1 rfl) ?_
  refine lv_isub hx hb dJ5_newCapacity_0f7a4_15 ?_
  refine lv_istore (lv' := [(4, .int ((p0 <<< ((m_fi w 1 1 h) &&& 31)) - (nI (m_ln w r2)))), (3, .int (p0 <<< ((m_fi w 1 1 h) &&& 31))), (2, .int (nI (m_ln w r2))), (0, .ref (h)), (1, .int (p0))]) hx hb dJ5_newCapacity_0f7a4_16 hl (by decide) rfl (fun ls hl => ?_)
  refine lv_iload_n hx hb dJ5_newCapacity_0f7a4_18 rfl (lv_at hl 2 rfl) ?_
  refine lv_iload hx hb dJ5_newCapacity_0f7a4_19 (lv_at hl 0 rfl) ?_
  refine lv_iload_n hx hb dJ5_newCapacity_0f7a4_21 rfl (lv_at hl 2 rfl) ?_
  refine lv_iconst (v := 2) hx hb dJ5_newCapacity_0f7a4_22 (by decide) ?_
  refine lv_aload_n hx hb dJ5_newCapacity_0f7a4_23 rfl (lv_at hl 3 rfl) ?_
  refine m_getI (C := RJ4) (T := TJ4) (N := 4) (own := RJ5) (ref := RJ5) hx hb hts hin1 hown hM.1 hP 1 rfl 1 hk1 (by decide) (hts (.fieldLink RJ5 22 "java/lang/AbstractStringBuilder" "coder" "B") (by decide +kernel)) (fun _ h9 => h9) dJ5_newCapacity_0f7a4_24 ?_
  refine lv_ishl hx hb dJ5_newCapacity_0f7a4_27 ?_
  refine lv_iadd hx hb dJ5_newCapacity_0f7a4_28 ?_
  obtain ⟨r4, w5, hc6, hd⟩ := m_b_e hd
  refine m_calli (k := 0) (n := 0) (va_runS (As := [.int (nI (m_ln w r2)), .int ((p0 <<< ((m_fi w 1 1 h) &&& 31)) - (nI (m_ln w r2))), .int ((nI (m_ln w r2)) + (2 <<< ((m_fi w 1 1 h) &&& 31)))]) (rest := []) ⟨hx, hb, hml, hown, hts⟩ (c_J8_newLength_cabcc l G w w5 (nI (m_ln w r2)) ((p0 <<< ((m_fi w 1 1 h) &&& 31)) - (nI (m_ln w r2))) ((nI (m_ln w r2)) + (2 <<< ((m_fi w 1 1 h) &&& 31))) r4 hc6) (va_cwS 3 hts gJ5_newCapacity_0f7a4_J8_newLength_cabcc rfl rfl rfl (by decide +kernel) ⟨(Nat.le_of_ble_eq_true rfl), (Nat.le_of_ble_eq_true rfl)⟩) (m_preS hM hP hS) rfl rfl hl.1 rfl (lv_room (Nat.le_of_ble_eq_true rfl)) dJ5_newCapacity_0f7a4_29 ⟨(Nat.le_of_ble_eq_true rfl), (Nat.le_of_ble_eq_true rfl)⟩) hS ⟨(Nat.le_of_ble_eq_true rfl), (Nat.le_of_ble_eq_true rfl)⟩ (fun H locs hP hS => ?_)
  refine lv_istore (lv' := [(5, .int (r4)), (4, .int ((p0 <<< ((m_fi w 1 1 h) &&& 31)) - (nI (m_ln w r2)))), (3, .int (p0 <<< ((m_fi w 1 1 h) &&& 31))), (2, .int (nI (m_ln w r2))), (0, .ref (h)), (1, .int (p0))]) hx hb dJ5_newCapacity_0f7a4_32 hl (by decide) rfl (fun ls hl => ?_)
  refine lv_iload hx hb dJ5_newCapacity_0f7a4_34 (lv_at hl 0 rfl) ?_
  refine lv_ldc (own := RJ5) (index := 39) (v := 2147483647) hx hb hown (hts (.constant RJ5 39 (2147483647)) (by decide +kernel)) dJ5_newCapacity_0f7a4_36 ?_
  refine lv_icmp_ne (tgt := 51) hx hb dJ5_newCapacity_0f7a4_38 (by decide) (fun c7 => ?_) (fun c7 => ?_)
  · have hd := m_i_f c7 hd
    refine lv_iload hx hb dJ5_newCapacity_0f7a4_51 (lv_at hl 0 rfl) ?_
    refine lv_aload_n hx hb dJ5_newCapacity_0f7a4_53 rfl (lv_at hl 4 rfl) ?_
    obtain ⟨hk8, hd⟩ := m_g_e hd
    refine m_getI (C := RJ4) (T := TJ4) (N := 4) (own := RJ5) (ref := RJ5) hx hb hts hin1 hown hM.1 hP 1 rfl 1 hk8 (by decide) (hts (.fieldLink RJ5 22 "java/lang/AbstractStringBuilder" "coder" "B") (by decide +kernel)) (fun _ h9 => h9) dJ5_newCapacity_0f7a4_54 ?_
    refine lv_ishr hx hb dJ5_newCapacity_0f7a4_57 ?_
    obtain ⟨e1, e2⟩ := m_s_e hd
    refine W.widen (k := 0) (n := 0) (Nat.le_of_ble_eq_true rfl) (Nat.le_of_ble_eq_true rfl) ?_
    exact W.iret hx hb hr (fun t ht hW => ⟨⟨_, w5, rfl, ⟨e1, e2⟩, by show mP _ _ t.heap; rw [ht]; exact hP⟩, hS.F ht⟩) hS.2.2 dJ5_newCapacity_0f7a4_58
  · have hd := m_i_t c7 hd
    exact nomatch hd


noncomputable def e_J7_copyOf_9075b (w : mW) (p0 : Nat) (p1 : Int32) : Option (Nat × mW) := m_g (21 ≤ m_kd w p0 ∧ m_kd w p0 ≤ 25) <| if p1 = (nI (m_ln w p0)) then (none) else (m_g (¬ p1 < (0 : Int32) ∧ (p1 : Int32).toNatClampNeg ≤ 150 ∧ 150 ≤ 4000) <| m_l (m_nA w 24 (p1 : Int32).toNatClampNeg) fun w4 => m_g (21 ≤ m_kd w4 p0 ∧ m_kd w4 p0 ≤ 25) <| m_g (m_kd w4 p0 = 24 ∧ m_kd w4 (m_nx w) = 24 ∧ ¬ 0 < (0 : Int32) ∧ ¬ 0 < (0 : Int32) ∧ ¬ (m_min (nI (m_ln w4 p0)) p1) < (0 : Int32) ∧ (0 : Int32).toNatClampNeg + (m_min (nI (m_ln w4 p0)) p1 : Int32).toNatClampNeg ≤ m_ln w4 p0 ∧ (0 : Int32).toNatClampNeg + (m_min (nI (m_ln w4 p0)) p1 : Int32).toNatClampNeg ≤ m_ln w4 (m_nx w) ∧ 0 < m_ln w4 (m_nx w)) <| m_g (∀ i, i < (m_min (nI (m_ln w4 p0)) p1 : Int32).toNatClampNeg → vp_nar .byte (m_ia w4 p0 ((0 : Int32).toNatClampNeg + i)) = m_ia w4 p0 ((0 : Int32).toNatClampNeg + i)) <| m_l (m_sF w4 (m_nx w) (va_cpy (m_ia w4 p0) (m_ia w4 (m_nx w)) (0 : Int32).toNatClampNeg (0 : Int32).toNatClampNeg (m_min (nI (m_ln w4 p0)) p1 : Int32).toNatClampNeg)) fun w9 => some ((m_nx w), w9))
set_option maxHeartbeats 1000000 in
set_option maxRecDepth 100000 in
theorem c_J7_copyOf_9075b (l : Launch) (G : m_G) (w w' : mW) (p0 : Nat) (p1 : Int32) (r : Nat) (hd : e_J7_copyOf_9075b w p0 p1 = some (r, w')) : Met l yJ7_copyOf_9075b wsJ7_copyOf_9075b ({ frames := 2, cells := 1, slots := 150, locals := 80 } : Room) (m_Pc G w [.ref (p0), .int (p1)]) (m_Qq G (some r) w') 1 150 (fun q => G.1 ≤ q) := by
  refine Met.ofW (cc := cJ7_copyOf_9075b) (maxL := 3) (ret := (some (.array .byte))) (by decide +kernel) rfl ?_
  intro p e s m args below meth c s₁ B hml hv
  obtain ⟨rfl, hM, hP⟩ := hv
  have hx := B.exec
  have hb := B.bytes
  have hr := B.returns
  have hts := atoms_spec (ws := wsJ7_copyOf_9075b) B.pre
  have hown : s.vm.findClass RJ7 = some m.cls := findClass_of_methodNamed B.named
  have hlocks := B.notSynchronized
  have hS : va_S (fun q => G.1 ≤ q) s.heap s.heap [] := va_S.rf
  have hl := lv_entry ([.ref (p0), .int (p1)]) (n := 3) (Nat.le_of_ble_eq_true rfl)
  rw [lg_entry_eq]
  generalize (lg_sl ([.ref (p0), .int (p1)]) ++ List.replicate (3 - (lg_sl ([.ref (p0), .int (p1)])).length) Slot.unset).toArray = ls at hl ⊢
  have hl : lv_has ls 3 [(0, .ref (p0)), (1, .int (p1))] := hl
  refine lv_iload_n hx hb dJ7_copyOf_9075b_0 rfl (lv_at hl 1 rfl) ?_
  refine lv_aload_n hx hb dJ7_copyOf_9075b_1 rfl (lv_at hl 0 rfl) ?_
  obtain ⟨hg1, hd⟩ := m_g_e hd
  refine m_alen hx hb hM.1 hP hg1 dJ7_copyOf_9075b_2 ?_
  refine lv_icmp_ne (tgt := 14) hx hb dJ7_copyOf_9075b_3 (by decide) (fun c2 => ?_) (fun c2 => ?_)
  · have hd := m_i_f c2 hd
    refine lv_iload_n hx hb dJ7_copyOf_9075b_14 rfl (lv_at hl 1 rfl) ?_
    obtain ⟨hg3, hd⟩ := m_g_e hd
    refine m_newA (atype := .byte) 24 hx hb (hts (.arrayClass .byte) (by decide +kernel)) rfl hM.1 hP hS (t0 := 3) rfl m_nabyte hg3 (Nat.le_of_ble_eq_true rfl) (Nat.le_of_ble_eq_true rfl) dJ7_copyOf_9075b_15 (fun H hP hS => ?_)
    obtain ⟨w4, ew, hd⟩ := m_l_e hd
    have hP : mP G w4 H := by rw [ew]; exact hP
    have hk5 : m_kd w4 (m_nx w) = 24 := by rw [ew]; exact m_nA_new
    refine lv_astore_n (lv' := [(2, .ref (m_nx w)), (0, .ref (p0)), (1, .int (p1))]) hx hb dJ7_copyOf_9075b_17 rfl hl (by decide) rfl (fun ls hl => ?_)
    refine lv_aload_n hx hb dJ7_copyOf_9075b_18 rfl (lv_at hl 1 rfl) ?_
    refine lv_iconst (v := 0) hx hb dJ7_copyOf_9075b_19 (by decide) ?_
    refine lv_aload_n hx hb dJ7_copyOf_9075b_20 rfl (lv_at hl 0 rfl) ?_
    refine lv_iconst (v := 0) hx hb dJ7_copyOf_9075b_21 (by decide) ?_
    refine lv_aload_n hx hb dJ7_copyOf_9075b_22 rfl (lv_at hl 1 rfl) ?_
    obtain ⟨hg6, hd⟩ := m_g_e hd
    refine m_alen hx hb hM.1 hP hg6 dJ7_copyOf_9075b_23 ?_
    refine lv_iload_n hx hb dJ7_copyOf_9075b_24 rfl (lv_at hl 2 rfl) ?_
    refine va_mmin (own := RJ7) hx hb (by rw [hml]; exact hl.1.symm) hown (hts (.methodLink RJ7 304 Lib.Math.min.name) (by decide +kernel)) (hts (.static Lib.Math.min.name) (by decide +kernel)) (hts (.initialized "java/lang/Math") (by decide +kernel)) (hts (.code Lib.Math.min.name Lib.Math.min.code 2 (some .int)) (by decide +kernel)) (Nat.le_of_ble_eq_true rfl) (Nat.le_of_ble_eq_true rfl) (Nat.le_of_ble_eq_true rfl) (Nat.le_of_ble_eq_true rfl) dJ7_copyOf_9075b_25 ?_
    obtain ⟨hg7, hd⟩ := m_g_e hd
    obtain ⟨hg8, hd⟩ := m_g_e hd
    refine m_copyB (own := RJ7) hx hb (by rw [hml]; exact hl.1.symm) hown (hts (.methodLink RJ7 150 arraycopyName) (by decide +kernel)) (hts (.native arraycopyName) (by decide +kernel)) (hts (.static arraycopyName) (by decide +kernel)) (hts (.initialized "java/lang/System") (by decide +kernel)) hM hP hS hg7 hg8 (Nat.le_of_ble_eq_true rfl) (Nat.le_of_ble_eq_true rfl) dJ7_copyOf_9075b_28 (fun H locs hP hS => ?_)
    obtain ⟨w9, ew, hd⟩ := m_l_e hd
    have hP : mP G w9 H := by rw [ew]; exact hP
    have hk5 : m_kd w9 (m_nx w) = 24 := by rw [ew]; exact hk5
    refine lv_aload_n hx hb dJ7_copyOf_9075b_31 rfl (lv_at hl 0 rfl) ?_
    obtain ⟨e1, e2⟩ := m_s_e hd
    refine W.widen (k := 1) (n := 150) (Nat.le_of_ble_eq_true rfl) (Nat.le_of_ble_eq_true rfl) ?_
    exact W.aret hx hb hr (Or.inr ⟨_, rfl⟩) (Or.inr ⟨_, rfl⟩) (fun t ht hW => ⟨⟨some (m_nx w), w9, rfl, ⟨congrArg some e1, e2⟩, by show mP _ _ t.heap; rw [ht]; exact hP⟩, hS.F ht⟩) hS.2.2 dJ7_copyOf_9075b_32
  · have hd := m_i_t c2 hd
    exact nomatch hd


noncomputable def e_J5_ensureCapacityInternal_d00df_38 (w : mW)  : Option (Unit × mW) := some ((), w)
noncomputable def e_J5_ensureCapacityInternal_d00df (w : mW) (h : Nat) (p0 : Int32) : Option (Unit × mW) := m_g (m_kd w h = 2) <| m_o (m_fr w 1 0 h) fun r2 => m_g (21 ≤ m_kd w r2 ∧ m_kd w r2 ≤ 25) <| if (p0 - ((nI (m_ln w r2)) >>> ((m_fi w 1 1 h) &&& 31))) ≤ (0 : Int32) then (e_J5_ensureCapacityInternal_d00df_38 w) else (m_o (m_fr w 1 0 h) fun r5 => m_b (e_J5_newCapacity_0f7a4 w h p0) fun r6 w7 => m_g (m_kd w7 h = 2) <| m_b (e_J7_copyOf_9075b w7 r5 (r6 <<< ((m_fi w7 1 1 h) &&& 31))) fun r10 w11 => m_g (m_kd w11 h = 2) <| m_l (m_sR w11 1 0 h (some r10)) fun w14 => e_J5_ensureCapacityInternal_d00df_38 w14)
set_option maxHeartbeats 1000000 in
set_option maxRecDepth 100000 in
theorem c_J5_ensureCapacityInternal_d00df (l : Launch) (G : m_G) (w w' : mW) (h : Nat) (p0 : Int32) (r : Unit) (hd : e_J5_ensureCapacityInternal_d00df w h p0 = some (r, w')) : Met l yJ5_ensureCapacityInternal_d00df wsJ5_ensureCapacityInternal_d00df ({ frames := 3, cells := 1, slots := 150, locals := 108 } : Room) (m_Pc G w [.ref (h), .int (p0)]) (m_Qv G r w') 1 150 (fun q => G.1 ≤ q) := by
  refine Met.ofW (cc := cJ5_ensureCapacityInternal_d00df) (maxL := 3) (ret := none) (by decide +kernel) rfl ?_
  intro p e s m args below meth c s₁ B hml hv
  obtain ⟨rfl, hM, hP⟩ := hv
  have hx := B.exec
  have hb := B.bytes
  have hr := B.returns
  have hts := atoms_spec (ws := wsJ5_ensureCapacityInternal_d00df) B.pre
  have hown : s.vm.findClass RJ5 = some m.cls := findClass_of_methodNamed B.named
  have hlocks := B.notSynchronized
  have hin1 : ∀ w ∈ u_ws RJ4 TJ4 4, w ∈ wsJ5_ensureCapacityInternal_d00df := by decide +kernel
  have hS : va_S (fun q => G.1 ≤ q) s.heap s.heap [] := va_S.rf
  have J38 : ∀ (w : mW) (H : Heap) (locs : List Loc) (ls : Array Slot), e_J5_ensureCapacityInternal_d00df_38 w = some (r, w') → mP G w H → va_S (fun q => G.1 ≤ q) s.heap H locs → lv_has ls 3 [] → W p l e ({ frames := 3, cells := 1, slots := 150, locals := 108 } : Room) s m ([.ref (h), .int (p0)] : List Value).toArray below meth c H locs 1 150 (MQ below (m_Qv G r w') ([.ref (h), .int (p0)] : List Value).toArray s 1 150 (fun q => G.1 ≤ q)) (F0 m 38 ls []) := by
    intro w H locs ls hd hP hS hl
    obtain ⟨e1, e2⟩ := m_s_e hd
    refine W.widen (k := 1) (n := 150) (Nat.le_of_ble_eq_true rfl) (Nat.le_of_ble_eq_true rfl) ?_
    exact W.vret hx hb hr (fun t ht hW => ⟨⟨w, rfl, e2, by show mP _ _ t.heap; rw [ht]; exact hP⟩, hS.F ht⟩) hS.2.2 dJ5_ensureCapacityInternal_d00df_38
  have hl := lv_entry ([.ref (h), .int (p0)]) (n := 3) (Nat.le_of_ble_eq_true rfl)
  rw [lg_entry_eq]
  generalize (lg_sl ([.ref (h), .int (p0)]) ++ List.replicate (3 - (lg_sl ([.ref (h), .int (p0)])).length) Slot.unset).toArray = ls at hl ⊢
  have hl : lv_has ls 3 [(0, .ref (h)), (1, .int (p0))] := hl
  refine lv_aload_n hx hb dJ5_ensureCapacityInternal_d00df_0 rfl (lv_at hl 0 rfl) ?_
  obtain ⟨hk1, hd⟩ := m_g_e hd
  obtain ⟨r2, hr2, hd⟩ := m_o_e hd
  refine m_getR (C := RJ4) (T := TJ4) (N := 4) (own := RJ5) (ref := RJ5) hx hb hts hin1 hown hM.1 hP 1 rfl 0 (r := r2) ⟨hk1, hr2⟩ (by decide) (hts (.fieldLink RJ5 15 "java/lang/AbstractStringBuilder" "value" "[B") (by decide +kernel)) (fun _ h9 => h9) dJ5_ensureCapacityInternal_d00df_1 ?_
  obtain ⟨hg3, hd⟩ := m_g_e hd
  refine m_alen hx hb hM.1 hP hg3 dJ5_ensureCapacityInternal_d00df_4 ?_
  refine lv_aload_n hx hb dJ5_ensureCapacityInternal_d00df_5 rfl (lv_at hl 0 rfl) ?_
  refine m_getI (C := RJ4) (T := TJ4) (N := 4) (own := RJ5) (ref := RJ5) hx hb hts hin1 hown hM.1 hP 1 rfl 1 hk1 (by decide) (hts (.fieldLink RJ5 22 "java/lang/AbstractStringBuilder" "coder" "B") (by decide +kernel)) (fun _ h9 => h9) dJ5_ensureCapacityInternal_d00df_6 ?_
  refine lv_ishr hx hb dJ5_ensureCapacityInternal_d00df_9 ?_
  refine lv_istore_n (lv' := [(2, .int ((nI (m_ln w r2)) >>> ((m_fi w 1 1 h) &&& 31))), (0, .ref (h)), (1, .int (p0))]) hx hb dJ5_ensureCapacityInternal_d00df_10 rfl hl (by decide) rfl (fun ls hl => ?_)
  refine lv_iload_n hx hb dJ5_ensureCapacityInternal_d00df_11 rfl (lv_at hl 2 rfl) ?_
  refine lv_iload_n hx hb dJ5_ensureCapacityInternal_d00df_12 rfl (lv_at hl 0 rfl) ?_
  refine lv_isub hx hb dJ5_ensureCapacityInternal_d00df_13 ?_
  refine lv_if_le (tgt := 38) hx hb dJ5_ensureCapacityInternal_d00df_14 (by decide) (fun c4 => ?_) (fun c4 => ?_)
  · have hd := m_i_t c4 hd
    refine W.widen (k := 1) (n := 150) (Nat.le_of_ble_eq_true rfl) (Nat.le_of_ble_eq_true rfl) ?_
    exact J38 w _ _ _ hd hP hS (lv_sub hl [] rfl)
  · have hd := m_i_f c4 hd
    refine lv_aload_n hx hb dJ5_ensureCapacityInternal_d00df_17 rfl (lv_at hl 1 rfl) ?_
    refine lv_aload_n hx hb dJ5_ensureCapacityInternal_d00df_18 rfl (lv_at hl 1 rfl) ?_
    obtain ⟨r5, hr5, hd⟩ := m_o_e hd
    refine m_getR (C := RJ4) (T := TJ4) (N := 4) (own := RJ5) (ref := RJ5) hx hb hts hin1 hown hM.1 hP 1 rfl 0 (r := r5) ⟨hk1, hr5⟩ (by decide) (hts (.fieldLink RJ5 15 "java/lang/AbstractStringBuilder" "value" "[B") (by decide +kernel)) (fun _ h9 => h9) dJ5_ensureCapacityInternal_d00df_19 ?_
    refine lv_aload_n hx hb dJ5_ensureCapacityInternal_d00df_22 rfl (lv_at hl 1 rfl) ?_
    refine lv_iload_n hx hb dJ5_ensureCapacityInternal_d00df_23 rfl (lv_at hl 2 rfl) ?_
    obtain ⟨r6, w7, hc8, hd⟩ := m_b_e hd
    refine m_calli (k := 0) (n := 0) (va_runU (As := [.int (p0)]) (rest := [.ref (r5), .ref (h)]) ⟨hx, hb, hml, hown, hts⟩ (c_J5_newCapacity_0f7a4 l G w w7 h p0 r6 hc8) (va_cwU 1 hts gJ5_ensureCapacityInternal_d00df_J5_newCapacity_0f7a4_u104J4 rfl rfl rfl rfl (by decide +kernel) ⟨(Nat.le_of_ble_eq_true rfl), (Nat.le_of_ble_eq_true rfl)⟩) (m_preV (C := RJ4) (T := TJ4) (N := 4) hM hP hS rfl (by decide) hk1) rfl rfl hl.1 rfl (lv_room (Nat.le_of_ble_eq_true rfl)) dJ5_ensureCapacityInternal_d00df_24 ⟨(Nat.le_of_ble_eq_true rfl), (Nat.le_of_ble_eq_true rfl)⟩) hS ⟨(Nat.le_of_ble_eq_true rfl), (Nat.le_of_ble_eq_true rfl)⟩ (fun H locs hP hS => ?_)
    refine lv_aload_n hx hb dJ5_ensureCapacityInternal_d00df_27 rfl (lv_at hl 1 rfl) ?_
    obtain ⟨hk9, hd⟩ := m_g_e hd
    refine m_getI (C := RJ4) (T := TJ4) (N := 4) (own := RJ5) (ref := RJ5) hx hb hts hin1 hown hM.1 hP 1 rfl 1 hk9 (by decide) (hts (.fieldLink RJ5 22 "java/lang/AbstractStringBuilder" "coder" "B") (by decide +kernel)) (fun _ h9 => h9) dJ5_ensureCapacityInternal_d00df_28 ?_
    refine lv_ishl hx hb dJ5_ensureCapacityInternal_d00df_31 ?_
    obtain ⟨r10, w11, hc12, hd⟩ := m_b_e hd
    refine m_callr (k := 1) (n := 150) (va_runS (As := [.ref (r5), .int (r6 <<< ((m_fi w7 1 1 h) &&& 31))]) (rest := [.ref (h)]) ⟨hx, hb, hml, hown, hts⟩ (c_J7_copyOf_9075b l G w7 w11 r5 (r6 <<< ((m_fi w7 1 1 h) &&& 31)) r10 hc12) (va_cwS 2 hts gJ5_ensureCapacityInternal_d00df_J7_copyOf_9075b rfl rfl rfl (by decide +kernel) ⟨(Nat.le_of_ble_eq_true rfl), (Nat.le_of_ble_eq_true rfl)⟩) (m_preS hM hP hS) rfl rfl hl.1 rfl (lv_room (Nat.le_of_ble_eq_true rfl)) dJ5_ensureCapacityInternal_d00df_32 ⟨(Nat.le_of_ble_eq_true rfl), (Nat.le_of_ble_eq_true rfl)⟩) hS ⟨(Nat.le_of_ble_eq_true rfl), (Nat.le_of_ble_eq_true rfl)⟩ (fun H locs hP hS => ?_)
    obtain ⟨hk13, hd⟩ := m_g_e hd
    refine m_putR (C := RJ4) (T := TJ4) (N := 4) (own := RJ5) (ref := RJ5) hx hb hts hin1 tyJ4 tyJ4_ok nmJ4 hown hM.1 hP hS 1 rfl 0 hk13 (by decide) (hts (.fieldLink RJ5 15 "java/lang/AbstractStringBuilder" "value" "[B") (by decide +kernel)) (fun _ h9 => h9) (Or.inl rfl) (ty := .array .byte) (by decide +kernel) ⟨rfl, rfl⟩ dJ5_ensureCapacityInternal_d00df_35 (fun H locs hP hS => ?_)
    obtain ⟨w14, ew, hd⟩ := m_l_e hd
    have hP : mP G w14 H := by rw [ew]; exact hP
    have hk13 : m_kd w14 h = 2 := by rw [ew]; exact hk13
    refine W.widen (k := 1) (n := 150) (Nat.le_of_ble_eq_true rfl) (Nat.le_of_ble_eq_true rfl) ?_
    exact J38 w14 _ _ _ hd hP hS (lv_sub hl [] rfl)


noncomputable def e_J5_isLatin1_aae02_18 (w : mW) (s0 : Int32) : Option (Int32 × mW) := m_g (vp_nar .boolean s0 = s0) <| some (s0, w)
noncomputable def e_J5_isLatin1_aae02_17 (w : mW)  : Option (Int32 × mW) := e_J5_isLatin1_aae02_18 w 0
noncomputable def e_J5_isLatin1_aae02 (w : mW) (h : Nat) : Option (Int32 × mW) := if 1 = (0 : Int32) then (e_J5_isLatin1_aae02_17 w) else (m_g (m_kd w h = 2) <| if (m_fi w 1 1 h) = (0 : Int32) then (e_J5_isLatin1_aae02_18 w 1) else (e_J5_isLatin1_aae02_17 w))
set_option maxHeartbeats 1000000 in
set_option maxRecDepth 100000 in
theorem c_J5_isLatin1_aae02 (l : Launch) (G : m_G) (w w' : mW) (h : Nat) (r : Int32) (hd : e_J5_isLatin1_aae02 w h = some (r, w')) : Met l yJ5_isLatin1_aae02 wsJ5_isLatin1_aae02 ({ frames := 0, cells := 0, slots := 0, locals := 0 } : Room) (m_Pc G w [.ref (h)]) (m_Qi G r w') 0 0 (fun q => G.1 ≤ q) := by
  refine Met.ofW (cc := cJ5_isLatin1_aae02) (maxL := 1) (ret := (some .boolean)) (by decide +kernel) rfl ?_
  intro p e s m args below meth c s₁ B hml hv
  obtain ⟨rfl, hM, hP⟩ := hv
  have hx := B.exec
  have hb := B.bytes
  have hr := B.returns
  have hts := atoms_spec (ws := wsJ5_isLatin1_aae02) B.pre
  have hown : s.vm.findClass RJ5 = some m.cls := findClass_of_methodNamed B.named
  have hlocks := B.notSynchronized
  have hin1 : ∀ w ∈ u_ws RJ4 TJ4 4, w ∈ wsJ5_isLatin1_aae02 := by decide +kernel
  have hS : va_S (fun q => G.1 ≤ q) s.heap s.heap [] := va_S.rf
  have J18 : ∀ (w : mW) (s0 : Int32) (H : Heap) (locs : List Loc) (ls : Array Slot), e_J5_isLatin1_aae02_18 w s0 = some (r, w') → mP G w H → va_S (fun q => G.1 ≤ q) s.heap H locs → lv_has ls 1 [] → W p l e ({ frames := 0, cells := 0, slots := 0, locals := 0 } : Room) s m ([.ref (h)] : List Value).toArray below meth c H locs 0 0 (MQ below (m_Qi G r w') ([.ref (h)] : List Value).toArray s 0 0 (fun q => G.1 ≤ q)) (F0 m 18 ls [.int (s0)]) := by
    intro w s0 H locs ls hd hP hS hl
    obtain ⟨hn204, hd⟩ := m_g_e hd
    obtain ⟨e1, e2⟩ := m_s_e hd
    refine W.widen (k := 0) (n := 0) (Nat.le_of_ble_eq_true rfl) (Nat.le_of_ble_eq_true rfl) ?_
    exact W.zret hx hb hr (m_narZ hn204).1 (fun t ht hW => ⟨⟨_, w, rfl, ⟨e1, e2⟩, by show mP _ _ t.heap; rw [ht]; exact hP⟩, hS.F ht⟩) hS.2.2 dJ5_isLatin1_aae02_18
  have J17 : ∀ (w : mW) (H : Heap) (locs : List Loc) (ls : Array Slot), e_J5_isLatin1_aae02_17 w = some (r, w') → mP G w H → va_S (fun q => G.1 ≤ q) s.heap H locs → lv_has ls 1 [] → W p l e ({ frames := 0, cells := 0, slots := 0, locals := 0 } : Room) s m ([.ref (h)] : List Value).toArray below meth c H locs 0 0 (MQ below (m_Qi G r w') ([.ref (h)] : List Value).toArray s 0 0 (fun q => G.1 ≤ q)) (F0 m 17 ls []) := by
    intro w H locs ls hd hP hS hl
    refine lv_iconst (v := 0) hx hb dJ5_isLatin1_aae02_17 (by decide) ?_
    refine W.widen (k := 0) (n := 0) (Nat.le_of_ble_eq_true rfl) (Nat.le_of_ble_eq_true rfl) ?_
    exact J18 w 0 _ _ _ hd hP hS (lv_sub hl [] rfl)
  have hl := lv_entry ([.ref (h)]) (n := 1) (Nat.le_of_ble_eq_true rfl)
  rw [lg_entry_eq]
  generalize (lg_sl ([.ref (h)]) ++ List.replicate (1 - (lg_sl ([.ref (h)])).length) Slot.unset).toArray = ls at hl ⊢
  have hl : lv_has ls 1 [(0, .ref (h))] := hl
  refine va_gets (own := RJ5) (ref := "java/lang/String") hx hb hM.2.2.2.1 hS hown (hts (.fieldLink RJ5 18 "java/lang/String" "COMPACT_STRINGS" "Z") (by decide +kernel)) (fun _ h9 => h9) dJ5_isLatin1_aae02_0 ?_
  refine lv_if_eq (tgt := 17) hx hb dJ5_isLatin1_aae02_3 (by decide) (fun c1 => ?_) (fun c1 => ?_)
  · have hd := m_i_t c1 hd
    refine W.widen (k := 0) (n := 0) (Nat.le_of_ble_eq_true rfl) (Nat.le_of_ble_eq_true rfl) ?_
    exact J17 w _ _ _ hd hP hS (lv_sub hl [] rfl)
  · have hd := m_i_f c1 hd
    refine lv_aload_n hx hb dJ5_isLatin1_aae02_6 rfl (lv_at hl 0 rfl) ?_
    obtain ⟨hk2, hd⟩ := m_g_e hd
    refine m_getI (C := RJ4) (T := TJ4) (N := 4) (own := RJ5) (ref := RJ5) hx hb hts hin1 hown hM.1 hP 1 rfl 1 hk2 (by decide) (hts (.fieldLink RJ5 22 "java/lang/AbstractStringBuilder" "coder" "B") (by decide +kernel)) (fun _ h9 => h9) dJ5_isLatin1_aae02_7 ?_
    refine lv_if_ne (tgt := 17) hx hb dJ5_isLatin1_aae02_10 (by decide) (fun c3 => ?_) (fun c3 => ?_)
    · have hd := m_i_f c3 hd
      refine W.widen (k := 0) (n := 0) (Nat.le_of_ble_eq_true rfl) (Nat.le_of_ble_eq_true rfl) ?_
      exact J17 w _ _ _ hd hP hS (lv_sub hl [] rfl)
    · have hd := m_i_t c3 hd
      refine lv_iconst (v := 1) hx hb dJ5_isLatin1_aae02_13 (by decide) ?_
      refine lv_goto (tgt := 18) hx hb dJ5_isLatin1_aae02_14 (by decide) ?_
      refine W.widen (k := 0) (n := 0) (Nat.le_of_ble_eq_true rfl) (Nat.le_of_ble_eq_true rfl) ?_
      exact J18 w 1 _ _ _ hd hP hS (lv_sub hl [] rfl)


noncomputable def e_J1_canEncode_fc78d_12 (w : mW) (s0 : Int32) : Option (Int32 × mW) := m_g (vp_nar .boolean s0 = s0) <| some (s0, w)
noncomputable def e_J1_canEncode_fc78d (w : mW) (p0 : Int32) : Option (Int32 × mW) := if 255 < p0 then (e_J1_canEncode_fc78d_12 w 0) else (e_J1_canEncode_fc78d_12 w 1)
set_option maxHeartbeats 1000000 in
set_option maxRecDepth 100000 in
theorem c_J1_canEncode_fc78d (l : Launch) (G : m_G) (w w' : mW) (p0 : Int32) (r : Int32) (hd : e_J1_canEncode_fc78d w p0 = some (r, w')) : Met l yJ1_canEncode_fc78d wsJ1_canEncode_fc78d ({ frames := 0, cells := 0, slots := 0, locals := 0 } : Room) (m_Pc G w [.int (p0)]) (m_Qi G r w') 0 0 (fun q => G.1 ≤ q) := by
  refine Met.ofW (cc := cJ1_canEncode_fc78d) (maxL := 1) (ret := (some .boolean)) (by decide +kernel) rfl ?_
  intro p e s m args below meth c s₁ B hml hv
  obtain ⟨rfl, hM, hP⟩ := hv
  have hx := B.exec
  have hb := B.bytes
  have hr := B.returns
  have hts := atoms_spec (ws := wsJ1_canEncode_fc78d) B.pre
  have hown : s.vm.findClass RJ1 = some m.cls := findClass_of_methodNamed B.named
  have hlocks := B.notSynchronized
  have hS : va_S (fun q => G.1 ≤ q) s.heap s.heap [] := va_S.rf
  have J12 : ∀ (w : mW) (s0 : Int32) (H : Heap) (locs : List Loc) (ls : Array Slot), e_J1_canEncode_fc78d_12 w s0 = some (r, w') → mP G w H → va_S (fun q => G.1 ≤ q) s.heap H locs → lv_has ls 1 [] → W p l e ({ frames := 0, cells := 0, slots := 0, locals := 0 } : Room) s m ([.int (p0)] : List Value).toArray below meth c H locs 0 0 (MQ below (m_Qi G r w') ([.int (p0)] : List Value).toArray s 0 0 (fun q => G.1 ≤ q)) (F0 m 12 ls [.int (s0)]) := by
    intro w s0 H locs ls hd hP hS hl
    obtain ⟨hn102, hd⟩ := m_g_e hd
    obtain ⟨e1, e2⟩ := m_s_e hd
    refine W.widen (k := 0) (n := 0) (Nat.le_of_ble_eq_true rfl) (Nat.le_of_ble_eq_true rfl) ?_
    exact W.zret hx hb hr (m_narZ hn102).1 (fun t ht hW => ⟨⟨_, w, rfl, ⟨e1, e2⟩, by show mP _ _ t.heap; rw [ht]; exact hP⟩, hS.F ht⟩) hS.2.2 dJ1_canEncode_fc78d_12
  have hl := lv_entry ([.int (p0)]) (n := 1) (Nat.le_of_ble_eq_true rfl)
  rw [lg_entry_eq]
  generalize (lg_sl ([.int (p0)]) ++ List.replicate (1 - (lg_sl ([.int (p0)])).length) Slot.unset).toArray = ls at hl ⊢
  have hl : lv_has ls 1 [(0, .int (p0))] := hl
  refine lv_iload_n hx hb dJ1_canEncode_fc78d_0 rfl (lv_at hl 0 rfl) ?_
  refine lv_sipush (v := 255) hx hb dJ1_canEncode_fc78d_1 (by decide) ?_
  refine lv_icmp_gt (tgt := 11) hx hb dJ1_canEncode_fc78d_4 (by decide) (fun c1 => ?_) (fun c1 => ?_)
  · have hd := m_i_t c1 hd
    refine lv_iconst (v := 0) hx hb dJ1_canEncode_fc78d_11 (by decide) ?_
    refine W.widen (k := 0) (n := 0) (Nat.le_of_ble_eq_true rfl) (Nat.le_of_ble_eq_true rfl) ?_
    exact J12 w 0 _ _ _ hd hP hS (lv_sub hl [] rfl)
  · have hd := m_i_f c1 hd
    refine lv_iconst (v := 1) hx hb dJ1_canEncode_fc78d_7 (by decide) ?_
    refine lv_goto (tgt := 12) hx hb dJ1_canEncode_fc78d_8 (by decide) ?_
    refine W.widen (k := 0) (n := 0) (Nat.le_of_ble_eq_true rfl) (Nat.le_of_ble_eq_true rfl) ?_
    exact J12 w 1 _ _ _ hd hP hS (lv_sub hl [] rfl)


noncomputable def e_J5_append_3fe6f_45 (w : mW)  : Option (Nat × mW) := none
noncomputable def e_J5_append_3fe6f (w : mW) (h : Nat) (p0 : Int32) : Option (Nat × mW) := m_g (m_kd w h = 2) <| m_b (e_J5_ensureCapacityInternal_d00df w h ((m_fi w 1 3 h) + 1)) fun r2 w3 => m_g (m_kd w3 h = 2) <| m_b (e_J5_isLatin1_aae02 w3 h) fun r6 w7 => if r6 = (0 : Int32) then (e_J5_append_3fe6f_45 w7) else (m_b (e_J1_canEncode_fc78d w7 p0) fun r10 w11 => if r10 = (0 : Int32) then (e_J5_append_3fe6f_45 w11) else (m_g (m_kd w11 h = 2) <| m_o (m_fr w11 1 0 h) fun r15 => m_l (m_sI w11 1 3 h ((m_fi w11 1 3 h) + 1)) fun w16 => m_g (m_kd w16 r15 = 24 ∧ ¬ ((m_fi w11 1 3 h) < 0 ∨ m_ln w16 r15 ≤ (m_fi w11 1 3 h).toNatClampNeg)) <| m_l (m_sA w16 r15 ((m_fi w11 1 3 h).toNatClampNeg) (vp_nar .byte p0.toInt8.toInt32)) fun w18 => some (h, w18)))
set_option maxHeartbeats 1000000 in
set_option maxRecDepth 100000 in
theorem c_J5_append_3fe6f (l : Launch) (G : m_G) (w w' : mW) (h : Nat) (p0 : Int32) (r : Nat) (hd : e_J5_append_3fe6f w h p0 = some (r, w')) : Met l yJ5_append_3fe6f wsJ5_append_3fe6f ({ frames := 4, cells := 1, slots := 150, locals := 130 } : Room) (m_Pc G w [.ref (h), .int (p0)]) (m_Qq G (some r) w') 1 150 (fun q => G.1 ≤ q) := by
  refine Met.ofW (cc := cJ5_append_3fe6f) (maxL := 2) (ret := (some (.object "java/lang/AbstractStringBuilder"))) (by decide +kernel) rfl ?_
  intro p e s m args below meth c s₁ B hml hv
  obtain ⟨rfl, hM, hP⟩ := hv
  have hx := B.exec
  have hb := B.bytes
  have hr := B.returns
  have hts := atoms_spec (ws := wsJ5_append_3fe6f) B.pre
  have hown : s.vm.findClass RJ5 = some m.cls := findClass_of_methodNamed B.named
  have hlocks := B.notSynchronized
  have hin1 : ∀ w ∈ u_ws RJ4 TJ4 4, w ∈ wsJ5_append_3fe6f := by decide +kernel
  have hS : va_S (fun q => G.1 ≤ q) s.heap s.heap [] := va_S.rf
  have J45 : ∀ (w : mW) (H : Heap) (locs : List Loc) (ls : Array Slot), e_J5_append_3fe6f_45 w = some (r, w') → mP G w H → va_S (fun q => G.1 ≤ q) s.heap H locs → lv_has ls 2 [] → W p l e ({ frames := 4, cells := 1, slots := 150, locals := 130 } : Room) s m ([.ref (h), .int (p0)] : List Value).toArray below meth c H locs 1 150 (MQ below (m_Qq G (some r) w') ([.ref (h), .int (p0)] : List Value).toArray s 1 150 (fun q => G.1 ≤ q)) (F0 m 45 ls []) := by
    intro w H locs ls hd hP hS hl
    exact nomatch hd
  have hl := lv_entry ([.ref (h), .int (p0)]) (n := 2) (Nat.le_of_ble_eq_true rfl)
  rw [lg_entry_eq]
  generalize (lg_sl ([.ref (h), .int (p0)]) ++ List.replicate (2 - (lg_sl ([.ref (h), .int (p0)])).length) Slot.unset).toArray = ls at hl ⊢
  have hl : lv_has ls 2 [(0, .ref (h)), (1, .int (p0))] := hl
  refine lv_aload_n hx hb dJ5_append_3fe6f_0 rfl (lv_at hl 0 rfl) ?_
  refine lv_aload_n hx hb dJ5_append_3fe6f_1 rfl (lv_at hl 0 rfl) ?_
  obtain ⟨hk1, hd⟩ := m_g_e hd
  refine m_getI (C := RJ4) (T := TJ4) (N := 4) (own := RJ5) (ref := RJ5) hx hb hts hin1 hown hM.1 hP 1 rfl 3 hk1 (by decide) (hts (.fieldLink RJ5 79 "java/lang/AbstractStringBuilder" "count" "I") (by decide +kernel)) (fun _ h9 => h9) dJ5_append_3fe6f_2 ?_
  refine lv_iconst (v := 1) hx hb dJ5_append_3fe6f_5 (by decide) ?_
  refine lv_iadd hx hb dJ5_append_3fe6f_6 ?_
  obtain ⟨r2, w3, hc4, hd⟩ := m_b_e hd
  refine m_callv (k := 1) (n := 150) (va_runU (As := [.int ((m_fi w 1 3 h) + 1)]) (rest := []) ⟨hx, hb, hml, hown, hts⟩ (c_J5_ensureCapacityInternal_d00df l G w w3 h ((m_fi w 1 3 h) + 1) r2 hc4) (va_cwU 1 hts gJ5_append_3fe6f_J5_ensureCapacityInternal_d00df_u100J4 rfl rfl rfl rfl (by decide +kernel) ⟨(Nat.le_of_ble_eq_true rfl), (Nat.le_of_ble_eq_true rfl)⟩) (m_preV (C := RJ4) (T := TJ4) (N := 4) hM hP hS rfl (by decide) hk1) rfl rfl hl.1 rfl (lv_room (Nat.le_of_ble_eq_true rfl)) dJ5_append_3fe6f_7 ⟨(Nat.le_of_ble_eq_true rfl), (Nat.le_of_ble_eq_true rfl)⟩) hS ⟨(Nat.le_of_ble_eq_true rfl), (Nat.le_of_ble_eq_true rfl)⟩ (fun H locs hP hS => ?_)
  refine lv_aload_n hx hb dJ5_append_3fe6f_10 rfl (lv_at hl 0 rfl) ?_
  obtain ⟨hk5, hd⟩ := m_g_e hd
  obtain ⟨r6, w7, hc8, hd⟩ := m_b_e hd
  refine m_calli (k := 1) (n := 150) (va_runU (As := []) (rest := []) ⟨hx, hb, hml, hown, hts⟩ (c_J5_isLatin1_aae02 l G w3 w7 h r6 hc8) (va_cwU 0 hts gJ5_append_3fe6f_J5_isLatin1_aae02_u83J4 rfl rfl rfl rfl (by decide +kernel) ⟨(Nat.le_of_ble_eq_true rfl), (Nat.le_of_ble_eq_true rfl)⟩) (m_preV (C := RJ4) (T := TJ4) (N := 4) hM hP hS rfl (by decide) hk5) rfl rfl hl.1 rfl (lv_room (Nat.le_of_ble_eq_true rfl)) dJ5_append_3fe6f_11 ⟨(Nat.le_of_ble_eq_true rfl), (Nat.le_of_ble_eq_true rfl)⟩) hS ⟨(Nat.le_of_ble_eq_true rfl), (Nat.le_of_ble_eq_true rfl)⟩ (fun H locs hP hS => ?_)
  refine lv_if_eq (tgt := 45) hx hb dJ5_append_3fe6f_14 (by decide) (fun c9 => ?_) (fun c9 => ?_)
  · have hd := m_i_t c9 hd
    refine W.widen (k := 1) (n := 150) (Nat.le_of_ble_eq_true rfl) (Nat.le_of_ble_eq_true rfl) ?_
    exact J45 w7 _ _ _ hd hP hS (lv_sub hl [] rfl)
  · have hd := m_i_f c9 hd
    refine lv_iload_n hx hb dJ5_append_3fe6f_17 rfl (lv_at hl 1 rfl) ?_
    obtain ⟨r10, w11, hc12, hd⟩ := m_b_e hd
    refine m_calli (k := 1) (n := 150) (va_runS (As := [.int (p0)]) (rest := []) ⟨hx, hb, hml, hown, hts⟩ (c_J1_canEncode_fc78d l G w7 w11 p0 r10 hc12) (va_cwS 1 hts gJ5_append_3fe6f_J1_canEncode_fc78d rfl rfl rfl (by decide +kernel) ⟨(Nat.le_of_ble_eq_true rfl), (Nat.le_of_ble_eq_true rfl)⟩) (m_preS hM hP hS) rfl rfl hl.1 rfl (lv_room (Nat.le_of_ble_eq_true rfl)) dJ5_append_3fe6f_18 ⟨(Nat.le_of_ble_eq_true rfl), (Nat.le_of_ble_eq_true rfl)⟩) hS ⟨(Nat.le_of_ble_eq_true rfl), (Nat.le_of_ble_eq_true rfl)⟩ (fun H locs hP hS => ?_)
    refine lv_if_eq (tgt := 45) hx hb dJ5_append_3fe6f_21 (by decide) (fun c13 => ?_) (fun c13 => ?_)
    · have hd := m_i_t c13 hd
      refine W.widen (k := 1) (n := 150) (Nat.le_of_ble_eq_true rfl) (Nat.le_of_ble_eq_true rfl) ?_
      exact J45 w11 _ _ _ hd hP hS (lv_sub hl [] rfl)
    · have hd := m_i_f c13 hd
      refine lv_aload_n hx hb dJ5_append_3fe6f_24 rfl (lv_at hl 0 rfl) ?_
      obtain ⟨hk14, hd⟩ := m_g_e hd
      obtain ⟨r15, hr15, hd⟩ := m_o_e hd
      refine m_getR (C := RJ4) (T := TJ4) (N := 4) (own := RJ5) (ref := RJ5) hx hb hts hin1 hown hM.1 hP 1 rfl 0 (r := r15) ⟨hk14, hr15⟩ (by decide) (hts (.fieldLink RJ5 15 "java/lang/AbstractStringBuilder" "value" "[B") (by decide +kernel)) (fun _ h9 => h9) dJ5_append_3fe6f_25 ?_
      refine lv_aload_n hx hb dJ5_append_3fe6f_28 rfl (lv_at hl 0 rfl) ?_
      refine lv_dup hx hb dJ5_append_3fe6f_29 rfl ?_
      refine m_getI (C := RJ4) (T := TJ4) (N := 4) (own := RJ5) (ref := RJ5) hx hb hts hin1 hown hM.1 hP 1 rfl 3 hk14 (by decide) (hts (.fieldLink RJ5 79 "java/lang/AbstractStringBuilder" "count" "I") (by decide +kernel)) (fun _ h9 => h9) dJ5_append_3fe6f_30 ?_
      refine lv_dup_x1 hx hb dJ5_append_3fe6f_33 rfl rfl ?_
      refine lv_iconst (v := 1) hx hb dJ5_append_3fe6f_34 (by decide) ?_
      refine lv_iadd hx hb dJ5_append_3fe6f_35 ?_
      refine m_putI (C := RJ4) (T := TJ4) (N := 4) (own := RJ5) (ref := RJ5) hx hb hts hin1 tyJ4 tyJ4_ok nmJ4 hown hM.1 hP hS 1 rfl 3 hk14 (by decide) (hts (.fieldLink RJ5 79 "java/lang/AbstractStringBuilder" "count" "I") (by decide +kernel)) (fun _ h9 => h9) (Or.inl rfl) (ty := .int) rfl ⟨rfl, rfl⟩ dJ5_append_3fe6f_36 (fun H locs hP hS => ?_)
      obtain ⟨w16, ew, hd⟩ := m_l_e hd
      have hP : mP G w16 H := by rw [ew]; exact hP
      have hk14 : m_kd w16 h = 2 := by rw [ew]; exact hk14
      refine lv_iload_n hx hb dJ5_append_3fe6f_39 rfl (lv_at hl 1 rfl) ?_
      refine lv_i2b (v := p0.toInt8.toInt32) hx hb dJ5_append_3fe6f_40 rfl ?_
      obtain ⟨hg17, hd⟩ := m_g_e hd
      refine m_bast hx hb hM.1 hP hS hg17 dJ5_append_3fe6f_41 (fun H locs hP hS => ?_)
      obtain ⟨w18, ew, hd⟩ := m_l_e hd
      have hP : mP G w18 H := by rw [ew]; exact hP
      have hk14 : m_kd w18 h = 2 := by rw [ew]; exact hk14
      refine lv_goto (tgt := 75) hx hb dJ5_append_3fe6f_42 (by decide) ?_
      refine lv_aload_n hx hb dJ5_append_3fe6f_75 rfl (lv_at hl 0 rfl) ?_
      obtain ⟨e1, e2⟩ := m_s_e hd
      refine W.widen (k := 1) (n := 150) (Nat.le_of_ble_eq_true rfl) (Nat.le_of_ble_eq_true rfl) ?_
      exact W.aret hx hb hr (Or.inl ⟨_, rfl⟩) (Or.inr ⟨_, rfl⟩) (fun t ht hW => ⟨⟨some h, w18, rfl, ⟨congrArg some e1, e2⟩, by show mP _ _ t.heap; rw [ht]; exact hP⟩, hS.F ht⟩) hS.2.2 dJ5_append_3fe6f_76


noncomputable def e_J4_append_cf468 (w : mW) (h : Nat) (p0 : Int32) : Option (Nat × mW) := m_g (m_kd w h = 2) <| m_b (e_J5_append_3fe6f w h p0) fun r2 w3 => some (h, w3)
set_option maxHeartbeats 1000000 in
set_option maxRecDepth 100000 in
theorem c_J4_append_cf468 (l : Launch) (G : m_G) (w w' : mW) (h : Nat) (p0 : Int32) (r : Nat) (hd : e_J4_append_cf468 w h p0 = some (r, w')) : Met l yJ4_append_cf468 wsJ4_append_cf468 ({ frames := 5, cells := 1, slots := 150, locals := 151 } : Room) (m_Pc G w [.ref (h), .int (p0)]) (m_Qq G (some r) w') 1 150 (fun q => G.1 ≤ q) := by
  refine Met.ofW (cc := cJ4_append_cf468) (maxL := 2) (ret := (some (.object "java/lang/StringBuilder"))) (by decide +kernel) rfl ?_
  intro p e s m args below meth c s₁ B hml hv
  obtain ⟨rfl, hM, hP⟩ := hv
  have hx := B.exec
  have hb := B.bytes
  have hr := B.returns
  have hts := atoms_spec (ws := wsJ4_append_cf468) B.pre
  have hown : s.vm.findClass RJ4 = some m.cls := findClass_of_methodNamed B.named
  have hlocks := B.notSynchronized
  have hS : va_S (fun q => G.1 ≤ q) s.heap s.heap [] := va_S.rf
  have hl := lv_entry ([.ref (h), .int (p0)]) (n := 2) (Nat.le_of_ble_eq_true rfl)
  rw [lg_entry_eq]
  generalize (lg_sl ([.ref (h), .int (p0)]) ++ List.replicate (2 - (lg_sl ([.ref (h), .int (p0)])).length) Slot.unset).toArray = ls at hl ⊢
  have hl : lv_has ls 2 [(0, .ref (h)), (1, .int (p0))] := hl
  refine lv_aload_n hx hb dJ4_append_cf468_0 rfl (lv_at hl 0 rfl) ?_
  refine lv_iload_n hx hb dJ4_append_cf468_1 rfl (lv_at hl 1 rfl) ?_
  obtain ⟨hk1, hd⟩ := m_g_e hd
  obtain ⟨r2, w3, hc4, hd⟩ := m_b_e hd
  refine m_callr (k := 1) (n := 150) (va_runSU (As := [.int (p0)]) (rest := []) (hM.1.1 1 _ rfl).2 ⟨hx, hb, hml, hown, hts⟩ (c_J5_append_3fe6f l G w w3 h p0 r2 hc4) (va_cwSU 1 hts gJ4_append_cf468_J5_append_3fe6f_s50 rfl rfl rfl (by decide +kernel) ⟨(Nat.le_of_ble_eq_true rfl), (Nat.le_of_ble_eq_true rfl)⟩) (m_preV (C := RJ4) (T := TJ4) (N := 4) hM hP hS rfl (by decide) hk1) rfl rfl hl.1 rfl (lv_room (Nat.le_of_ble_eq_true rfl)) dJ4_append_cf468_2 ⟨(Nat.le_of_ble_eq_true rfl), (Nat.le_of_ble_eq_true rfl)⟩) hS ⟨(Nat.le_of_ble_eq_true rfl), (Nat.le_of_ble_eq_true rfl)⟩ (fun H locs hP hS => ?_)
  refine lv_pop hx hb dJ4_append_cf468_5 rfl ?_
  refine lv_aload_n hx hb dJ4_append_cf468_6 rfl (lv_at hl 0 rfl) ?_
  obtain ⟨e1, e2⟩ := m_s_e hd
  refine W.widen (k := 1) (n := 150) (Nat.le_of_ble_eq_true rfl) (Nat.le_of_ble_eq_true rfl) ?_
  exact W.aret hx hb hr (Or.inl ⟨_, rfl⟩) (Or.inr ⟨_, rfl⟩) (fun t ht hW => ⟨⟨some h, w3, rfl, ⟨congrArg some e1, e2⟩, by show mP _ _ t.heap; rw [ht]; exact hP⟩, hS.F ht⟩) hS.2.2 dJ4_append_cf468_7


noncomputable def e_J6_stringSize_0f7a4_16_b (k16 : mW → Int32 → Int32 → Int32 → Int32 → Option (Int32 × mW)) (w : mW) (x0 : Int32) (x1 : Int32) (x2 : Int32) (x3 : Int32) : Option (Int32 × mW) := if 10 ≤ x3 then (some (10 + x1, w)) else (if x0 ≤ x2 then (k16 w x0 x1 (10 * x2) (x3 + 1)) else (some (x3 + x1, w)))
noncomputable def e_J6_stringSize_0f7a4_16 (n : Nat) : mW → Int32 → Int32 → Int32 → Int32 → Option (Int32 × mW) := Nat.rec (motive := fun _ => mW → Int32 → Int32 → Int32 → Int32 → Option (Int32 × mW)) (fun _ _ _ _ _ => none) (fun _ k => e_J6_stringSize_0f7a4_16_b  k) n
noncomputable def e_J6_stringSize_0f7a4_11 (w : mW) (x0 : Int32) (x1 : Int32) : Option (Int32 × mW) := e_J6_stringSize_0f7a4_16 m_N w x0 x1 ((-10)) 1
noncomputable def e_J6_stringSize_0f7a4 (w : mW) (p0 : Int32) : Option (Int32 × mW) := if p0 < (0 : Int32) then (e_J6_stringSize_0f7a4_11 w p0 1) else (e_J6_stringSize_0f7a4_11 w (-p0) 0)
set_option maxHeartbeats 1000000 in
set_option maxRecDepth 100000 in
theorem c_J6_stringSize_0f7a4 (l : Launch) (G : m_G) (w w' : mW) (p0 : Int32) (r : Int32) (hd : e_J6_stringSize_0f7a4 w p0 = some (r, w')) : Met l yJ6_stringSize_0f7a4 wsJ6_stringSize_0f7a4 ({ frames := 0, cells := 0, slots := 0, locals := 0 } : Room) (m_Pc G w [.int (p0)]) (m_Qi G r w') 0 0 (fun q => G.1 ≤ q) := by
  refine Met.ofW (cc := cJ6_stringSize_0f7a4) (maxL := 4) (ret := (some .int)) (by decide +kernel) rfl ?_
  intro p e s m args below meth c s₁ B hml hv
  obtain ⟨rfl, hM, hP⟩ := hv
  have hx := B.exec
  have hb := B.bytes
  have hr := B.returns
  have hts := atoms_spec (ws := wsJ6_stringSize_0f7a4) B.pre
  have hown : s.vm.findClass RJ6 = some m.cls := findClass_of_methodNamed B.named
  have hlocks := B.notSynchronized
  have hS : va_S (fun q => G.1 ≤ q) s.heap s.heap [] := va_S.rf
  have J16 : ∀ (n16 : Nat) (w : mW) (x0 : Int32) (x1 : Int32) (x2 : Int32) (x3 : Int32) (H : Heap) (locs : List Loc) (ls : Array Slot), e_J6_stringSize_0f7a4_16 n16 w x0 x1 x2 x3 = some (r, w') → mP G w H → va_S (fun q => G.1 ≤ q) s.heap H locs → lv_has ls 4 [(0, .int (x0)), (1, .int (x1)), (2, .int (x2)), (3, .int (x3))] → W p l e ({ frames := 0, cells := 0, slots := 0, locals := 0 } : Room) s m ([.int (p0)] : List Value).toArray below meth c H locs 0 0 (MQ below (m_Qi G r w') ([.int (p0)] : List Value).toArray s 0 0 (fun q => G.1 ≤ q)) (F0 m 16 ls []) := by
    intro n16
    induction n16 with
    | zero => intro w x0 x1 x2 x3 H locs ls hd; exact absurd (show (none : Option (Int32 × mW)) = some _ from hd) (fun h => nomatch h)
    | succ n16 ih16 =>
      intro w x0 x1 x2 x3 H locs ls hd hP hS hl
      have hd : e_J6_stringSize_0f7a4_16_b (e_J6_stringSize_0f7a4_16 n16) w x0 x1 x2 x3 = some (r, w') := hd
      refine lv_iload_n hx hb dJ6_stringSize_0f7a4_16 rfl (lv_at hl 3 rfl) ?_
      refine lv_bipush (v := 10) hx hb dJ6_stringSize_0f7a4_17 (by decide) ?_
      refine lv_icmp_ge (tgt := 42) hx hb dJ6_stringSize_0f7a4_19 (by decide) (fun c202 => ?_) (fun c202 => ?_)
      · have hd := m_i_t c202 hd
        refine lv_bipush (v := 10) hx hb dJ6_stringSize_0f7a4_42 (by decide) ?_
        refine lv_iload_n hx hb dJ6_stringSize_0f7a4_44 rfl (lv_at hl 1 rfl) ?_
        refine lv_iadd hx hb dJ6_stringSize_0f7a4_45 ?_
        obtain ⟨e1, e2⟩ := m_s_e hd
        refine W.widen (k := 0) (n := 0) (Nat.le_of_ble_eq_true rfl) (Nat.le_of_ble_eq_true rfl) ?_
        exact W.iret hx hb hr (fun t ht hW => ⟨⟨_, w, rfl, ⟨e1, e2⟩, by show mP _ _ t.heap; rw [ht]; exact hP⟩, hS.F ht⟩) hS.2.2 dJ6_stringSize_0f7a4_46
      · have hd := m_i_f c202 hd
        refine lv_iload_n hx hb dJ6_stringSize_0f7a4_22 rfl (lv_at hl 0 rfl) ?_
        refine lv_iload_n hx hb dJ6_stringSize_0f7a4_23 rfl (lv_at hl 2 rfl) ?_
        refine lv_icmp_le (tgt := 31) hx hb dJ6_stringSize_0f7a4_24 (by decide) (fun c203 => ?_) (fun c203 => ?_)
        · have hd := m_i_t c203 hd
          refine lv_bipush (v := 10) hx hb dJ6_stringSize_0f7a4_31 (by decide) ?_
          refine lv_iload_n hx hb dJ6_stringSize_0f7a4_33 rfl (lv_at hl 2 rfl) ?_
          refine lv_imul hx hb dJ6_stringSize_0f7a4_34 ?_
          refine lv_istore_n (lv' := [(2, .int (10 * x2)), (0, .int (x0)), (1, .int (x1)), (3, .int (x3))]) hx hb dJ6_stringSize_0f7a4_35 rfl hl (by decide) rfl (fun ls hl => ?_)
          refine lv_iinc (v := x3 + 1) (lv' := [(3, .int (x3 + 1)), (2, .int (10 * x2)), (0, .int (x0)), (1, .int (x1))]) hx hb dJ6_stringSize_0f7a4_36 hl (k := 3) rfl rfl (by decide) rfl (fun ls hl => ?_)
          refine lv_goto (tgt := 16) hx hb dJ6_stringSize_0f7a4_39 (by decide) ?_
          refine W.widen (k := 0) (n := 0) (Nat.le_of_ble_eq_true rfl) (Nat.le_of_ble_eq_true rfl) ?_
          exact ih16 w x0 x1 (10 * x2) (x3 + 1) _ _ _ hd hP hS (lv_sub hl [2, 3, 1, 0] rfl)
        · have hd := m_i_f c203 hd
          refine lv_iload_n hx hb dJ6_stringSize_0f7a4_27 rfl (lv_at hl 3 rfl) ?_
          refine lv_iload_n hx hb dJ6_stringSize_0f7a4_28 rfl (lv_at hl 1 rfl) ?_
          refine lv_iadd hx hb dJ6_stringSize_0f7a4_29 ?_
          obtain ⟨e1, e2⟩ := m_s_e hd
          refine W.widen (k := 0) (n := 0) (Nat.le_of_ble_eq_true rfl) (Nat.le_of_ble_eq_true rfl) ?_
          exact W.iret hx hb hr (fun t ht hW => ⟨⟨_, w, rfl, ⟨e1, e2⟩, by show mP _ _ t.heap; rw [ht]; exact hP⟩, hS.F ht⟩) hS.2.2 dJ6_stringSize_0f7a4_30
  have J11 : ∀ (w : mW) (x0 : Int32) (x1 : Int32) (H : Heap) (locs : List Loc) (ls : Array Slot), e_J6_stringSize_0f7a4_11 w x0 x1 = some (r, w') → mP G w H → va_S (fun q => G.1 ≤ q) s.heap H locs → lv_has ls 4 [(0, .int (x0)), (1, .int (x1))] → W p l e ({ frames := 0, cells := 0, slots := 0, locals := 0 } : Room) s m ([.int (p0)] : List Value).toArray below meth c H locs 0 0 (MQ below (m_Qi G r w') ([.int (p0)] : List Value).toArray s 0 0 (fun q => G.1 ≤ q)) (F0 m 11 ls []) := by
    intro w x0 x1 H locs ls hd hP hS hl
    refine lv_bipush (v := (-10)) hx hb dJ6_stringSize_0f7a4_11 (by decide) ?_
    refine lv_istore_n (lv' := [(2, .int ((-10))), (0, .int (x0)), (1, .int (x1))]) hx hb dJ6_stringSize_0f7a4_13 rfl hl (by decide) rfl (fun ls hl => ?_)
    refine lv_iconst (v := 1) hx hb dJ6_stringSize_0f7a4_14 (by decide) ?_
    refine lv_istore_n (lv' := [(3, .int (1)), (2, .int ((-10))), (0, .int (x0)), (1, .int (x1))]) hx hb dJ6_stringSize_0f7a4_15 rfl hl (by decide) rfl (fun ls hl => ?_)
    refine W.widen (k := 0) (n := 0) (Nat.le_of_ble_eq_true rfl) (Nat.le_of_ble_eq_true rfl) ?_
    exact J16 m_N w x0 x1 ((-10)) 1 _ _ _ hd hP hS (lv_sub hl [2, 3, 1, 0] rfl)
  have hl := lv_entry ([.int (p0)]) (n := 4) (Nat.le_of_ble_eq_true rfl)
  rw [lg_entry_eq]
  generalize (lg_sl ([.int (p0)]) ++ List.replicate (4 - (lg_sl ([.int (p0)])).length) Slot.unset).toArray = ls at hl ⊢
  have hl : lv_has ls 4 [(0, .int (p0))] := hl
  refine lv_iconst (v := 1) hx hb dJ6_stringSize_0f7a4_0 (by decide) ?_
  refine lv_istore_n (lv' := [(1, .int (1)), (0, .int (p0))]) hx hb dJ6_stringSize_0f7a4_1 rfl hl (by decide) rfl (fun ls hl => ?_)
  refine lv_iload_n hx hb dJ6_stringSize_0f7a4_2 rfl (lv_at hl 1 rfl) ?_
  refine lv_if_lt (tgt := 11) hx hb dJ6_stringSize_0f7a4_3 (by decide) (fun c1 => ?_) (fun c1 => ?_)
  · have hd := m_i_t c1 hd
    refine W.widen (k := 0) (n := 0) (Nat.le_of_ble_eq_true rfl) (Nat.le_of_ble_eq_true rfl) ?_
    exact J11 w p0 1 _ _ _ hd hP hS (lv_sub hl [1, 0] rfl)
  · have hd := m_i_f c1 hd
    refine lv_iconst (v := 0) hx hb dJ6_stringSize_0f7a4_6 (by decide) ?_
    refine lv_istore_n (lv' := [(1, .int (0)), (0, .int (p0))]) hx hb dJ6_stringSize_0f7a4_7 rfl hl (by decide) rfl (fun ls hl => ?_)
    refine lv_iload_n hx hb dJ6_stringSize_0f7a4_8 rfl (lv_at hl 1 rfl) ?_
    refine lv_ineg hx hb dJ6_stringSize_0f7a4_9 ?_
    refine lv_istore_n (lv' := [(0, .int (-p0)), (1, .int (0))]) hx hb dJ6_stringSize_0f7a4_10 rfl hl (by decide) rfl (fun ls hl => ?_)
    refine W.widen (k := 0) (n := 0) (Nat.le_of_ble_eq_true rfl) (Nat.le_of_ble_eq_true rfl) ?_
    exact J11 w (-p0) 0 _ _ _ hd hP hS (lv_sub hl [0, 1] rfl)


noncomputable def e_J6_getChars_ba4f3_118 (t0 : Nat × Nat × Nat × Nat) (w : mW) (x5 : Int32) : Option (Int32 × mW) := some (x5, w)
noncomputable def e_J6_getChars_ba4f3_104 (t0 : Nat × Nat × Nat × Nat) (w : mW) (x2 : Nat) (x5 : Int32) (x6 : Int32) : Option (Int32 × mW) := if x6 = (0 : Int32) then (e_J6_getChars_ba4f3_118 t0 w x5) else (m_g (m_kd w x2 = 24 ∧ ¬ ((x5 + (-1)) < 0 ∨ m_ln w x2 ≤ (x5 + (-1)).toNatClampNeg)) <| m_l (m_sA w x2 ((x5 + (-1)).toNatClampNeg) (vp_nar .byte 45)) fun w320 => e_J6_getChars_ba4f3_118 t0 w320 (x5 + (-1)))
noncomputable def e_J6_getChars_ba4f3_22_b (t0 : Nat × Nat × Nat × Nat) (k22 : mW → Int32 → Nat → Int32 → Int32 → Option (Int32 × mW)) (w : mW) (x0 : Int32) (x2 : Nat) (x5 : Int32) (x6 : Int32) : Option (Int32 × mW) := if ((-100)) < x0 then (m_g (¬ ((-x0) < 0 ∨ 100 ≤ (-x0).toNatClampNeg)) <| m_g (m_kd w x2 = 24 ∧ ¬ ((x5 + (-1)) < 0 ∨ m_ln w x2 ≤ (x5 + (-1)).toNatClampNeg)) <| m_l (m_sA w x2 ((x5 + (-1)).toNatClampNeg) (vp_nar .byte (nI (48 + (-x0).toNatClampNeg % 10)))) fun w206 => if ((-9)) ≤ x0 then (e_J6_getChars_ba4f3_104 t0 w206 x2 (x5 + (-1)) x6) else (m_g (¬ ((-x0) < 0 ∨ 100 ≤ (-x0).toNatClampNeg)) <| m_g (m_kd w206 x2 = 24 ∧ ¬ (((x5 + (-1)) + (-1)) < 0 ∨ m_ln w206 x2 ≤ ((x5 + (-1)) + (-1)).toNatClampNeg)) <| m_l (m_sA w206 x2 (((x5 + (-1)) + (-1)).toNatClampNeg) (vp_nar .byte (nI (48 + (-x0).toNatClampNeg / 10)))) fun w210 => e_J6_getChars_ba4f3_104 t0 w210 x2 ((x5 + (-1)) + (-1)) x6)) else (m_g (¬ 100 = (0 : Int32)) <| m_g (¬ ((((x0 / 100) * 100) - x0) < 0 ∨ 100 ≤ (((x0 / 100) * 100) - x0).toNatClampNeg)) <| m_g (m_kd w x2 = 24 ∧ ¬ ((x5 + (-1)) < 0 ∨ m_ln w x2 ≤ (x5 + (-1)).toNatClampNeg)) <| m_l (m_sA w x2 ((x5 + (-1)).toNatClampNeg) (vp_nar .byte (nI (48 + (((x0 / 100) * 100) - x0).toNatClampNeg % 10)))) fun w214 => m_g (¬ ((((x0 / 100) * 100) - x0) < 0 ∨ 100 ≤ (((x0 / 100) * 100) - x0).toNatClampNeg)) <| m_g (m_kd w214 x2 = 24 ∧ ¬ (((x5 + (-1)) + (-1)) < 0 ∨ m_ln w214 x2 ≤ ((x5 + (-1)) + (-1)).toNatClampNeg)) <| m_l (m_sA w214 x2 (((x5 + (-1)) + (-1)).toNatClampNeg) (vp_nar .byte (nI (48 + (((x0 / 100) * 100) - x0).toNatClampNeg / 10)))) fun w217 => k22 w217 (x0 / 100) x2 ((x5 + (-1)) + (-1)) x6)
noncomputable def e_J6_getChars_ba4f3_22 (t0 : Nat × Nat × Nat × Nat) (n : Nat) : mW → Int32 → Nat → Int32 → Int32 → Option (Int32 × mW) := Nat.rec (motive := fun _ => mW → Int32 → Nat → Int32 → Int32 → Option (Int32 × mW)) (fun _ _ _ _ _ => none) (fun _ k => e_J6_getChars_ba4f3_22_b t0  k) n
noncomputable def e_J6_getChars_ba4f3_12 (t0 : Nat × Nat × Nat × Nat) (w : mW) (x0 : Int32) (x2 : Nat) (x5 : Int32) (s0 : Int32) : Option (Int32 × mW) := if s0 = (0 : Int32) then (e_J6_getChars_ba4f3_22 t0 m_N w (-x0) x2 x5 s0) else (e_J6_getChars_ba4f3_22 t0 m_N w x0 x2 x5 s0)
noncomputable def e_J6_getChars_ba4f3 (t0 : Nat × Nat × Nat × Nat) (w : mW) (p0 : Int32) (p1 : Int32) (p2 : Nat) : Option (Int32 × mW) := if (0 : Int32) ≤ p0 then (e_J6_getChars_ba4f3_12 t0 w p0 p2 p1 0) else (e_J6_getChars_ba4f3_12 t0 w p0 p2 p1 1)
set_option maxHeartbeats 1000000 in
set_option maxRecDepth 100000 in
theorem c_J6_getChars_ba4f3 (l : Launch) (G : m_G) (w w' : mW) (p0 : Int32) (p1 : Int32) (p2 : Nat) (r : Int32) (hd : e_J6_getChars_ba4f3 G.2.2.2 w p0 p1 p2 = some (r, w')) : Met l yJ6_getChars_ba4f3 wsJ6_getChars_ba4f3 ({ frames := 0, cells := 0, slots := 0, locals := 0 } : Room) (m_Pc G w [.int (p0), .int (p1), .ref (p2)]) (m_Qi G r w') 0 0 (fun q => G.1 ≤ q) := by
  refine Met.ofW (cc := cJ6_getChars_ba4f3) (maxL := 7) (ret := (some .int)) (by decide +kernel) rfl ?_
  intro p e s m args below meth c s₁ B hml hv
  obtain ⟨rfl, hM, hP⟩ := hv
  have hx := B.exec
  have hb := B.bytes
  have hr := B.returns
  have hts := atoms_spec (ws := wsJ6_getChars_ba4f3) B.pre
  have hown : s.vm.findClass RJ6 = some m.cls := findClass_of_methodNamed B.named
  have hlocks := B.notSynchronized
  have hS : va_S (fun q => G.1 ≤ q) s.heap s.heap [] := va_S.rf
  have J118 : ∀ (w : mW) (x5 : Int32) (H : Heap) (locs : List Loc) (ls : Array Slot), e_J6_getChars_ba4f3_118 G.2.2.2 w x5 = some (r, w') → mP G w H → va_S (fun q => G.1 ≤ q) s.heap H locs → lv_has ls 7 [(5, .int (x5))] → W p l e ({ frames := 0, cells := 0, slots := 0, locals := 0 } : Room) s m ([.int (p0), .int (p1), .ref (p2)] : List Value).toArray below meth c H locs 0 0 (MQ below (m_Qi G r w') ([.int (p0), .int (p1), .ref (p2)] : List Value).toArray s 0 0 (fun q => G.1 ≤ q)) (F0 m 118 ls []) := by
    intro w x5 H locs ls hd hP hS hl
    refine lv_iload hx hb dJ6_getChars_ba4f3_118 (lv_at hl 0 rfl) ?_
    obtain ⟨e1, e2⟩ := m_s_e hd
    refine W.widen (k := 0) (n := 0) (Nat.le_of_ble_eq_true rfl) (Nat.le_of_ble_eq_true rfl) ?_
    exact W.iret hx hb hr (fun t ht hW => ⟨⟨_, w, rfl, ⟨e1, e2⟩, by show mP _ _ t.heap; rw [ht]; exact hP⟩, hS.F ht⟩) hS.2.2 dJ6_getChars_ba4f3_120
  have J104 : ∀ (w : mW) (x2 : Nat) (x5 : Int32) (x6 : Int32) (H : Heap) (locs : List Loc) (ls : Array Slot), e_J6_getChars_ba4f3_104 G.2.2.2 w x2 x5 x6 = some (r, w') → mP G w H → va_S (fun q => G.1 ≤ q) s.heap H locs → lv_has ls 7 [(2, .ref (x2)), (5, .int (x5)), (6, .int (x6))] → W p l e ({ frames := 0, cells := 0, slots := 0, locals := 0 } : Room) s m ([.int (p0), .int (p1), .ref (p2)] : List Value).toArray below meth c H locs 0 0 (MQ below (m_Qi G r w') ([.int (p0), .int (p1), .ref (p2)] : List Value).toArray s 0 0 (fun q => G.1 ≤ q)) (F0 m 104 ls []) := by
    intro w x2 x5 x6 H locs ls hd hP hS hl
    refine lv_iload hx hb dJ6_getChars_ba4f3_104 (lv_at hl 2 rfl) ?_
    refine lv_if_eq (tgt := 118) hx hb dJ6_getChars_ba4f3_106 (by decide) (fun c318 => ?_) (fun c318 => ?_)
    · have hd := m_i_t c318 hd
      refine W.widen (k := 0) (n := 0) (Nat.le_of_ble_eq_true rfl) (Nat.le_of_ble_eq_true rfl) ?_
      exact J118 w x5 _ _ _ hd hP hS (lv_sub hl [1] rfl)
    · have hd := m_i_f c318 hd
      refine lv_aload_n hx hb dJ6_getChars_ba4f3_109 rfl (lv_at hl 0 rfl) ?_
      refine lv_iinc (v := x5 + (-1)) (lv' := [(5, .int (x5 + (-1))), (2, .ref (x2)), (6, .int (x6))]) hx hb dJ6_getChars_ba4f3_110 hl (k := 1) rfl rfl (by decide) rfl (fun ls hl => ?_)
      refine lv_iload hx hb dJ6_getChars_ba4f3_113 (lv_at hl 0 rfl) ?_
      refine lv_bipush (v := 45) hx hb dJ6_getChars_ba4f3_115 (by decide) ?_
      obtain ⟨hg319, hd⟩ := m_g_e hd
      refine m_bast hx hb hM.1 hP hS hg319 dJ6_getChars_ba4f3_117 (fun H locs hP hS => ?_)
      obtain ⟨w320, ew, hd⟩ := m_l_e hd
      have hP : mP G w320 H := by rw [ew]; exact hP
      refine W.widen (k := 0) (n := 0) (Nat.le_of_ble_eq_true rfl) (Nat.le_of_ble_eq_true rfl) ?_
      exact J118 w320 (x5 + (-1)) _ _ _ hd hP hS (lv_sub hl [0] rfl)
  have J22 : ∀ (n22 : Nat) (w : mW) (x0 : Int32) (x2 : Nat) (x5 : Int32) (x6 : Int32) (H : Heap) (locs : List Loc) (ls : Array Slot), e_J6_getChars_ba4f3_22 G.2.2.2 n22 w x0 x2 x5 x6 = some (r, w') → mP G w H → va_S (fun q => G.1 ≤ q) s.heap H locs → lv_has ls 7 [(0, .int (x0)), (2, .ref (x2)), (5, .int (x5)), (6, .int (x6))] → W p l e ({ frames := 0, cells := 0, slots := 0, locals := 0 } : Room) s m ([.int (p0), .int (p1), .ref (p2)] : List Value).toArray below meth c H locs 0 0 (MQ below (m_Qi G r w') ([.int (p0), .int (p1), .ref (p2)] : List Value).toArray s 0 0 (fun q => G.1 ≤ q)) (F0 m 22 ls []) := by
    intro n22
    induction n22 with
    | zero => intro w x0 x2 x5 x6 H locs ls hd; exact absurd (show (none : Option (Int32 × mW)) = some _ from hd) (fun h => nomatch h)
    | succ n22 ih22 =>
      intro w x0 x2 x5 x6 H locs ls hd hP hS hl
      have hd : e_J6_getChars_ba4f3_22_b G.2.2.2 (e_J6_getChars_ba4f3_22 G.2.2.2 n22) w x0 x2 x5 x6 = some (r, w') := hd
      refine lv_iload_n hx hb dJ6_getChars_ba4f3_22 rfl (lv_at hl 0 rfl) ?_
      refine lv_bipush (v := (-100)) hx hb dJ6_getChars_ba4f3_23 (by decide) ?_
      refine lv_icmp_gt (tgt := 72) hx hb dJ6_getChars_ba4f3_25 (by decide) (fun c203 => ?_) (fun c203 => ?_)
      · have hd := m_i_t c203 hd
        refine lv_aload_n hx hb dJ6_getChars_ba4f3_72 rfl (lv_at hl 1 rfl) ?_
        refine lv_iinc (v := x5 + (-1)) (lv' := [(5, .int (x5 + (-1))), (0, .int (x0)), (2, .ref (x2)), (6, .int (x6))]) hx hb dJ6_getChars_ba4f3_73 hl (k := 2) rfl rfl (by decide) rfl (fun ls hl => ?_)
        refine lv_iload hx hb dJ6_getChars_ba4f3_76 (lv_at hl 0 rfl) ?_
        refine va_gets (own := RJ6) (ref := "java/lang/Integer") hx hb hM.2.2.2.2.2.2.2.2.1 hS hown (hts (.fieldLink RJ6 83 "java/lang/Integer" "DigitOnes" "[B") (by decide +kernel)) (fun _ h9 => h9) dJ6_getChars_ba4f3_78 ?_
        refine lv_iload_n hx hb dJ6_getChars_ba4f3_81 rfl (lv_at hl 1 rfl) ?_
        refine lv_ineg hx hb dJ6_getChars_ba4f3_82 ?_
        obtain ⟨hg204, hd⟩ := m_g_e hd
        refine va_tb (v := .int (nI (48 + (-x0).toNatClampNeg % 10))) hx hb hM.2.2.2.2.2.2.2.2.2.1 hS hg204 rfl dJ6_getChars_ba4f3_83 ?_
        obtain ⟨hg205, hd⟩ := m_g_e hd
        refine m_bast hx hb hM.1 hP hS hg205 dJ6_getChars_ba4f3_84 (fun H locs hP hS => ?_)
        obtain ⟨w206, ew, hd⟩ := m_l_e hd
        have hP : mP G w206 H := by rw [ew]; exact hP
        refine lv_iload_n hx hb dJ6_getChars_ba4f3_85 rfl (lv_at hl 1 rfl) ?_
        refine lv_bipush (v := (-9)) hx hb dJ6_getChars_ba4f3_86 (by decide) ?_
        refine lv_icmp_ge (tgt := 104) hx hb dJ6_getChars_ba4f3_88 (by decide) (fun c207 => ?_) (fun c207 => ?_)
        · have hd := m_i_t c207 hd
          refine W.widen (k := 0) (n := 0) (Nat.le_of_ble_eq_true rfl) (Nat.le_of_ble_eq_true rfl) ?_
          exact J104 w206 x2 (x5 + (-1)) x6 _ _ _ hd hP hS (lv_sub hl [2, 0, 3] rfl)
        · have hd := m_i_f c207 hd
          refine lv_aload_n hx hb dJ6_getChars_ba4f3_91 rfl (lv_at hl 2 rfl) ?_
          refine lv_iinc (v := (x5 + (-1)) + (-1)) (lv' := [(5, .int ((x5 + (-1)) + (-1))), (0, .int (x0)), (2, .ref (x2)), (6, .int (x6))]) hx hb dJ6_getChars_ba4f3_92 hl (k := 0) rfl rfl (by decide) rfl (fun ls hl => ?_)
          refine lv_iload hx hb dJ6_getChars_ba4f3_95 (lv_at hl 0 rfl) ?_
          refine va_gets (own := RJ6) (ref := "java/lang/Integer") hx hb hM.2.2.2.2.2.2.1 hS hown (hts (.fieldLink RJ6 87 "java/lang/Integer" "DigitTens" "[B") (by decide +kernel)) (fun _ h9 => h9) dJ6_getChars_ba4f3_97 ?_
          refine lv_iload_n hx hb dJ6_getChars_ba4f3_100 rfl (lv_at hl 1 rfl) ?_
          refine lv_ineg hx hb dJ6_getChars_ba4f3_101 ?_
          obtain ⟨hg208, hd⟩ := m_g_e hd
          refine va_tb (v := .int (nI (48 + (-x0).toNatClampNeg / 10))) hx hb hM.2.2.2.2.2.2.2.1 hS hg208 rfl dJ6_getChars_ba4f3_102 ?_
          obtain ⟨hg209, hd⟩ := m_g_e hd
          refine m_bast hx hb hM.1 hP hS hg209 dJ6_getChars_ba4f3_103 (fun H locs hP hS => ?_)
          obtain ⟨w210, ew, hd⟩ := m_l_e hd
          have hP : mP G w210 H := by rw [ew]; exact hP
          refine W.widen (k := 0) (n := 0) (Nat.le_of_ble_eq_true rfl) (Nat.le_of_ble_eq_true rfl) ?_
          exact J104 w210 x2 ((x5 + (-1)) + (-1)) x6 _ _ _ hd hP hS (lv_sub hl [2, 0, 3] rfl)
      · have hd := m_i_f c203 hd
        refine lv_iload_n hx hb dJ6_getChars_ba4f3_28 rfl (lv_at hl 0 rfl) ?_
        refine lv_bipush (v := 100) hx hb dJ6_getChars_ba4f3_29 (by decide) ?_
        obtain ⟨hz211, hd⟩ := m_g_e hd
        refine lv_idiv hx hb dJ6_getChars_ba4f3_31 hz211 ?_
        refine lv_istore_n (lv' := [(3, .int (x0 / 100)), (0, .int (x0)), (2, .ref (x2)), (5, .int (x5)), (6, .int (x6))]) hx hb dJ6_getChars_ba4f3_32 rfl hl (by decide) rfl (fun ls hl => ?_)
        refine lv_iload_n hx hb dJ6_getChars_ba4f3_33 rfl (lv_at hl 0 rfl) ?_
        refine lv_bipush (v := 100) hx hb dJ6_getChars_ba4f3_34 (by decide) ?_
        refine lv_imul hx hb dJ6_getChars_ba4f3_36 ?_
        refine lv_iload_n hx hb dJ6_getChars_ba4f3_37 rfl (lv_at hl 1 rfl) ?_
        refine lv_isub hx hb dJ6_getChars_ba4f3_38 ?_
        refine lv_istore (lv' := [(4, .int (((x0 / 100) * 100) - x0)), (3, .int (x0 / 100)), (0, .int (x0)), (2, .ref (x2)), (5, .int (x5)), (6, .int (x6))]) hx hb dJ6_getChars_ba4f3_39 hl (by decide) rfl (fun ls hl => ?_)
        refine lv_iload_n hx hb dJ6_getChars_ba4f3_41 rfl (lv_at hl 1 rfl) ?_
        refine lv_istore_n (lv' := [(0, .int (x0 / 100)), (4, .int (((x0 / 100) * 100) - x0)), (3, .int (x0 / 100)), (2, .ref (x2)), (5, .int (x5)), (6, .int (x6))]) hx hb dJ6_getChars_ba4f3_42 rfl hl (by decide) rfl (fun ls hl => ?_)
        refine lv_aload_n hx hb dJ6_getChars_ba4f3_43 rfl (lv_at hl 3 rfl) ?_
        refine lv_iinc (v := x5 + (-1)) (lv' := [(5, .int (x5 + (-1))), (0, .int (x0 / 100)), (4, .int (((x0 / 100) * 100) - x0)), (3, .int (x0 / 100)), (2, .ref (x2)), (6, .int (x6))]) hx hb dJ6_getChars_ba4f3_44 hl (k := 4) rfl rfl (by decide) rfl (fun ls hl => ?_)
        refine lv_iload hx hb dJ6_getChars_ba4f3_47 (lv_at hl 0 rfl) ?_
        refine va_gets (own := RJ6) (ref := "java/lang/Integer") hx hb hM.2.2.2.2.2.2.2.2.1 hS hown (hts (.fieldLink RJ6 83 "java/lang/Integer" "DigitOnes" "[B") (by decide +kernel)) (fun _ h9 => h9) dJ6_getChars_ba4f3_49 ?_
        refine lv_iload hx hb dJ6_getChars_ba4f3_52 (lv_at hl 2 rfl) ?_
        obtain ⟨hg212, hd⟩ := m_g_e hd
        refine va_tb (v := .int (nI (48 + (((x0 / 100) * 100) - x0).toNatClampNeg % 10))) hx hb hM.2.2.2.2.2.2.2.2.2.1 hS hg212 rfl dJ6_getChars_ba4f3_54 ?_
        obtain ⟨hg213, hd⟩ := m_g_e hd
        refine m_bast hx hb hM.1 hP hS hg213 dJ6_getChars_ba4f3_55 (fun H locs hP hS => ?_)
        obtain ⟨w214, ew, hd⟩ := m_l_e hd
        have hP : mP G w214 H := by rw [ew]; exact hP
        refine lv_aload_n hx hb dJ6_getChars_ba4f3_56 rfl (lv_at hl 4 rfl) ?_
        refine lv_iinc (v := (x5 + (-1)) + (-1)) (lv' := [(5, .int ((x5 + (-1)) + (-1))), (0, .int (x0 / 100)), (4, .int (((x0 / 100) * 100) - x0)), (3, .int (x0 / 100)), (2, .ref (x2)), (6, .int (x6))]) hx hb dJ6_getChars_ba4f3_57 hl (k := 0) rfl rfl (by decide) rfl (fun ls hl => ?_)
        refine lv_iload hx hb dJ6_getChars_ba4f3_60 (lv_at hl 0 rfl) ?_
        refine va_gets (own := RJ6) (ref := "java/lang/Integer") hx hb hM.2.2.2.2.2.2.1 hS hown (hts (.fieldLink RJ6 87 "java/lang/Integer" "DigitTens" "[B") (by decide +kernel)) (fun _ h9 => h9) dJ6_getChars_ba4f3_62 ?_
        refine lv_iload hx hb dJ6_getChars_ba4f3_65 (lv_at hl 2 rfl) ?_
        obtain ⟨hg215, hd⟩ := m_g_e hd
        refine va_tb (v := .int (nI (48 + (((x0 / 100) * 100) - x0).toNatClampNeg / 10))) hx hb hM.2.2.2.2.2.2.2.1 hS hg215 rfl dJ6_getChars_ba4f3_67 ?_
        obtain ⟨hg216, hd⟩ := m_g_e hd
        refine m_bast hx hb hM.1 hP hS hg216 dJ6_getChars_ba4f3_68 (fun H locs hP hS => ?_)
        obtain ⟨w217, ew, hd⟩ := m_l_e hd
        have hP : mP G w217 H := by rw [ew]; exact hP
        refine lv_goto (tgt := 22) hx hb dJ6_getChars_ba4f3_69 (by decide) ?_
        refine W.widen (k := 0) (n := 0) (Nat.le_of_ble_eq_true rfl) (Nat.le_of_ble_eq_true rfl) ?_
        exact ih22 w217 (x0 / 100) x2 ((x5 + (-1)) + (-1)) x6 _ _ _ hd hP hS (lv_sub hl [1, 4, 0, 5] rfl)
  have J12 : ∀ (w : mW) (x0 : Int32) (x2 : Nat) (x5 : Int32) (s0 : Int32) (H : Heap) (locs : List Loc) (ls : Array Slot), e_J6_getChars_ba4f3_12 G.2.2.2 w x0 x2 x5 s0 = some (r, w') → mP G w H → va_S (fun q => G.1 ≤ q) s.heap H locs → lv_has ls 7 [(0, .int (x0)), (2, .ref (x2)), (5, .int (x5))] → W p l e ({ frames := 0, cells := 0, slots := 0, locals := 0 } : Room) s m ([.int (p0), .int (p1), .ref (p2)] : List Value).toArray below meth c H locs 0 0 (MQ below (m_Qi G r w') ([.int (p0), .int (p1), .ref (p2)] : List Value).toArray s 0 0 (fun q => G.1 ≤ q)) (F0 m 12 ls [.int (s0)]) := by
    intro w x0 x2 x5 s0 H locs ls hd hP hS hl
    refine lv_istore (lv' := [(6, .int (s0)), (0, .int (x0)), (2, .ref (x2)), (5, .int (x5))]) hx hb dJ6_getChars_ba4f3_12 hl (by decide) rfl (fun ls hl => ?_)
    refine lv_iload hx hb dJ6_getChars_ba4f3_14 (lv_at hl 0 rfl) ?_
    refine lv_if_ne (tgt := 22) hx hb dJ6_getChars_ba4f3_16 (by decide) (fun c102 => ?_) (fun c102 => ?_)
    · have hd := m_i_f c102 hd
      refine W.widen (k := 0) (n := 0) (Nat.le_of_ble_eq_true rfl) (Nat.le_of_ble_eq_true rfl) ?_
      exact J22 m_N w x0 x2 x5 s0 _ _ _ hd hP hS (lv_sub hl [1, 2, 3, 0] rfl)
    · have hd := m_i_t c102 hd
      refine lv_iload_n hx hb dJ6_getChars_ba4f3_19 rfl (lv_at hl 1 rfl) ?_
      refine lv_ineg hx hb dJ6_getChars_ba4f3_20 ?_
      refine lv_istore_n (lv' := [(0, .int (-x0)), (6, .int (s0)), (2, .ref (x2)), (5, .int (x5))]) hx hb dJ6_getChars_ba4f3_21 rfl hl (by decide) rfl (fun ls hl => ?_)
      refine W.widen (k := 0) (n := 0) (Nat.le_of_ble_eq_true rfl) (Nat.le_of_ble_eq_true rfl) ?_
      exact J22 m_N w (-x0) x2 x5 s0 _ _ _ hd hP hS (lv_sub hl [0, 2, 3, 1] rfl)
  have hl := lv_entry ([.int (p0), .int (p1), .ref (p2)]) (n := 7) (Nat.le_of_ble_eq_true rfl)
  rw [lg_entry_eq]
  generalize (lg_sl ([.int (p0), .int (p1), .ref (p2)]) ++ List.replicate (7 - (lg_sl ([.int (p0), .int (p1), .ref (p2)])).length) Slot.unset).toArray = ls at hl ⊢
  have hl : lv_has ls 7 [(0, .int (p0)), (1, .int (p1)), (2, .ref (p2))] := hl
  refine lv_iload_n hx hb dJ6_getChars_ba4f3_0 rfl (lv_at hl 1 rfl) ?_
  refine lv_istore (lv' := [(5, .int (p1)), (0, .int (p0)), (1, .int (p1)), (2, .ref (p2))]) hx hb dJ6_getChars_ba4f3_1 hl (by decide) rfl (fun ls hl => ?_)
  refine lv_iload_n hx hb dJ6_getChars_ba4f3_3 rfl (lv_at hl 1 rfl) ?_
  refine lv_if_ge (tgt := 11) hx hb dJ6_getChars_ba4f3_4 (by decide) (fun c1 => ?_) (fun c1 => ?_)
  · have hd := m_i_t c1 hd
    refine lv_iconst (v := 0) hx hb dJ6_getChars_ba4f3_11 (by decide) ?_
    refine W.widen (k := 0) (n := 0) (Nat.le_of_ble_eq_true rfl) (Nat.le_of_ble_eq_true rfl) ?_
    exact J12 w p0 p2 p1 0 _ _ _ hd hP hS (lv_sub hl [1, 3, 0] rfl)
  · have hd := m_i_f c1 hd
    refine lv_iconst (v := 1) hx hb dJ6_getChars_ba4f3_7 (by decide) ?_
    refine lv_goto (tgt := 12) hx hb dJ6_getChars_ba4f3_8 (by decide) ?_
    refine W.widen (k := 0) (n := 0) (Nat.le_of_ble_eq_true rfl) (Nat.le_of_ble_eq_true rfl) ?_
    exact J12 w p0 p2 p1 1 _ _ _ hd hP hS (lv_sub hl [1, 3, 0] rfl)


noncomputable def e_J5_append_c97b9 (t0 : Nat × Nat × Nat × Nat) (w : mW) (h : Nat) (p0 : Int32) : Option (Nat × mW) := m_g (m_kd w h = 2) <| m_b (e_J6_stringSize_0f7a4 w p0) fun r2 w3 => m_g (m_kd w3 h = 2) <| m_b (e_J5_ensureCapacityInternal_d00df w3 h ((m_fi w 1 3 h) + r2)) fun r6 w7 => m_g (m_kd w7 h = 2) <| m_b (e_J5_isLatin1_aae02 w7 h) fun r10 w11 => if r10 = (0 : Int32) then (none) else (m_g (m_kd w11 h = 2) <| m_o (m_fr w11 1 0 h) fun r15 => m_b (e_J6_getChars_ba4f3 t0 w11 p0 ((m_fi w 1 3 h) + r2) r15) fun r16 w17 => m_g (m_kd w17 h = 2) <| m_l (m_sI w17 1 3 h ((m_fi w 1 3 h) + r2)) fun w20 => some (h, w20))
set_option maxHeartbeats 1000000 in
set_option maxRecDepth 100000 in
theorem c_J5_append_c97b9 (l : Launch) (G : m_G) (w w' : mW) (h : Nat) (p0 : Int32) (r : Nat) (hd : e_J5_append_c97b9 G.2.2.2 w h p0 = some (r, w')) : Met l yJ5_append_c97b9 wsJ5_append_c97b9 ({ frames := 4, cells := 1, slots := 150, locals := 130 } : Room) (m_Pc G w [.ref (h), .int (p0)]) (m_Qq G (some r) w') 1 150 (fun q => G.1 ≤ q) := by
  refine Met.ofW (cc := cJ5_append_c97b9) (maxL := 4) (ret := (some (.object "java/lang/AbstractStringBuilder"))) (by decide +kernel) rfl ?_
  intro p e s m args below meth c s₁ B hml hv
  obtain ⟨rfl, hM, hP⟩ := hv
  have hx := B.exec
  have hb := B.bytes
  have hr := B.returns
  have hts := atoms_spec (ws := wsJ5_append_c97b9) B.pre
  have hown : s.vm.findClass RJ5 = some m.cls := findClass_of_methodNamed B.named
  have hlocks := B.notSynchronized
  have hin1 : ∀ w ∈ u_ws RJ4 TJ4 4, w ∈ wsJ5_append_c97b9 := by decide +kernel
  have hS : va_S (fun q => G.1 ≤ q) s.heap s.heap [] := va_S.rf
  have hl := lv_entry ([.ref (h), .int (p0)]) (n := 4) (Nat.le_of_ble_eq_true rfl)
  rw [lg_entry_eq]
  generalize (lg_sl ([.ref (h), .int (p0)]) ++ List.replicate (4 - (lg_sl ([.ref (h), .int (p0)])).length) Slot.unset).toArray = ls at hl ⊢
  have hl : lv_has ls 4 [(0, .ref (h)), (1, .int (p0))] := hl
  refine lv_aload_n hx hb dJ5_append_c97b9_0 rfl (lv_at hl 0 rfl) ?_
  obtain ⟨hk1, hd⟩ := m_g_e hd
  refine m_getI (C := RJ4) (T := TJ4) (N := 4) (own := RJ5) (ref := RJ5) hx hb hts hin1 hown hM.1 hP 1 rfl 3 hk1 (by decide) (hts (.fieldLink RJ5 79 "java/lang/AbstractStringBuilder" "count" "I") (by decide +kernel)) (fun _ h9 => h9) dJ5_append_c97b9_1 ?_
  refine lv_istore_n (lv' := [(2, .int (m_fi w 1 3 h)), (0, .ref (h)), (1, .int (p0))]) hx hb dJ5_append_c97b9_4 rfl hl (by decide) rfl (fun ls hl => ?_)
  refine lv_iload_n hx hb dJ5_append_c97b9_5 rfl (lv_at hl 0 rfl) ?_
  refine lv_iload_n hx hb dJ5_append_c97b9_6 rfl (lv_at hl 2 rfl) ?_
  obtain ⟨r2, w3, hc4, hd⟩ := m_b_e hd
  refine m_calli (k := 0) (n := 0) (va_runS (As := [.int (p0)]) (rest := [.int (m_fi w 1 3 h)]) ⟨hx, hb, hml, hown, hts⟩ (c_J6_stringSize_0f7a4 l G w w3 p0 r2 hc4) (va_cwS 1 hts gJ5_append_c97b9_J6_stringSize_0f7a4 rfl rfl rfl (by decide +kernel) ⟨(Nat.le_of_ble_eq_true rfl), (Nat.le_of_ble_eq_true rfl)⟩) (m_preS hM hP hS) rfl rfl hl.1 rfl (lv_room (Nat.le_of_ble_eq_true rfl)) dJ5_append_c97b9_7 ⟨(Nat.le_of_ble_eq_true rfl), (Nat.le_of_ble_eq_true rfl)⟩) hS ⟨(Nat.le_of_ble_eq_true rfl), (Nat.le_of_ble_eq_true rfl)⟩ (fun H locs hP hS => ?_)
  refine lv_iadd hx hb dJ5_append_c97b9_10 ?_
  refine lv_istore_n (lv' := [(3, .int ((m_fi w 1 3 h) + r2)), (2, .int (m_fi w 1 3 h)), (0, .ref (h)), (1, .int (p0))]) hx hb dJ5_append_c97b9_11 rfl hl (by decide) rfl (fun ls hl => ?_)
  refine lv_aload_n hx hb dJ5_append_c97b9_12 rfl (lv_at hl 2 rfl) ?_
  refine lv_iload_n hx hb dJ5_append_c97b9_13 rfl (lv_at hl 0 rfl) ?_
  obtain ⟨hk5, hd⟩ := m_g_e hd
  obtain ⟨r6, w7, hc8, hd⟩ := m_b_e hd
  refine m_callv (k := 1) (n := 150) (va_runU (As := [.int ((m_fi w 1 3 h) + r2)]) (rest := []) ⟨hx, hb, hml, hown, hts⟩ (c_J5_ensureCapacityInternal_d00df l G w3 w7 h ((m_fi w 1 3 h) + r2) r6 hc8) (va_cwU 1 hts gJ5_append_c97b9_J5_ensureCapacityInternal_d00df_u100J4 rfl rfl rfl rfl (by decide +kernel) ⟨(Nat.le_of_ble_eq_true rfl), (Nat.le_of_ble_eq_true rfl)⟩) (m_preV (C := RJ4) (T := TJ4) (N := 4) hM hP hS rfl (by decide) hk5) rfl rfl hl.1 rfl (lv_room (Nat.le_of_ble_eq_true rfl)) dJ5_append_c97b9_14 ⟨(Nat.le_of_ble_eq_true rfl), (Nat.le_of_ble_eq_true rfl)⟩) hS ⟨(Nat.le_of_ble_eq_true rfl), (Nat.le_of_ble_eq_true rfl)⟩ (fun H locs hP hS => ?_)
  refine lv_aload_n hx hb dJ5_append_c97b9_17 rfl (lv_at hl 2 rfl) ?_
  obtain ⟨hk9, hd⟩ := m_g_e hd
  obtain ⟨r10, w11, hc12, hd⟩ := m_b_e hd
  refine m_calli (k := 1) (n := 150) (va_runU (As := []) (rest := []) ⟨hx, hb, hml, hown, hts⟩ (c_J5_isLatin1_aae02 l G w7 w11 h r10 hc12) (va_cwU 0 hts gJ5_append_c97b9_J5_isLatin1_aae02_u83J4 rfl rfl rfl rfl (by decide +kernel) ⟨(Nat.le_of_ble_eq_true rfl), (Nat.le_of_ble_eq_true rfl)⟩) (m_preV (C := RJ4) (T := TJ4) (N := 4) hM hP hS rfl (by decide) hk9) rfl rfl hl.1 rfl (lv_room (Nat.le_of_ble_eq_true rfl)) dJ5_append_c97b9_18 ⟨(Nat.le_of_ble_eq_true rfl), (Nat.le_of_ble_eq_true rfl)⟩) hS ⟨(Nat.le_of_ble_eq_true rfl), (Nat.le_of_ble_eq_true rfl)⟩ (fun H locs hP hS => ?_)
  refine lv_if_eq (tgt := 37) hx hb dJ5_append_c97b9_21 (by decide) (fun c13 => ?_) (fun c13 => ?_)
  · have hd := m_i_t c13 hd
    exact nomatch hd
  · have hd := m_i_f c13 hd
    refine lv_iload_n hx hb dJ5_append_c97b9_24 rfl (lv_at hl 3 rfl) ?_
    refine lv_iload_n hx hb dJ5_append_c97b9_25 rfl (lv_at hl 0 rfl) ?_
    refine lv_aload_n hx hb dJ5_append_c97b9_26 rfl (lv_at hl 2 rfl) ?_
    obtain ⟨hk14, hd⟩ := m_g_e hd
    obtain ⟨r15, hr15, hd⟩ := m_o_e hd
    refine m_getR (C := RJ4) (T := TJ4) (N := 4) (own := RJ5) (ref := RJ5) hx hb hts hin1 hown hM.1 hP 1 rfl 0 (r := r15) ⟨hk14, hr15⟩ (by decide) (hts (.fieldLink RJ5 15 "java/lang/AbstractStringBuilder" "value" "[B") (by decide +kernel)) (fun _ h9 => h9) dJ5_append_c97b9_27 ?_
    obtain ⟨r16, w17, hc18, hd⟩ := m_b_e hd
    refine m_calli (k := 1) (n := 150) (va_runS (As := [.int (p0), .int ((m_fi w 1 3 h) + r2), .ref (r15)]) (rest := []) ⟨hx, hb, hml, hown, hts⟩ (c_J6_getChars_ba4f3 l G w11 w17 p0 ((m_fi w 1 3 h) + r2) r15 r16 hc18) (va_cwS 3 hts gJ5_append_c97b9_J6_getChars_ba4f3 rfl rfl rfl (by decide +kernel) ⟨(Nat.le_of_ble_eq_true rfl), (Nat.le_of_ble_eq_true rfl)⟩) (m_preS hM hP hS) rfl rfl hl.1 rfl (lv_room (Nat.le_of_ble_eq_true rfl)) dJ5_append_c97b9_30 ⟨(Nat.le_of_ble_eq_true rfl), (Nat.le_of_ble_eq_true rfl)⟩) hS ⟨(Nat.le_of_ble_eq_true rfl), (Nat.le_of_ble_eq_true rfl)⟩ (fun H locs hP hS => ?_)
    refine lv_pop hx hb dJ5_append_c97b9_33 rfl ?_
    refine lv_goto (tgt := 48) hx hb dJ5_append_c97b9_34 (by decide) ?_
    refine lv_aload_n hx hb dJ5_append_c97b9_48 rfl (lv_at hl 2 rfl) ?_
    refine lv_iload_n hx hb dJ5_append_c97b9_49 rfl (lv_at hl 0 rfl) ?_
    obtain ⟨hk19, hd⟩ := m_g_e hd
    refine m_putI (C := RJ4) (T := TJ4) (N := 4) (own := RJ5) (ref := RJ5) hx hb hts hin1 tyJ4 tyJ4_ok nmJ4 hown hM.1 hP hS 1 rfl 3 hk19 (by decide) (hts (.fieldLink RJ5 79 "java/lang/AbstractStringBuilder" "count" "I") (by decide +kernel)) (fun _ h9 => h9) (Or.inl rfl) (ty := .int) rfl ⟨rfl, rfl⟩ dJ5_append_c97b9_50 (fun H locs hP hS => ?_)
    obtain ⟨w20, ew, hd⟩ := m_l_e hd
    have hP : mP G w20 H := by rw [ew]; exact hP
    have hk19 : m_kd w20 h = 2 := by rw [ew]; exact hk19
    refine lv_aload_n hx hb dJ5_append_c97b9_53 rfl (lv_at hl 2 rfl) ?_
    obtain ⟨e1, e2⟩ := m_s_e hd
    refine W.widen (k := 1) (n := 150) (Nat.le_of_ble_eq_true rfl) (Nat.le_of_ble_eq_true rfl) ?_
    exact W.aret hx hb hr (Or.inl ⟨_, rfl⟩) (Or.inr ⟨_, rfl⟩) (fun t ht hW => ⟨⟨some h, w20, rfl, ⟨congrArg some e1, e2⟩, by show mP _ _ t.heap; rw [ht]; exact hP⟩, hS.F ht⟩) hS.2.2 dJ5_append_c97b9_54


noncomputable def e_J4_append_bf812 (t0 : Nat × Nat × Nat × Nat) (w : mW) (h : Nat) (p0 : Int32) : Option (Nat × mW) := m_g (m_kd w h = 2) <| m_b (e_J5_append_c97b9 t0 w h p0) fun r2 w3 => some (h, w3)
set_option maxHeartbeats 1000000 in
set_option maxRecDepth 100000 in
theorem c_J4_append_bf812 (l : Launch) (G : m_G) (w w' : mW) (h : Nat) (p0 : Int32) (r : Nat) (hd : e_J4_append_bf812 G.2.2.2 w h p0 = some (r, w')) : Met l yJ4_append_bf812 wsJ4_append_bf812 ({ frames := 5, cells := 1, slots := 150, locals := 153 } : Room) (m_Pc G w [.ref (h), .int (p0)]) (m_Qq G (some r) w') 1 150 (fun q => G.1 ≤ q) := by
  refine Met.ofW (cc := cJ4_append_bf812) (maxL := 2) (ret := (some (.object "java/lang/StringBuilder"))) (by decide +kernel) rfl ?_
  intro p e s m args below meth c s₁ B hml hv
  obtain ⟨rfl, hM, hP⟩ := hv
  have hx := B.exec
  have hb := B.bytes
  have hr := B.returns
  have hts := atoms_spec (ws := wsJ4_append_bf812) B.pre
  have hown : s.vm.findClass RJ4 = some m.cls := findClass_of_methodNamed B.named
  have hlocks := B.notSynchronized
  have hS : va_S (fun q => G.1 ≤ q) s.heap s.heap [] := va_S.rf
  have hl := lv_entry ([.ref (h), .int (p0)]) (n := 2) (Nat.le_of_ble_eq_true rfl)
  rw [lg_entry_eq]
  generalize (lg_sl ([.ref (h), .int (p0)]) ++ List.replicate (2 - (lg_sl ([.ref (h), .int (p0)])).length) Slot.unset).toArray = ls at hl ⊢
  have hl : lv_has ls 2 [(0, .ref (h)), (1, .int (p0))] := hl
  refine lv_aload_n hx hb dJ4_append_bf812_0 rfl (lv_at hl 0 rfl) ?_
  refine lv_iload_n hx hb dJ4_append_bf812_1 rfl (lv_at hl 1 rfl) ?_
  obtain ⟨hk1, hd⟩ := m_g_e hd
  obtain ⟨r2, w3, hc4, hd⟩ := m_b_e hd
  refine m_callr (k := 1) (n := 150) (va_runSU (As := [.int (p0)]) (rest := []) (hM.1.1 1 _ rfl).2 ⟨hx, hb, hml, hown, hts⟩ (c_J5_append_c97b9 l G w w3 h p0 r2 hc4) (va_cwSU 1 hts gJ4_append_bf812_J5_append_c97b9_s53 rfl rfl rfl (by decide +kernel) ⟨(Nat.le_of_ble_eq_true rfl), (Nat.le_of_ble_eq_true rfl)⟩) (m_preV (C := RJ4) (T := TJ4) (N := 4) hM hP hS rfl (by decide) hk1) rfl rfl hl.1 rfl (lv_room (Nat.le_of_ble_eq_true rfl)) dJ4_append_bf812_2 ⟨(Nat.le_of_ble_eq_true rfl), (Nat.le_of_ble_eq_true rfl)⟩) hS ⟨(Nat.le_of_ble_eq_true rfl), (Nat.le_of_ble_eq_true rfl)⟩ (fun H locs hP hS => ?_)
  refine lv_pop hx hb dJ4_append_bf812_5 rfl ?_
  refine lv_aload_n hx hb dJ4_append_bf812_6 rfl (lv_at hl 0 rfl) ?_
  obtain ⟨e1, e2⟩ := m_s_e hd
  refine W.widen (k := 1) (n := 150) (Nat.le_of_ble_eq_true rfl) (Nat.le_of_ble_eq_true rfl) ?_
  exact W.aret hx hb hr (Or.inl ⟨_, rfl⟩) (Or.inr ⟨_, rfl⟩) (fun t ht hW => ⟨⟨some h, w3, rfl, ⟨congrArg some e1, e2⟩, by show mP _ _ t.heap; rw [ht]; exact hP⟩, hS.F ht⟩) hS.2.2 dJ4_append_bf812_7


noncomputable def e_J5_length_8abf5 (w : mW) (h : Nat) : Option (Int32 × mW) := m_g (m_kd w h = 2) <| some (m_fi w 1 3 h, w)
set_option maxHeartbeats 1000000 in
set_option maxRecDepth 100000 in
theorem c_J5_length_8abf5 (l : Launch) (G : m_G) (w w' : mW) (h : Nat) (r : Int32) (hd : e_J5_length_8abf5 w h = some (r, w')) : Met l yJ5_length_8abf5 wsJ5_length_8abf5 ({ frames := 0, cells := 0, slots := 0, locals := 0 } : Room) (m_Pc G w [.ref (h)]) (m_Qi G r w') 0 0 (fun q => G.1 ≤ q) := by
  refine Met.ofW (cc := cJ5_length_8abf5) (maxL := 1) (ret := (some .int)) (by decide +kernel) rfl ?_
  intro p e s m args below meth c s₁ B hml hv
  obtain ⟨rfl, hM, hP⟩ := hv
  have hx := B.exec
  have hb := B.bytes
  have hr := B.returns
  have hts := atoms_spec (ws := wsJ5_length_8abf5) B.pre
  have hown : s.vm.findClass RJ5 = some m.cls := findClass_of_methodNamed B.named
  have hlocks := B.notSynchronized
  have hin1 : ∀ w ∈ u_ws RJ4 TJ4 4, w ∈ wsJ5_length_8abf5 := by decide +kernel
  have hS : va_S (fun q => G.1 ≤ q) s.heap s.heap [] := va_S.rf
  have hl := lv_entry ([.ref (h)]) (n := 1) (Nat.le_of_ble_eq_true rfl)
  rw [lg_entry_eq]
  generalize (lg_sl ([.ref (h)]) ++ List.replicate (1 - (lg_sl ([.ref (h)])).length) Slot.unset).toArray = ls at hl ⊢
  have hl : lv_has ls 1 [(0, .ref (h))] := hl
  refine lv_aload_n hx hb dJ5_length_8abf5_0 rfl (lv_at hl 0 rfl) ?_
  obtain ⟨hk1, hd⟩ := m_g_e hd
  refine m_getI (C := RJ4) (T := TJ4) (N := 4) (own := RJ5) (ref := RJ5) hx hb hts hin1 hown hM.1 hP 1 rfl 3 hk1 (by decide) (hts (.fieldLink RJ5 79 "java/lang/AbstractStringBuilder" "count" "I") (by decide +kernel)) (fun _ h9 => h9) dJ5_length_8abf5_1 ?_
  obtain ⟨e1, e2⟩ := m_s_e hd
  refine W.widen (k := 0) (n := 0) (Nat.le_of_ble_eq_true rfl) (Nat.le_of_ble_eq_true rfl) ?_
  exact W.iret hx hb hr (fun t ht hW => ⟨⟨_, w, rfl, ⟨e1, e2⟩, by show mP _ _ t.heap; rw [ht]; exact hP⟩, hS.F ht⟩) hS.2.2 dJ5_length_8abf5_4


noncomputable def e_J4_length_8abf5 (w : mW) (h : Nat) : Option (Int32 × mW) := m_g (m_kd w h = 2) <| m_b (e_J5_length_8abf5 w h) fun r2 w3 => some (r2, w3)
set_option maxHeartbeats 1000000 in
set_option maxRecDepth 100000 in
theorem c_J4_length_8abf5 (l : Launch) (G : m_G) (w w' : mW) (h : Nat) (r : Int32) (hd : e_J4_length_8abf5 w h = some (r, w')) : Met l yJ4_length_8abf5 wsJ4_length_8abf5 ({ frames := 1, cells := 0, slots := 0, locals := 20 } : Room) (m_Pc G w [.ref (h)]) (m_Qi G r w') 0 0 (fun q => G.1 ≤ q) := by
  refine Met.ofW (cc := cJ4_length_8abf5) (maxL := 1) (ret := (some .int)) (by decide +kernel) rfl ?_
  intro p e s m args below meth c s₁ B hml hv
  obtain ⟨rfl, hM, hP⟩ := hv
  have hx := B.exec
  have hb := B.bytes
  have hr := B.returns
  have hts := atoms_spec (ws := wsJ4_length_8abf5) B.pre
  have hown : s.vm.findClass RJ4 = some m.cls := findClass_of_methodNamed B.named
  have hlocks := B.notSynchronized
  have hS : va_S (fun q => G.1 ≤ q) s.heap s.heap [] := va_S.rf
  have hl := lv_entry ([.ref (h)]) (n := 1) (Nat.le_of_ble_eq_true rfl)
  rw [lg_entry_eq]
  generalize (lg_sl ([.ref (h)]) ++ List.replicate (1 - (lg_sl ([.ref (h)])).length) Slot.unset).toArray = ls at hl ⊢
  have hl : lv_has ls 1 [(0, .ref (h))] := hl
  refine lv_aload_n hx hb dJ4_length_8abf5_0 rfl (lv_at hl 0 rfl) ?_
  obtain ⟨hk1, hd⟩ := m_g_e hd
  obtain ⟨r2, w3, hc4, hd⟩ := m_b_e hd
  refine m_calli (k := 0) (n := 0) (va_runSU (As := []) (rest := []) (hM.1.1 1 _ rfl).2 ⟨hx, hb, hml, hown, hts⟩ (c_J5_length_8abf5 l G w w3 h r2 hc4) (va_cwSU 0 hts gJ4_length_8abf5_J5_length_8abf5_s343 rfl rfl rfl (by decide +kernel) ⟨(Nat.le_of_ble_eq_true rfl), (Nat.le_of_ble_eq_true rfl)⟩) (m_preV (C := RJ4) (T := TJ4) (N := 4) hM hP hS rfl (by decide) hk1) rfl rfl hl.1 rfl (lv_room (Nat.le_of_ble_eq_true rfl)) dJ4_length_8abf5_1 ⟨(Nat.le_of_ble_eq_true rfl), (Nat.le_of_ble_eq_true rfl)⟩) hS ⟨(Nat.le_of_ble_eq_true rfl), (Nat.le_of_ble_eq_true rfl)⟩ (fun H locs hP hS => ?_)
  obtain ⟨e1, e2⟩ := m_s_e hd
  refine W.widen (k := 0) (n := 0) (Nat.le_of_ble_eq_true rfl) (Nat.le_of_ble_eq_true rfl) ?_
  exact W.iret hx hb hr (fun t ht hW => ⟨⟨_, w3, rfl, ⟨e1, e2⟩, by show mP _ _ t.heap; rw [ht]; exact hP⟩, hS.F ht⟩) hS.2.2 dJ4_length_8abf5_4


noncomputable def e_J0_checkIndex_df160 (w : mW) (p0 : Int32) (p1 : Int32) : Option (Unit × mW) := m_b (e_J3_checkIndex_8e157 w p0 p1) fun r1 w2 => some ((), w2)
set_option maxHeartbeats 1000000 in
set_option maxRecDepth 100000 in
theorem c_J0_checkIndex_df160 (l : Launch) (G : m_G) (w w' : mW) (p0 : Int32) (p1 : Int32) (r : Unit) (hd : e_J0_checkIndex_df160 w p0 p1 = some (r, w')) : Met l yJ0_checkIndex_df160 wsJ0_checkIndex_df160 ({ frames := 1, cells := 0, slots := 0, locals := 22 } : Room) (m_Pc G w [.int (p0), .int (p1)]) (m_Qv G r w') 0 0 (fun q => G.1 ≤ q) := by
  refine Met.ofW (cc := cJ0_checkIndex_df160) (maxL := 2) (ret := none) (by decide +kernel) rfl ?_
  intro p e s m args below meth c s₁ B hml hv
  obtain ⟨rfl, hM, hP⟩ := hv
  have hx := B.exec
  have hb := B.bytes
  have hr := B.returns
  have hts := atoms_spec (ws := wsJ0_checkIndex_df160) B.pre
  have hown : s.vm.findClass RJ0 = some m.cls := findClass_of_methodNamed B.named
  have hlocks := B.notSynchronized
  have hS : va_S (fun q => G.1 ≤ q) s.heap s.heap [] := va_S.rf
  have hl := lv_entry ([.int (p0), .int (p1)]) (n := 2) (Nat.le_of_ble_eq_true rfl)
  rw [lg_entry_eq]
  generalize (lg_sl ([.int (p0), .int (p1)]) ++ List.replicate (2 - (lg_sl ([.int (p0), .int (p1)])).length) Slot.unset).toArray = ls at hl ⊢
  have hl : lv_has ls 2 [(0, .int (p0)), (1, .int (p1))] := hl
  refine lv_iload_n hx hb dJ0_checkIndex_df160_0 rfl (lv_at hl 0 rfl) ?_
  refine lv_iload_n hx hb dJ0_checkIndex_df160_1 rfl (lv_at hl 1 rfl) ?_
  rcases hM.2.2.2.2.2.2.2.2.2.2 with hz | ⟨tq, hz⟩
  · refine va_gets (own := RJ0) (ref := "jdk/internal/util/Preconditions") hx hb hz hS hown (hts (.fieldLink RJ0 1053 "jdk/internal/util/Preconditions" "SIOOBE_FORMATTER" "Ljava/util/function/BiFunction;") (by decide +kernel)) (fun _ h9 => h9) dJ0_checkIndex_df160_2 ?_
    obtain ⟨r1, w2, hc3, hd⟩ := m_b_e hd
    refine m_calli (k := 0) (n := 0) (va_runS (As := [.int (p0), .int (p1), .null]) (rest := []) ⟨hx, hb, hml, hown, hts⟩ (c_J3_checkIndex_8e157 l G w w2 p0 p1 r1 hc3) (va_cwS 3 hts gJ0_checkIndex_df160_J3_checkIndex_8e157 rfl rfl rfl (by decide +kernel) ⟨(Nat.le_of_ble_eq_true rfl), (Nat.le_of_ble_eq_true rfl)⟩) (m_preS hM hP hS) rfl rfl hl.1 rfl (lv_room (Nat.le_of_ble_eq_true rfl)) dJ0_checkIndex_df160_5 ⟨(Nat.le_of_ble_eq_true rfl), (Nat.le_of_ble_eq_true rfl)⟩) hS ⟨(Nat.le_of_ble_eq_true rfl), (Nat.le_of_ble_eq_true rfl)⟩ (fun H locs hP hS => ?_)
    refine lv_pop hx hb dJ0_checkIndex_df160_8 rfl ?_
    obtain ⟨e1, e2⟩ := m_s_e hd
    refine W.widen (k := 0) (n := 0) (Nat.le_of_ble_eq_true rfl) (Nat.le_of_ble_eq_true rfl) ?_
    exact W.vret hx hb hr (fun t ht hW => ⟨⟨w2, rfl, e2, by show mP _ _ t.heap; rw [ht]; exact hP⟩, hS.F ht⟩) hS.2.2 dJ0_checkIndex_df160_9
  · refine va_gets (own := RJ0) (ref := "jdk/internal/util/Preconditions") hx hb hz hS hown (hts (.fieldLink RJ0 1053 "jdk/internal/util/Preconditions" "SIOOBE_FORMATTER" "Ljava/util/function/BiFunction;") (by decide +kernel)) (fun _ h9 => h9) dJ0_checkIndex_df160_2 ?_
    obtain ⟨r1, w2, hc3, hd⟩ := m_b_e hd
    refine m_calli (k := 0) (n := 0) (va_runS (As := [.int (p0), .int (p1), .ref (tq)]) (rest := []) ⟨hx, hb, hml, hown, hts⟩ (c_J3_checkIndex_8e157_R tq l G w w2 p0 p1 r1 hc3) (va_cwS 3 hts gJ0_checkIndex_df160_J3_checkIndex_8e157 rfl rfl rfl (by decide +kernel) ⟨(Nat.le_of_ble_eq_true rfl), (Nat.le_of_ble_eq_true rfl)⟩) (m_preS hM hP hS) rfl rfl hl.1 rfl (lv_room (Nat.le_of_ble_eq_true rfl)) dJ0_checkIndex_df160_5 ⟨(Nat.le_of_ble_eq_true rfl), (Nat.le_of_ble_eq_true rfl)⟩) hS ⟨(Nat.le_of_ble_eq_true rfl), (Nat.le_of_ble_eq_true rfl)⟩ (fun H locs hP hS => ?_)
    refine lv_pop hx hb dJ0_checkIndex_df160_8 rfl ?_
    obtain ⟨e1, e2⟩ := m_s_e hd
    refine W.widen (k := 0) (n := 0) (Nat.le_of_ble_eq_true rfl) (Nat.le_of_ble_eq_true rfl) ?_
    exact W.vret hx hb hr (fun t ht hW => ⟨⟨w2, rfl, e2, by show mP _ _ t.heap; rw [ht]; exact hP⟩, hS.F ht⟩) hS.2.2 dJ0_checkIndex_df160_9


noncomputable def e_J5_charAt_5068e (w : mW) (h : Nat) (p0 : Int32) : Option (Int32 × mW) := m_g (m_kd w h = 2) <| m_o (m_fr w 1 0 h) fun r2 => m_g (21 ≤ m_kd w r2 ∧ m_kd w r2 ≤ 25) <| m_b (e_J0_checkIndex_df160 w p0 (m_min (m_fi w 1 3 h) ((nI (m_ln w r2)) >>> ((m_fi w 1 1 h) &&& 31)))) fun r4 w5 => if (m_fi w 1 1 h) = (0 : Int32) then (m_g (m_kd w5 r2 = 24 ∧ ¬ (p0 < 0 ∨ m_ln w5 r2 ≤ p0.toNatClampNeg)) <| m_g (vp_nar .char ((((m_ia w5 r2 p0.toNatClampNeg) &&& 255).toUInt32 % 65536).toInt32) = (((m_ia w5 r2 p0.toNatClampNeg) &&& 255).toUInt32 % 65536).toInt32) <| some ((((m_ia w5 r2 p0.toNatClampNeg) &&& 255).toUInt32 % 65536).toInt32, w5)) else (none)
set_option maxHeartbeats 1000000 in
set_option maxRecDepth 100000 in
theorem c_J5_charAt_5068e (l : Launch) (G : m_G) (w w' : mW) (h : Nat) (p0 : Int32) (r : Int32) (hd : e_J5_charAt_5068e w h p0 = some (r, w')) : Met l yJ5_charAt_5068e wsJ5_charAt_5068e ({ frames := 2, cells := 0, slots := 0, locals := 60 } : Room) (m_Pc G w [.ref (h), .int (p0)]) (m_Qi G r w') 0 0 (fun q => G.1 ≤ q) := by
  refine Met.ofW (cc := cJ5_charAt_5068e) (maxL := 5) (ret := (some .char)) (by decide +kernel) rfl ?_
  intro p e s m args below meth c s₁ B hml hv
  obtain ⟨rfl, hM, hP⟩ := hv
  have hx := B.exec
  have hb := B.bytes
  have hr := B.returns
  have hts := atoms_spec (ws := wsJ5_charAt_5068e) B.pre
  have hown : s.vm.findClass RJ5 = some m.cls := findClass_of_methodNamed B.named
  have hlocks := B.notSynchronized
  have hin1 : ∀ w ∈ u_ws RJ4 TJ4 4, w ∈ wsJ5_charAt_5068e := by decide +kernel
  have hS : va_S (fun q => G.1 ≤ q) s.heap s.heap [] := va_S.rf
  have hl := lv_entry ([.ref (h), .int (p0)]) (n := 5) (Nat.le_of_ble_eq_true rfl)
  rw [lg_entry_eq]
  generalize (lg_sl ([.ref (h), .int (p0)]) ++ List.replicate (5 - (lg_sl ([.ref (h), .int (p0)])).length) Slot.unset).toArray = ls at hl ⊢
  have hl : lv_has ls 5 [(0, .ref (h)), (1, .int (p0))] := hl
  refine lv_aload_n hx hb dJ5_charAt_5068e_0 rfl (lv_at hl 0 rfl) ?_
  obtain ⟨hk1, hd⟩ := m_g_e hd
  refine m_getI (C := RJ4) (T := TJ4) (N := 4) (own := RJ5) (ref := RJ5) hx hb hts hin1 hown hM.1 hP 1 rfl 1 hk1 (by decide) (hts (.fieldLink RJ5 22 "java/lang/AbstractStringBuilder" "coder" "B") (by decide +kernel)) (fun _ h9 => h9) dJ5_charAt_5068e_1 ?_
  refine lv_istore_n (lv' := [(2, .int (m_fi w 1 1 h)), (0, .ref (h)), (1, .int (p0))]) hx hb dJ5_charAt_5068e_4 rfl hl (by decide) rfl (fun ls hl => ?_)
  refine lv_aload_n hx hb dJ5_charAt_5068e_5 rfl (lv_at hl 1 rfl) ?_
  obtain ⟨r2, hr2, hd⟩ := m_o_e hd
  refine m_getR (C := RJ4) (T := TJ4) (N := 4) (own := RJ5) (ref := RJ5) hx hb hts hin1 hown hM.1 hP 1 rfl 0 (r := r2) ⟨hk1, hr2⟩ (by decide) (hts (.fieldLink RJ5 15 "java/lang/AbstractStringBuilder" "value" "[B") (by decide +kernel)) (fun _ h9 => h9) dJ5_charAt_5068e_6 ?_
  refine lv_astore_n (lv' := [(3, .ref (r2)), (2, .int (m_fi w 1 1 h)), (0, .ref (h)), (1, .int (p0))]) hx hb dJ5_charAt_5068e_9 rfl hl (by decide) rfl (fun ls hl => ?_)
  refine lv_aload_n hx hb dJ5_charAt_5068e_10 rfl (lv_at hl 2 rfl) ?_
  refine m_getI (C := RJ4) (T := TJ4) (N := 4) (own := RJ5) (ref := RJ5) hx hb hts hin1 hown hM.1 hP 1 rfl 3 hk1 (by decide) (hts (.fieldLink RJ5 79 "java/lang/AbstractStringBuilder" "count" "I") (by decide +kernel)) (fun _ h9 => h9) dJ5_charAt_5068e_11 ?_
  refine lv_aload_n hx hb dJ5_charAt_5068e_14 rfl (lv_at hl 0 rfl) ?_
  obtain ⟨hg3, hd⟩ := m_g_e hd
  refine m_alen hx hb hM.1 hP hg3 dJ5_charAt_5068e_15 ?_
  refine lv_iload_n hx hb dJ5_charAt_5068e_16 rfl (lv_at hl 1 rfl) ?_
  refine lv_ishr hx hb dJ5_charAt_5068e_17 ?_
  refine va_mmin (own := RJ5) hx hb (by rw [hml]; exact hl.1.symm) hown (hts (.methodLink RJ5 138 Lib.Math.min.name) (by decide +kernel)) (hts (.static Lib.Math.min.name) (by decide +kernel)) (hts (.initialized "java/lang/Math") (by decide +kernel)) (hts (.code Lib.Math.min.name Lib.Math.min.code 2 (some .int)) (by decide +kernel)) (Nat.le_of_ble_eq_true rfl) (Nat.le_of_ble_eq_true rfl) (Nat.le_of_ble_eq_true rfl) (Nat.le_of_ble_eq_true rfl) dJ5_charAt_5068e_18 ?_
  refine lv_istore (lv' := [(4, .int (m_min (m_fi w 1 3 h) ((nI (m_ln w r2)) >>> ((m_fi w 1 1 h) &&& 31)))), (3, .ref (r2)), (2, .int (m_fi w 1 1 h)), (0, .ref (h)), (1, .int (p0))]) hx hb dJ5_charAt_5068e_21 hl (by decide) rfl (fun ls hl => ?_)
  refine lv_iload_n hx hb dJ5_charAt_5068e_23 rfl (lv_at hl 4 rfl) ?_
  refine lv_iload hx hb dJ5_charAt_5068e_24 (lv_at hl 0 rfl) ?_
  obtain ⟨r4, w5, hc6, hd⟩ := m_b_e hd
  refine m_callv (k := 0) (n := 0) (va_runS (As := [.int (p0), .int (m_min (m_fi w 1 3 h) ((nI (m_ln w r2)) >>> ((m_fi w 1 1 h) &&& 31)))]) (rest := []) ⟨hx, hb, hml, hown, hts⟩ (c_J0_checkIndex_df160 l G w w5 p0 (m_min (m_fi w 1 3 h) ((nI (m_ln w r2)) >>> ((m_fi w 1 1 h) &&& 31))) r4 hc6) (va_cwS 2 hts gJ5_charAt_5068e_J0_checkIndex_df160 rfl rfl rfl (by decide +kernel) ⟨(Nat.le_of_ble_eq_true rfl), (Nat.le_of_ble_eq_true rfl)⟩) (m_preS hM hP hS) rfl rfl hl.1 rfl (lv_room (Nat.le_of_ble_eq_true rfl)) dJ5_charAt_5068e_26 ⟨(Nat.le_of_ble_eq_true rfl), (Nat.le_of_ble_eq_true rfl)⟩) hS ⟨(Nat.le_of_ble_eq_true rfl), (Nat.le_of_ble_eq_true rfl)⟩ (fun H locs hP hS => ?_)
  refine lv_iload_n hx hb dJ5_charAt_5068e_29 rfl (lv_at hl 2 rfl) ?_
  refine lv_if_ne (tgt := 42) hx hb dJ5_charAt_5068e_30 (by decide) (fun c7 => ?_) (fun c7 => ?_)
  · have hd := m_i_f c7 hd
    exact nomatch hd
  · have hd := m_i_t c7 hd
    refine lv_aload_n hx hb dJ5_charAt_5068e_33 rfl (lv_at hl 1 rfl) ?_
    refine lv_iload_n hx hb dJ5_charAt_5068e_34 rfl (lv_at hl 4 rfl) ?_
    obtain ⟨hg8, hd⟩ := m_g_e hd
    refine m_bald hx hb hM.1 hP hg8 dJ5_charAt_5068e_35 ?_
    refine lv_sipush (v := 255) hx hb dJ5_charAt_5068e_36 (by decide) ?_
    refine lv_iand hx hb dJ5_charAt_5068e_39 ?_
    refine lv_i2c (v := (((m_ia w5 r2 p0.toNatClampNeg) &&& 255).toUInt32 % 65536).toInt32) hx hb dJ5_charAt_5068e_40 rfl ?_
    obtain ⟨hn9, hd⟩ := m_g_e hd
    obtain ⟨e1, e2⟩ := m_s_e hd
    refine W.widen (k := 0) (n := 0) (Nat.le_of_ble_eq_true rfl) (Nat.le_of_ble_eq_true rfl) ?_
    exact W.zret hx hb hr (m_narC hn9).1 (fun t ht hW => ⟨⟨_, w5, rfl, ⟨e1, e2⟩, by show mP _ _ t.heap; rw [ht]; exact hP⟩, hS.F ht⟩) hS.2.2 dJ5_charAt_5068e_41


noncomputable def e_J4_charAt_5068e (w : mW) (h : Nat) (p0 : Int32) : Option (Int32 × mW) := m_g (m_kd w h = 2) <| m_b (e_J5_charAt_5068e w h p0) fun r2 w3 => m_g (vp_nar .char r2 = r2) <| some (r2, w3)
set_option maxHeartbeats 1000000 in
set_option maxRecDepth 100000 in
theorem c_J4_charAt_5068e (l : Launch) (G : m_G) (w w' : mW) (h : Nat) (p0 : Int32) (r : Int32) (hd : e_J4_charAt_5068e w h p0 = some (r, w')) : Met l yJ4_charAt_5068e wsJ4_charAt_5068e ({ frames := 3, cells := 0, slots := 0, locals := 84 } : Room) (m_Pc G w [.ref (h), .int (p0)]) (m_Qi G r w') 0 0 (fun q => G.1 ≤ q) := by
  refine Met.ofW (cc := cJ4_charAt_5068e) (maxL := 2) (ret := (some .char)) (by decide +kernel) rfl ?_
  intro p e s m args below meth c s₁ B hml hv
  obtain ⟨rfl, hM, hP⟩ := hv
  have hx := B.exec
  have hb := B.bytes
  have hr := B.returns
  have hts := atoms_spec (ws := wsJ4_charAt_5068e) B.pre
  have hown : s.vm.findClass RJ4 = some m.cls := findClass_of_methodNamed B.named
  have hlocks := B.notSynchronized
  have hS : va_S (fun q => G.1 ≤ q) s.heap s.heap [] := va_S.rf
  have hl := lv_entry ([.ref (h), .int (p0)]) (n := 2) (Nat.le_of_ble_eq_true rfl)
  rw [lg_entry_eq]
  generalize (lg_sl ([.ref (h), .int (p0)]) ++ List.replicate (2 - (lg_sl ([.ref (h), .int (p0)])).length) Slot.unset).toArray = ls at hl ⊢
  have hl : lv_has ls 2 [(0, .ref (h)), (1, .int (p0))] := hl
  refine lv_aload_n hx hb dJ4_charAt_5068e_0 rfl (lv_at hl 0 rfl) ?_
  refine lv_iload_n hx hb dJ4_charAt_5068e_1 rfl (lv_at hl 1 rfl) ?_
  obtain ⟨hk1, hd⟩ := m_g_e hd
  obtain ⟨r2, w3, hc4, hd⟩ := m_b_e hd
  refine m_calli (k := 0) (n := 0) (va_runSU (As := [.int (p0)]) (rest := []) (hM.1.1 1 _ rfl).2 ⟨hx, hb, hml, hown, hts⟩ (c_J5_charAt_5068e l G w w3 h p0 r2 hc4) (va_cwSU 1 hts gJ4_charAt_5068e_J5_charAt_5068e_s329 rfl rfl rfl (by decide +kernel) ⟨(Nat.le_of_ble_eq_true rfl), (Nat.le_of_ble_eq_true rfl)⟩) (m_preV (C := RJ4) (T := TJ4) (N := 4) hM hP hS rfl (by decide) hk1) rfl rfl hl.1 rfl (lv_room (Nat.le_of_ble_eq_true rfl)) dJ4_charAt_5068e_2 ⟨(Nat.le_of_ble_eq_true rfl), (Nat.le_of_ble_eq_true rfl)⟩) hS ⟨(Nat.le_of_ble_eq_true rfl), (Nat.le_of_ble_eq_true rfl)⟩ (fun H locs hP hS => ?_)
  obtain ⟨hn5, hd⟩ := m_g_e hd
  obtain ⟨e1, e2⟩ := m_s_e hd
  refine W.widen (k := 0) (n := 0) (Nat.le_of_ble_eq_true rfl) (Nat.le_of_ble_eq_true rfl) ?_
  exact W.zret hx hb hr (m_narC hn5).1 (fun t ht hW => ⟨⟨_, w3, rfl, ⟨e1, e2⟩, by show mP _ _ t.heap; rw [ht]; exact hP⟩, hS.F ht⟩) hS.2.2 dJ4_charAt_5068e_5

