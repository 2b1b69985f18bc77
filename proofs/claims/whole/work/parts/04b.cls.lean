noncomputable def e_X2_init (w : mW) (h : Nat) : Option (Unit × mW) := m_g (¬ 8 < (0 : Int32) ∧ (8 : Int32).toNatClampNeg ≤ 8 ∧ 8 ≤ 4000) <| m_l (m_nA w 21 (8 : Int32).toNatClampNeg) fun w2 => m_g (m_kd w2 h = 6) <| m_l (m_sR w2 5 0 h (some (m_nx w))) fun w5 => m_g (¬ 8 < (0 : Int32) ∧ (8 : Int32).toNatClampNeg ≤ 8 ∧ 8 ≤ 4000) <| m_l (m_nA w5 21 (8 : Int32).toNatClampNeg) fun w7 => m_l (m_sR w7 5 1 h (some (m_nx w5))) fun w9 => some ((), w9)
set_option maxHeartbeats 1000000 in
set_option maxRecDepth 100000 in
theorem c_X2_init (l : Launch) (G : m_G) (w w' : mW) (h : Nat) (r : Unit) (hd : e_X2_init w h = some (r, w')) : Met l yX2_init wsX2_init ({ frames := 1, cells := 2, slots := 16, locals := 40 } : Room) (m_Pc G w [.ref (h)]) (m_Qv G r w') 2 16 (fun q => G.1 ≤ q) := by
  refine Met.ofW (cc := cX2_init) (maxL := 1) (ret := none) (by decide +kernel) rfl ?_
  intro p e s m args below meth c s₁ B hml hv
  obtain ⟨rfl, hM, hP⟩ := hv
  have hx := B.exec
  have hb := B.bytes
  have hr := B.returns
  have hts := atoms_spec (ws := wsX2_init) B.pre
  have hown : s.vm.findClass RX2 = some m.cls := findClass_of_methodNamed B.named
  have hlocks := B.notSynchronized
  have hin : meth.name = "<init>" := (name_of_methodNamed B.named B.method).1
  have hin5 : ∀ w ∈ u_ws RX2 TX2 2, w ∈ wsX2_init := by decide +kernel
  have hS : va_S (fun q => G.1 ≤ q) s.heap s.heap [] := va_S.rf
  have hl := lv_entry ([.ref (h)]) (n := 1) (Nat.le_of_ble_eq_true rfl)
  rw [lg_entry_eq]
  generalize (lg_sl ([.ref (h)]) ++ List.replicate (1 - (lg_sl ([.ref (h)])).length) Slot.unset).toArray = ls at hl ⊢
  have hl : lv_has ls 1 [(0, .ref (h))] := hl
  refine lv_aload_n hx hb dX2_init_0 rfl (lv_at hl 0 rfl) ?_
  refine W.objInit hx hb hown (hts (.methodLink RX2 3 objectInit) (by decide +kernel)) (hts (.instanceMethod objectInit) (by decide +kernel)) (hts (.code objectInit ⟨#[0xb1]⟩ 1 none) (by decide +kernel)) rfl (by rw [hml]; exact hl.1) rfl dX2_init_1 (Nat.le_of_ble_eq_true rfl) (Nat.le_of_ble_eq_true rfl) ?_
  refine W.eq (g2 := F0 m 4 ls []) rfl ?_
  refine lv_aload_n hx hb dX2_init_4 rfl (lv_at hl 0 rfl) ?_
  refine lv_bipush (v := 8) hx hb dX2_init_5 (by decide) ?_
  obtain ⟨hg1, hd⟩ := m_g_e hd
  refine m_newA (atype := .int) 21 hx hb (hts (.arrayClass .int) (by decide +kernel)) rfl hM.1 hP hS (t0 := 0) rfl m_naint hg1 (Nat.le_of_ble_eq_true rfl) (Nat.le_of_ble_eq_true rfl) dX2_init_7 (fun H hP hS => ?_)
  obtain ⟨w2, ew, hd⟩ := m_l_e hd
  have hP : mP G w2 H := by rw [ew]; exact hP
  have hk3 : m_kd w2 (m_nx w) = 21 := by rw [ew]; exact m_nA_new
  obtain ⟨hk4, hd⟩ := m_g_e hd
  refine m_putR (C := RX2) (T := TX2) (N := 2) (own := RX2) (ref := RX2) hx hb hts hin5 tyX2 tyX2_ok nmX2 hown hM.1 hP hS 5 rfl 0 hk4 (by decide) (hts (.fieldLink RX2 9 "CellNotebook$Names" "values" "[I") (by decide +kernel)) (fun _ h9 => h9) (Or.inr ⟨rfl, hin, rfl⟩) (ty := .array .int) (by decide +kernel) ⟨rfl, rfl⟩ dX2_init_9 (fun H locs hP hS => ?_)
  obtain ⟨w5, ew, hd⟩ := m_l_e hd
  have hP : mP G w5 H := by rw [ew]; exact hP
  have hk3 : m_kd w5 (m_nx w) = 21 := by rw [ew]; exact hk3
  have hk4 : m_kd w5 h = 6 := by rw [ew]; exact hk4
  refine lv_aload_n hx hb dX2_init_12 rfl (lv_at hl 0 rfl) ?_
  refine lv_bipush (v := 8) hx hb dX2_init_13 (by decide) ?_
  obtain ⟨hg6, hd⟩ := m_g_e hd
  have hne0 : m_nx w ≠ m_nx w5 := m_ne hP hk3 (by decide)
  have hne1 : h ≠ m_nx w5 := m_ne hP hk4 (by decide)
  refine m_newA (atype := .int) 21 hx hb (hts (.arrayClass .int) (by decide +kernel)) rfl hM.1 hP hS (t0 := 0) rfl m_naint hg6 (Nat.le_of_ble_eq_true rfl) (Nat.le_of_ble_eq_true rfl) dX2_init_15 (fun H hP hS => ?_)
  obtain ⟨w7, ew, hd⟩ := m_l_e hd
  have hP : mP G w7 H := by rw [ew]; exact hP
  have hk3 : m_kd w7 (m_nx w) = 21 := by rw [ew]; exact m_nA_old hk3 hne0
  have hk4 : m_kd w7 h = 6 := by rw [ew]; exact m_nA_old hk4 hne1
  have hk8 : m_kd w7 (m_nx w5) = 21 := by rw [ew]; exact m_nA_new
  refine m_putR (C := RX2) (T := TX2) (N := 2) (own := RX2) (ref := RX2) hx hb hts hin5 tyX2 tyX2_ok nmX2 hown hM.1 hP hS 5 rfl 1 hk4 (by decide) (hts (.fieldLink RX2 15 "CellNotebook$Names" "stamps" "[I") (by decide +kernel)) (fun _ h9 => h9) (Or.inr ⟨rfl, hin, rfl⟩) (ty := .array .int) (by decide +kernel) ⟨rfl, rfl⟩ dX2_init_17 (fun H locs hP hS => ?_)
  obtain ⟨w9, ew, hd⟩ := m_l_e hd
  have hP : mP G w9 H := by rw [ew]; exact hP
  have hk3 : m_kd w9 (m_nx w) = 21 := by rw [ew]; exact hk3
  have hk4 : m_kd w9 h = 6 := by rw [ew]; exact hk4
  have hk8 : m_kd w9 (m_nx w5) = 21 := by rw [ew]; exact hk8
  obtain ⟨e1, e2⟩ := m_s_e hd
  refine W.widen (k := 2) (n := 16) (Nat.le_of_ble_eq_true rfl) (Nat.le_of_ble_eq_true rfl) ?_
  exact W.vret hx hb hr (fun t ht hW => ⟨⟨w9, rfl, e2, by show mP _ _ t.heap; rw [ht]; exact hP⟩, hS.F ht⟩) hS.2.2 dX2_init_20


noncomputable def e_X0_init (w : mW) (h : Nat) : Option (Unit × mW) := m_l (m_nO w 5) fun w1 => m_b (e_X2_init w1 (m_nx w)) fun r3 w4 => m_g (m_kd w4 h = 4) <| m_l (m_sR w4 3 5 h (some (m_nx w))) fun w7 => m_g (¬ 8 < (0 : Int32) ∧ (8 : Int32).toNatClampNeg ≤ 8 ∧ 8 ≤ 4000) <| m_l (m_nA w7 21 (8 : Int32).toNatClampNeg) fun w9 => m_l (m_sR w9 3 6 h (some (m_nx w7))) fun w11 => some ((), w11)
set_option maxHeartbeats 1000000 in
set_option maxRecDepth 100000 in
theorem c_X0_init (l : Launch) (G : m_G) (w w' : mW) (h : Nat) (r : Unit) (hd : e_X0_init w h = some (r, w')) : Met l yX0_init wsX0_init ({ frames := 2, cells := 4, slots := 26, locals := 60 } : Room) (m_Pc G w [.ref (h)]) (m_Qv G r w') 4 26 (fun q => G.1 ≤ q) := by
  refine Met.ofW (cc := cX0_init) (maxL := 1) (ret := none) (by decide +kernel) rfl ?_
  intro p e s m args below meth c s₁ B hml hv
  obtain ⟨rfl, hM, hP⟩ := hv
  have hx := B.exec
  have hb := B.bytes
  have hr := B.returns
  have hts := atoms_spec (ws := wsX0_init) B.pre
  have hown : s.vm.findClass RX0 = some m.cls := findClass_of_methodNamed B.named
  have hlocks := B.notSynchronized
  have hin : meth.name = "<init>" := (name_of_methodNamed B.named B.method).1
  have hin3 : ∀ w ∈ u_ws RX0 TX0 7, w ∈ wsX0_init := by decide +kernel
  have hin5 : ∀ w ∈ u_ws RX2 TX2 2, w ∈ wsX0_init := by decide +kernel
  have hS : va_S (fun q => G.1 ≤ q) s.heap s.heap [] := va_S.rf
  have hl := lv_entry ([.ref (h)]) (n := 1) (Nat.le_of_ble_eq_true rfl)
  rw [lg_entry_eq]
  generalize (lg_sl ([.ref (h)]) ++ List.replicate (1 - (lg_sl ([.ref (h)])).length) Slot.unset).toArray = ls at hl ⊢
  have hl : lv_has ls 1 [(0, .ref (h))] := hl
  refine lv_aload_n hx hb dX0_init_0 rfl (lv_at hl 0 rfl) ?_
  refine W.objInit hx hb hown (hts (.methodLink RX0 3 objectInit) (by decide +kernel)) (hts (.instanceMethod objectInit) (by decide +kernel)) (hts (.code objectInit ⟨#[0xb1]⟩ 1 none) (by decide +kernel)) rfl (by rw [hml]; exact hl.1) rfl dX0_init_1 (Nat.le_of_ble_eq_true rfl) (Nat.le_of_ble_eq_true rfl) ?_
  refine W.eq (g2 := F0 m 4 ls []) rfl ?_
  refine lv_aload_n hx hb dX0_init_4 rfl (lv_at hl 0 rfl) ?_
  refine m_new (C := RX2) (T := TX2) (N := 2) (own := RX0) hx hb hts hin5 tyX2 tyX2_ok hown (hts (.classLink RX0 9 RX2) (by decide +kernel)) (hts (.instantiable RX2 2) (by decide +kernel)) (hts (.initialized RX2) (by decide +kernel)) hM.1 hP hS 5 rfl ⟨by decide, by decide, m_dfX2⟩ (Nat.le_of_ble_eq_true rfl) (Nat.le_of_ble_eq_true rfl) dX0_init_5 (fun H hP hS => ?_)
  obtain ⟨w1, ew, hd⟩ := m_l_e hd
  have hP : mP G w1 H := by rw [ew]; exact hP
  have hk2 : m_kd w1 (m_nx w) = 6 := by rw [ew]; exact m_nO_new
  refine lv_dup hx hb dX0_init_8 rfl ?_
  obtain ⟨r3, w4, hc5, hd⟩ := m_b_e hd
  refine m_callv (k := 3) (n := 18) (va_runIN (As := []) (rest := [.ref (m_nx w), .ref (h)]) ⟨hx, hb, hml, hown, hts⟩ (c_X2_init l G w1 w4 (m_nx w) r3 hc5) ⟨va_cnB (host := RX6) 0 hts gX0_init_X2_init_n11 rfl rfl rfl (hM.2.1.2.2.2.2.2.2.2 (RX0, 11, yX2_init) (by decide +kernel)) (hts (.initialized RX2) (by decide +kernel)) (by decide +kernel) ⟨(Nat.le_of_ble_eq_true rfl), (Nat.le_of_ble_eq_true rfl)⟩, rfl, (hts (.instanceMethod yX2_init) (by decide +kernel))⟩ (m_preS hM hP hS) rfl rfl hl.1 rfl (lv_room (Nat.le_of_ble_eq_true rfl)) dX0_init_9 ⟨(Nat.le_of_ble_eq_true rfl), (Nat.le_of_ble_eq_true rfl)⟩) hS ⟨(Nat.le_of_ble_eq_true rfl), (Nat.le_of_ble_eq_true rfl)⟩ (fun H locs hP hS => ?_)
  obtain ⟨hk6, hd⟩ := m_g_e hd
  refine m_putR (C := RX0) (T := TX0) (N := 7) (own := RX0) (ref := RX0) hx hb hts hin3 tyX0 tyX0_ok nmX0 hown hM.1 hP hS 3 rfl 5 hk6 (by decide) (hts (.fieldLink RX0 12 "CellNotebook$Attempt" "names" "LCellNotebook$Names;") (by decide +kernel)) (fun _ h9 => h9) (Or.inr ⟨rfl, hin, rfl⟩) (ty := .object "CellNotebook$Names") (by decide +kernel) ⟨rfl, rfl⟩ dX0_init_12 (fun H locs hP hS => ?_)
  obtain ⟨w7, ew, hd⟩ := m_l_e hd
  have hP : mP G w7 H := by rw [ew]; exact hP
  have hk6 : m_kd w7 h = 4 := by rw [ew]; exact hk6
  refine lv_aload_n hx hb dX0_init_15 rfl (lv_at hl 0 rfl) ?_
  refine lv_bipush (v := 8) hx hb dX0_init_16 (by decide) ?_
  obtain ⟨hg8, hd⟩ := m_g_e hd
  have hne0 : h ≠ m_nx w7 := m_ne hP hk6 (by decide)
  refine m_newA (atype := .int) 21 hx hb (hts (.arrayClass .int) (by decide +kernel)) rfl hM.1 hP hS (t0 := 0) rfl m_naint hg8 (Nat.le_of_ble_eq_true rfl) (Nat.le_of_ble_eq_true rfl) dX0_init_18 (fun H hP hS => ?_)
  obtain ⟨w9, ew, hd⟩ := m_l_e hd
  have hP : mP G w9 H := by rw [ew]; exact hP
  have hk6 : m_kd w9 h = 4 := by rw [ew]; exact m_nA_old hk6 hne0
  have hk10 : m_kd w9 (m_nx w7) = 21 := by rw [ew]; exact m_nA_new
  refine m_putR (C := RX0) (T := TX0) (N := 7) (own := RX0) (ref := RX0) hx hb hts hin3 tyX0 tyX0_ok nmX0 hown hM.1 hP hS 3 rfl 6 hk6 (by decide) (hts (.fieldLink RX0 18 "CellNotebook$Attempt" "stampsSeen" "[I") (by decide +kernel)) (fun _ h9 => h9) (Or.inr ⟨rfl, hin, rfl⟩) (ty := .array .int) (by decide +kernel) ⟨rfl, rfl⟩ dX0_init_20 (fun H locs hP hS => ?_)
  obtain ⟨w11, ew, hd⟩ := m_l_e hd
  have hP : mP G w11 H := by rw [ew]; exact hP
  have hk6 : m_kd w11 h = 4 := by rw [ew]; exact hk6
  have hk10 : m_kd w11 (m_nx w7) = 21 := by rw [ew]; exact hk10
  obtain ⟨e1, e2⟩ := m_s_e hd
  refine W.widen (k := 4) (n := 26) (Nat.le_of_ble_eq_true rfl) (Nat.le_of_ble_eq_true rfl) ?_
  exact W.vret hx hb hr (fun t ht hW => ⟨⟨w11, rfl, e2, by show mP _ _ t.heap; rw [ht]; exact hP⟩, hS.F ht⟩) hS.2.2 dX0_init_23


noncomputable def e_X6_isName_15 (w : mW) (s0 : Int32) : Option (Int32 × mW) := m_g (vp_nar .boolean s0 = s0) <| some (s0, w)
noncomputable def e_X6_isName_14 (w : mW)  : Option (Int32 × mW) := e_X6_isName_15 w 0
noncomputable def e_X6_isName (w : mW) (p0 : Int32) : Option (Int32 × mW) := if p0 < (0 : Int32) then (e_X6_isName_14 w) else (if 8 ≤ p0 then (e_X6_isName_14 w) else (e_X6_isName_15 w 1))
set_option maxHeartbeats 1000000 in
set_option maxRecDepth 100000 in
theorem c_X6_isName (l : Launch) (G : m_G) (w w' : mW) (p0 : Int32) (r : Int32) (hd : e_X6_isName w p0 = some (r, w')) : Met l yX6_isName wsX6_isName ({ frames := 0, cells := 0, slots := 0, locals := 0 } : Room) (m_Pc G w [.int (p0)]) (m_Qi G r w') 0 0 (fun q => G.1 ≤ q) := by
  refine Met.ofW (cc := cX6_isName) (maxL := 1) (ret := (some .boolean)) (by decide +kernel) rfl ?_
  intro p e s m args below meth c s₁ B hml hv
  obtain ⟨rfl, hM, hP⟩ := hv
  have hx := B.exec
  have hb := B.bytes
  have hr := B.returns
  have hts := atoms_spec (ws := wsX6_isName) B.pre
  have hown : s.vm.findClass RX6 = some m.cls := findClass_of_methodNamed B.named
  have hlocks := B.notSynchronized
  have hS : va_S (fun q => G.1 ≤ q) s.heap s.heap [] := va_S.rf
  have J15 : ∀ (w : mW) (s0 : Int32) (H : Heap) (locs : List Loc) (ls : Array Slot), e_X6_isName_15 w s0 = some (r, w') → mP G w H → va_S (fun q => G.1 ≤ q) s.heap H locs → lv_has ls 1 [] → W p l e ({ frames := 0, cells := 0, slots := 0, locals := 0 } : Room) s m ([.int (p0)] : List Value).toArray below meth c H locs 0 0 (MQ below (m_Qi G r w') ([.int (p0)] : List Value).toArray s 0 0 (fun q => G.1 ≤ q)) (F0 m 15 ls [.int (s0)]) := by
    intro w s0 H locs ls hd hP hS hl
    obtain ⟨hn203, hd⟩ := m_g_e hd
    obtain ⟨e1, e2⟩ := m_s_e hd
    refine W.widen (k := 0) (n := 0) (Nat.le_of_ble_eq_true rfl) (Nat.le_of_ble_eq_true rfl) ?_
    exact W.zret hx hb hr (m_narZ hn203).1 (fun t ht hW => ⟨⟨_, w, rfl, ⟨e1, e2⟩, by show mP _ _ t.heap; rw [ht]; exact hP⟩, hS.F ht⟩) hS.2.2 dX6_isName_15
  have J14 : ∀ (w : mW) (H : Heap) (locs : List Loc) (ls : Array Slot), e_X6_isName_14 w = some (r, w') → mP G w H → va_S (fun q => G.1 ≤ q) s.heap H locs → lv_has ls 1 [] → W p l e ({ frames := 0, cells := 0, slots := 0, locals := 0 } : Room) s m ([.int (p0)] : List Value).toArray below meth c H locs 0 0 (MQ below (m_Qi G r w') ([.int (p0)] : List Value).toArray s 0 0 (fun q => G.1 ≤ q)) (F0 m 14 ls []) := by
    intro w H locs ls hd hP hS hl
    refine lv_iconst (v := 0) hx hb dX6_isName_14 (by decide) ?_
    refine W.widen (k := 0) (n := 0) (Nat.le_of_ble_eq_true rfl) (Nat.le_of_ble_eq_true rfl) ?_
    exact J15 w 0 _ _ _ hd hP hS (lv_sub hl [] rfl)
  have hl := lv_entry ([.int (p0)]) (n := 1) (Nat.le_of_ble_eq_true rfl)
  rw [lg_entry_eq]
  generalize (lg_sl ([.int (p0)]) ++ List.replicate (1 - (lg_sl ([.int (p0)])).length) Slot.unset).toArray = ls at hl ⊢
  have hl : lv_has ls 1 [(0, .int (p0))] := hl
  refine lv_iload_n hx hb dX6_isName_0 rfl (lv_at hl 0 rfl) ?_
  refine lv_if_lt (tgt := 14) hx hb dX6_isName_1 (by decide) (fun c1 => ?_) (fun c1 => ?_)
  · have hd := m_i_t c1 hd
    refine W.widen (k := 0) (n := 0) (Nat.le_of_ble_eq_true rfl) (Nat.le_of_ble_eq_true rfl) ?_
    exact J14 w _ _ _ hd hP hS (lv_sub hl [] rfl)
  · have hd := m_i_f c1 hd
    refine lv_iload_n hx hb dX6_isName_4 rfl (lv_at hl 0 rfl) ?_
    refine lv_bipush (v := 8) hx hb dX6_isName_5 (by decide) ?_
    refine lv_icmp_ge (tgt := 14) hx hb dX6_isName_7 (by decide) (fun c2 => ?_) (fun c2 => ?_)
    · have hd := m_i_t c2 hd
      refine W.widen (k := 0) (n := 0) (Nat.le_of_ble_eq_true rfl) (Nat.le_of_ble_eq_true rfl) ?_
      exact J14 w _ _ _ hd hP hS (lv_sub hl [] rfl)
    · have hd := m_i_f c2 hd
      refine lv_iconst (v := 1) hx hb dX6_isName_10 (by decide) ?_
      refine lv_goto (tgt := 15) hx hb dX6_isName_11 (by decide) ?_
      refine W.widen (k := 0) (n := 0) (Nat.le_of_ble_eq_true rfl) (Nat.le_of_ble_eq_true rfl) ?_
      exact J15 w 1 _ _ _ hd hP hS (lv_sub hl [] rfl)


noncomputable def e_X2_valueOf_17 (w : mW) (s0 : Int32) : Option (Int32 × mW) := some (s0, w)
noncomputable def e_X2_valueOf (w : mW) (h : Nat) (p0 : Int32) : Option (Int32 × mW) := m_b (e_X6_isName w p0) fun r1 w2 => if r1 = (0 : Int32) then (e_X2_valueOf_17 w2 0) else (m_g (m_kd w2 h = 6) <| m_o (m_fr w2 5 0 h) fun r6 => m_g (m_kd w2 r6 = 21 ∧ ¬ (p0 < 0 ∨ m_ln w2 r6 ≤ p0.toNatClampNeg)) <| e_X2_valueOf_17 w2 (m_ia w2 r6 p0.toNatClampNeg))
set_option maxHeartbeats 1000000 in
set_option maxRecDepth 100000 in
theorem c_X2_valueOf (l : Launch) (G : m_G) (w w' : mW) (h : Nat) (p0 : Int32) (r : Int32) (hd : e_X2_valueOf w h p0 = some (r, w')) : Met l yX2_valueOf wsX2_valueOf ({ frames := 1, cells := 0, slots := 0, locals := 20 } : Room) (m_Pc G w [.ref (h), .int (p0)]) (m_Qi G r w') 0 0 (fun q => G.1 ≤ q) := by
  refine Met.ofW (cc := cX2_valueOf) (maxL := 2) (ret := (some .int)) (by decide +kernel) rfl ?_
  intro p e s m args below meth c s₁ B hml hv
  obtain ⟨rfl, hM, hP⟩ := hv
  have hx := B.exec
  have hb := B.bytes
  have hr := B.returns
  have hts := atoms_spec (ws := wsX2_valueOf) B.pre
  have hown : s.vm.findClass RX2 = some m.cls := findClass_of_methodNamed B.named
  have hlocks := B.notSynchronized
  have hin5 : ∀ w ∈ u_ws RX2 TX2 2, w ∈ wsX2_valueOf := by decide +kernel
  have hS : va_S (fun q => G.1 ≤ q) s.heap s.heap [] := va_S.rf
  have J17 : ∀ (w : mW) (s0 : Int32) (H : Heap) (locs : List Loc) (ls : Array Slot), e_X2_valueOf_17 w s0 = some (r, w') → mP G w H → va_S (fun q => G.1 ≤ q) s.heap H locs → lv_has ls 2 [] → W p l e ({ frames := 1, cells := 0, slots := 0, locals := 20 } : Room) s m ([.ref (h), .int (p0)] : List Value).toArray below meth c H locs 0 0 (MQ below (m_Qi G r w') ([.ref (h), .int (p0)] : List Value).toArray s 0 0 (fun q => G.1 ≤ q)) (F0 m 17 ls [.int (s0)]) := by
    intro w s0 H locs ls hd hP hS hl
    obtain ⟨e1, e2⟩ := m_s_e hd
    refine W.widen (k := 0) (n := 0) (Nat.le_of_ble_eq_true rfl) (Nat.le_of_ble_eq_true rfl) ?_
    exact W.iret hx hb hr (fun t ht hW => ⟨⟨_, w, rfl, ⟨e1, e2⟩, by show mP _ _ t.heap; rw [ht]; exact hP⟩, hS.F ht⟩) hS.2.2 dX2_valueOf_17
  have hl := lv_entry ([.ref (h), .int (p0)]) (n := 2) (Nat.le_of_ble_eq_true rfl)
  rw [lg_entry_eq]
  generalize (lg_sl ([.ref (h), .int (p0)]) ++ List.replicate (2 - (lg_sl ([.ref (h), .int (p0)])).length) Slot.unset).toArray = ls at hl ⊢
  have hl : lv_has ls 2 [(0, .ref (h)), (1, .int (p0))] := hl
  refine lv_iload_n hx hb dX2_valueOf_0 rfl (lv_at hl 1 rfl) ?_
  obtain ⟨r1, w2, hc3, hd⟩ := m_b_e hd
  refine m_calli (k := 0) (n := 0) (va_runSN (As := [.int (p0)]) (rest := []) ⟨hx, hb, hml, hown, hts⟩ (c_X6_isName l G w w2 p0 r1 hc3) ⟨va_cnB (host := RX6) 1 hts gX2_valueOf_X6_isName_n18 rfl rfl rfl (hM.2.1.2.2.2.2.2.2.2 (RX2, 18, yX6_isName) (by decide +kernel)) (hts (.initialized RX6) (by decide +kernel)) (by decide +kernel) ⟨(Nat.le_of_ble_eq_true rfl), (Nat.le_of_ble_eq_true rfl)⟩, (hts (.static yX6_isName) (by decide +kernel)), trivial⟩ (m_preS hM hP hS) rfl rfl hl.1 rfl (lv_room (Nat.le_of_ble_eq_true rfl)) dX2_valueOf_1 ⟨(Nat.le_of_ble_eq_true rfl), (Nat.le_of_ble_eq_true rfl)⟩) hS ⟨(Nat.le_of_ble_eq_true rfl), (Nat.le_of_ble_eq_true rfl)⟩ (fun H locs hP hS => ?_)
  refine lv_if_eq (tgt := 16) hx hb dX2_valueOf_4 (by decide) (fun c4 => ?_) (fun c4 => ?_)
  · have hd := m_i_t c4 hd
    refine lv_iconst (v := 0) hx hb dX2_valueOf_16 (by decide) ?_
    refine W.widen (k := 0) (n := 0) (Nat.le_of_ble_eq_true rfl) (Nat.le_of_ble_eq_true rfl) ?_
    exact J17 w2 0 _ _ _ hd hP hS (lv_sub hl [] rfl)
  · have hd := m_i_f c4 hd
    refine lv_aload_n hx hb dX2_valueOf_7 rfl (lv_at hl 0 rfl) ?_
    obtain ⟨hk5, hd⟩ := m_g_e hd
    obtain ⟨r6, hr6, hd⟩ := m_o_e hd
    refine m_getR (C := RX2) (T := TX2) (N := 2) (own := RX2) (ref := RX2) hx hb hts hin5 hown hM.1 hP 5 rfl 0 (r := r6) ⟨hk5, hr6⟩ (by decide) (hts (.fieldLink RX2 9 "CellNotebook$Names" "values" "[I") (by decide +kernel)) (fun _ h9 => h9) dX2_valueOf_8 ?_
    refine lv_iload_n hx hb dX2_valueOf_11 rfl (lv_at hl 1 rfl) ?_
    obtain ⟨hg7, hd⟩ := m_g_e hd
    refine m_iald hx hb hM.1 hP hg7 dX2_valueOf_12 ?_
    refine lv_goto (tgt := 17) hx hb dX2_valueOf_13 (by decide) ?_
    refine W.widen (k := 0) (n := 0) (Nat.le_of_ble_eq_true rfl) (Nat.le_of_ble_eq_true rfl) ?_
    exact J17 w2 (m_ia w2 r6 p0.toNatClampNeg) _ _ _ hd hP hS (lv_sub hl [] rfl)


noncomputable def e_X2_stampOf_17 (w : mW) (s0 : Int32) : Option (Int32 × mW) := some (s0, w)
noncomputable def e_X2_stampOf (w : mW) (h : Nat) (p0 : Int32) : Option (Int32 × mW) := m_b (e_X6_isName w p0) fun r1 w2 => if r1 = (0 : Int32) then (e_X2_stampOf_17 w2 0) else (m_g (m_kd w2 h = 6) <| m_o (m_fr w2 5 1 h) fun r6 => m_g (m_kd w2 r6 = 21 ∧ ¬ (p0 < 0 ∨ m_ln w2 r6 ≤ p0.toNatClampNeg)) <| e_X2_stampOf_17 w2 (m_ia w2 r6 p0.toNatClampNeg))
set_option maxHeartbeats 1000000 in
set_option maxRecDepth 100000 in
theorem c_X2_stampOf (l : Launch) (G : m_G) (w w' : mW) (h : Nat) (p0 : Int32) (r : Int32) (hd : e_X2_stampOf w h p0 = some (r, w')) : Met l yX2_stampOf wsX2_stampOf ({ frames := 1, cells := 0, slots := 0, locals := 20 } : Room) (m_Pc G w [.ref (h), .int (p0)]) (m_Qi G r w') 0 0 (fun q => G.1 ≤ q) := by
  refine Met.ofW (cc := cX2_stampOf) (maxL := 2) (ret := (some .int)) (by decide +kernel) rfl ?_
  intro p e s m args below meth c s₁ B hml hv
  obtain ⟨rfl, hM, hP⟩ := hv
  have hx := B.exec
  have hb := B.bytes
  have hr := B.returns
  have hts := atoms_spec (ws := wsX2_stampOf) B.pre
  have hown : s.vm.findClass RX2 = some m.cls := findClass_of_methodNamed B.named
  have hlocks := B.notSynchronized
  have hin5 : ∀ w ∈ u_ws RX2 TX2 2, w ∈ wsX2_stampOf := by decide +kernel
  have hS : va_S (fun q => G.1 ≤ q) s.heap s.heap [] := va_S.rf
  have J17 : ∀ (w : mW) (s0 : Int32) (H : Heap) (locs : List Loc) (ls : Array Slot), e_X2_stampOf_17 w s0 = some (r, w') → mP G w H → va_S (fun q => G.1 ≤ q) s.heap H locs → lv_has ls 2 [] → W p l e ({ frames := 1, cells := 0, slots := 0, locals := 20 } : Room) s m ([.ref (h), .int (p0)] : List Value).toArray below meth c H locs 0 0 (MQ below (m_Qi G r w') ([.ref (h), .int (p0)] : List Value).toArray s 0 0 (fun q => G.1 ≤ q)) (F0 m 17 ls [.int (s0)]) := by
    intro w s0 H locs ls hd hP hS hl
    obtain ⟨e1, e2⟩ := m_s_e hd
    refine W.widen (k := 0) (n := 0) (Nat.le_of_ble_eq_true rfl) (Nat.le_of_ble_eq_true rfl) ?_
    exact W.iret hx hb hr (fun t ht hW => ⟨⟨_, w, rfl, ⟨e1, e2⟩, by show mP _ _ t.heap; rw [ht]; exact hP⟩, hS.F ht⟩) hS.2.2 dX2_stampOf_17
  have hl := lv_entry ([.ref (h), .int (p0)]) (n := 2) (Nat.le_of_ble_eq_true rfl)
  rw [lg_entry_eq]
  generalize (lg_sl ([.ref (h), .int (p0)]) ++ List.replicate (2 - (lg_sl ([.ref (h), .int (p0)])).length) Slot.unset).toArray = ls at hl ⊢
  have hl : lv_has ls 2 [(0, .ref (h)), (1, .int (p0))] := hl
  refine lv_iload_n hx hb dX2_stampOf_0 rfl (lv_at hl 1 rfl) ?_
  obtain ⟨r1, w2, hc3, hd⟩ := m_b_e hd
  refine m_calli (k := 0) (n := 0) (va_runSN (As := [.int (p0)]) (rest := []) ⟨hx, hb, hml, hown, hts⟩ (c_X6_isName l G w w2 p0 r1 hc3) ⟨va_cnB (host := RX6) 1 hts gX2_stampOf_X6_isName_n18 rfl rfl rfl (hM.2.1.2.2.2.2.2.2.2 (RX2, 18, yX6_isName) (by decide +kernel)) (hts (.initialized RX6) (by decide +kernel)) (by decide +kernel) ⟨(Nat.le_of_ble_eq_true rfl), (Nat.le_of_ble_eq_true rfl)⟩, (hts (.static yX6_isName) (by decide +kernel)), trivial⟩ (m_preS hM hP hS) rfl rfl hl.1 rfl (lv_room (Nat.le_of_ble_eq_true rfl)) dX2_stampOf_1 ⟨(Nat.le_of_ble_eq_true rfl), (Nat.le_of_ble_eq_true rfl)⟩) hS ⟨(Nat.le_of_ble_eq_true rfl), (Nat.le_of_ble_eq_true rfl)⟩ (fun H locs hP hS => ?_)
  refine lv_if_eq (tgt := 16) hx hb dX2_stampOf_4 (by decide) (fun c4 => ?_) (fun c4 => ?_)
  · have hd := m_i_t c4 hd
    refine lv_iconst (v := 0) hx hb dX2_stampOf_16 (by decide) ?_
    refine W.widen (k := 0) (n := 0) (Nat.le_of_ble_eq_true rfl) (Nat.le_of_ble_eq_true rfl) ?_
    exact J17 w2 0 _ _ _ hd hP hS (lv_sub hl [] rfl)
  · have hd := m_i_f c4 hd
    refine lv_aload_n hx hb dX2_stampOf_7 rfl (lv_at hl 0 rfl) ?_
    obtain ⟨hk5, hd⟩ := m_g_e hd
    obtain ⟨r6, hr6, hd⟩ := m_o_e hd
    refine m_getR (C := RX2) (T := TX2) (N := 2) (own := RX2) (ref := RX2) hx hb hts hin5 hown hM.1 hP 5 rfl 1 (r := r6) ⟨hk5, hr6⟩ (by decide) (hts (.fieldLink RX2 15 "CellNotebook$Names" "stamps" "[I") (by decide +kernel)) (fun _ h9 => h9) dX2_stampOf_8 ?_
    refine lv_iload_n hx hb dX2_stampOf_11 rfl (lv_at hl 1 rfl) ?_
    obtain ⟨hg7, hd⟩ := m_g_e hd
    refine m_iald hx hb hM.1 hP hg7 dX2_stampOf_12 ?_
    refine lv_goto (tgt := 17) hx hb dX2_stampOf_13 (by decide) ?_
    refine W.widen (k := 0) (n := 0) (Nat.le_of_ble_eq_true rfl) (Nat.le_of_ble_eq_true rfl) ?_
    exact J17 w2 (m_ia w2 r6 p0.toNatClampNeg) _ _ _ hd hP hS (lv_sub hl [] rfl)


noncomputable def e_X2_assign_21 (w : mW)  : Option (Unit × mW) := some ((), w)
noncomputable def e_X2_assign (w : mW) (h : Nat) (p0 : Int32) (p1 : Int32) (p2 : Int32) : Option (Unit × mW) := m_b (e_X6_isName w p0) fun r1 w2 => if r1 = (0 : Int32) then (e_X2_assign_21 w2) else (m_g (m_kd w2 h = 6) <| m_o (m_fr w2 5 0 h) fun r6 => m_g (m_kd w2 r6 = 21 ∧ ¬ (p0 < 0 ∨ m_ln w2 r6 ≤ p0.toNatClampNeg)) <| m_l (m_sA w2 r6 (p0.toNatClampNeg) p1) fun w8 => m_o (m_fr w8 5 1 h) fun r9 => m_g (m_kd w8 r9 = 21 ∧ ¬ (p0 < 0 ∨ m_ln w8 r9 ≤ p0.toNatClampNeg)) <| m_l (m_sA w8 r9 (p0.toNatClampNeg) p2) fun w11 => e_X2_assign_21 w11)
set_option maxHeartbeats 1000000 in
set_option maxRecDepth 100000 in
theorem c_X2_assign (l : Launch) (G : m_G) (w w' : mW) (h : Nat) (p0 : Int32) (p1 : Int32) (p2 : Int32) (r : Unit) (hd : e_X2_assign w h p0 p1 p2 = some (r, w')) : Met l yX2_assign wsX2_assign ({ frames := 1, cells := 0, slots := 0, locals := 20 } : Room) (m_Pc G w [.ref (h), .int (p0), .int (p1), .int (p2)]) (m_Qv G r w') 0 0 (fun q => G.1 ≤ q) := by
  refine Met.ofW (cc := cX2_assign) (maxL := 4) (ret := none) (by decide +kernel) rfl ?_
  intro p e s m args below meth c s₁ B hml hv
  obtain ⟨rfl, hM, hP⟩ := hv
  have hx := B.exec
  have hb := B.bytes
  have hr := B.returns
  have hts := atoms_spec (ws := wsX2_assign) B.pre
  have hown : s.vm.findClass RX2 = some m.cls := findClass_of_methodNamed B.named
  have hlocks := B.notSynchronized
  have hin5 : ∀ w ∈ u_ws RX2 TX2 2, w ∈ wsX2_assign := by decide +kernel
  have hS : va_S (fun q => G.1 ≤ q) s.heap s.heap [] := va_S.rf
  have J21 : ∀ (w : mW) (H : Heap) (locs : List Loc) (ls : Array Slot), e_X2_assign_21 w = some (r, w') → mP G w H → va_S (fun q => G.1 ≤ q) s.heap H locs → lv_has ls 4 [] → W p l e ({ frames := 1, cells := 0, slots := 0, locals := 20 } : Room) s m ([.ref (h), .int (p0), .int (p1), .int (p2)] : List Value).toArray below meth c H locs 0 0 (MQ below (m_Qv G r w') ([.ref (h), .int (p0), .int (p1), .int (p2)] : List Value).toArray s 0 0 (fun q => G.1 ≤ q)) (F0 m 21 ls []) := by
    intro w H locs ls hd hP hS hl
    obtain ⟨e1, e2⟩ := m_s_e hd
    refine W.widen (k := 0) (n := 0) (Nat.le_of_ble_eq_true rfl) (Nat.le_of_ble_eq_true rfl) ?_
    exact W.vret hx hb hr (fun t ht hW => ⟨⟨w, rfl, e2, by show mP _ _ t.heap; rw [ht]; exact hP⟩, hS.F ht⟩) hS.2.2 dX2_assign_21
  have hl := lv_entry ([.ref (h), .int (p0), .int (p1), .int (p2)]) (n := 4) (Nat.le_of_ble_eq_true rfl)
  rw [lg_entry_eq]
  generalize (lg_sl ([.ref (h), .int (p0), .int (p1), .int (p2)]) ++ List.replicate (4 - (lg_sl ([.ref (h), .int (p0), .int (p1), .int (p2)])).length) Slot.unset).toArray = ls at hl ⊢
  have hl : lv_has ls 4 [(0, .ref (h)), (1, .int (p0)), (2, .int (p1)), (3, .int (p2))] := hl
  refine lv_iload_n hx hb dX2_assign_0 rfl (lv_at hl 1 rfl) ?_
  obtain ⟨r1, w2, hc3, hd⟩ := m_b_e hd
  refine m_calli (k := 0) (n := 0) (va_runSN (As := [.int (p0)]) (rest := []) ⟨hx, hb, hml, hown, hts⟩ (c_X6_isName l G w w2 p0 r1 hc3) ⟨va_cnB (host := RX6) 1 hts gX2_assign_X6_isName_n18 rfl rfl rfl (hM.2.1.2.2.2.2.2.2.2 (RX2, 18, yX6_isName) (by decide +kernel)) (hts (.initialized RX6) (by decide +kernel)) (by decide +kernel) ⟨(Nat.le_of_ble_eq_true rfl), (Nat.le_of_ble_eq_true rfl)⟩, (hts (.static yX6_isName) (by decide +kernel)), trivial⟩ (m_preS hM hP hS) rfl rfl hl.1 rfl (lv_room (Nat.le_of_ble_eq_true rfl)) dX2_assign_1 ⟨(Nat.le_of_ble_eq_true rfl), (Nat.le_of_ble_eq_true rfl)⟩) hS ⟨(Nat.le_of_ble_eq_true rfl), (Nat.le_of_ble_eq_true rfl)⟩ (fun H locs hP hS => ?_)
  refine lv_if_eq (tgt := 21) hx hb dX2_assign_4 (by decide) (fun c4 => ?_) (fun c4 => ?_)
  · have hd := m_i_t c4 hd
    refine W.widen (k := 0) (n := 0) (Nat.le_of_ble_eq_true rfl) (Nat.le_of_ble_eq_true rfl) ?_
    exact J21 w2 _ _ _ hd hP hS (lv_sub hl [] rfl)
  · have hd := m_i_f c4 hd
    refine lv_aload_n hx hb dX2_assign_7 rfl (lv_at hl 0 rfl) ?_
    obtain ⟨hk5, hd⟩ := m_g_e hd
    obtain ⟨r6, hr6, hd⟩ := m_o_e hd
    refine m_getR (C := RX2) (T := TX2) (N := 2) (own := RX2) (ref := RX2) hx hb hts hin5 hown hM.1 hP 5 rfl 0 (r := r6) ⟨hk5, hr6⟩ (by decide) (hts (.fieldLink RX2 9 "CellNotebook$Names" "values" "[I") (by decide +kernel)) (fun _ h9 => h9) dX2_assign_8 ?_
    refine lv_iload_n hx hb dX2_assign_11 rfl (lv_at hl 1 rfl) ?_
    refine lv_iload_n hx hb dX2_assign_12 rfl (lv_at hl 2 rfl) ?_
    obtain ⟨hg7, hd⟩ := m_g_e hd
    refine m_iast hx hb hM.1 hP hS hg7 dX2_assign_13 (fun H locs hP hS => ?_)
    obtain ⟨w8, ew, hd⟩ := m_l_e hd
    have hP : mP G w8 H := by rw [ew]; exact hP
    have hk5 : m_kd w8 h = 6 := by rw [ew]; exact hk5
    refine lv_aload_n hx hb dX2_assign_14 rfl (lv_at hl 0 rfl) ?_
    obtain ⟨r9, hr9, hd⟩ := m_o_e hd
    refine m_getR (C := RX2) (T := TX2) (N := 2) (own := RX2) (ref := RX2) hx hb hts hin5 hown hM.1 hP 5 rfl 1 (r := r9) ⟨hk5, hr9⟩ (by decide) (hts (.fieldLink RX2 15 "CellNotebook$Names" "stamps" "[I") (by decide +kernel)) (fun _ h9 => h9) dX2_assign_15 ?_
    refine lv_iload_n hx hb dX2_assign_18 rfl (lv_at hl 1 rfl) ?_
    refine lv_iload_n hx hb dX2_assign_19 rfl (lv_at hl 3 rfl) ?_
    obtain ⟨hg10, hd⟩ := m_g_e hd
    refine m_iast hx hb hM.1 hP hS hg10 dX2_assign_20 (fun H locs hP hS => ?_)
    obtain ⟨w11, ew, hd⟩ := m_l_e hd
    have hP : mP G w11 H := by rw [ew]; exact hP
    have hk5 : m_kd w11 h = 6 := by rw [ew]; exact hk5
    refine W.widen (k := 0) (n := 0) (Nat.le_of_ble_eq_true rfl) (Nat.le_of_ble_eq_true rfl) ?_
    exact J21 w11 _ _ _ hd hP hS (lv_sub hl [] rfl)


noncomputable def e_X2_becomeLike_2_b (k2 : mW → Nat → Nat → Int32 → Option (Unit × mW)) (w : mW) (x0 : Nat) (x1 : Nat) (x2 : Int32) : Option (Unit × mW) := if 8 ≤ x2 then (some ((), w)) else (m_g (m_kd w x1 = 6) <| m_b (e_X2_valueOf w x1 x2) fun r103 w104 => m_g (m_kd w104 x1 = 6) <| m_b (e_X2_stampOf w104 x1 x2) fun r107 w108 => m_g (m_kd w108 x0 = 6) <| m_b (e_X2_assign w108 x0 x2 r103 r107) fun r111 w112 => k2 w112 x0 x1 (x2 + 1))
noncomputable def e_X2_becomeLike_2 (n : Nat) : mW → Nat → Nat → Int32 → Option (Unit × mW) := Nat.rec (motive := fun _ => mW → Nat → Nat → Int32 → Option (Unit × mW)) (fun _ _ _ _ => none) (fun _ k => e_X2_becomeLike_2_b  k) n
noncomputable def e_X2_becomeLike (w : mW) (h : Nat) (p0 : Nat) : Option (Unit × mW) := e_X2_becomeLike_2 m_N w h p0 0
set_option maxHeartbeats 1000000 in
set_option maxRecDepth 100000 in
theorem c_X2_becomeLike (l : Launch) (G : m_G) (w w' : mW) (h : Nat) (p0 : Nat) (r : Unit) (hd : e_X2_becomeLike w h p0 = some (r, w')) : Met l yX2_becomeLike wsX2_becomeLike ({ frames := 2, cells := 0, slots := 0, locals := 43 } : Room) (m_Pc G w [.ref (h), .ref (p0)]) (m_Qv G r w') 0 0 (fun q => G.1 ≤ q) := by
  refine Met.ofW (cc := cX2_becomeLike) (maxL := 3) (ret := none) (by decide +kernel) rfl ?_
  intro p e s m args below meth c s₁ B hml hv
  obtain ⟨rfl, hM, hP⟩ := hv
  have hx := B.exec
  have hb := B.bytes
  have hr := B.returns
  have hts := atoms_spec (ws := wsX2_becomeLike) B.pre
  have hown : s.vm.findClass RX2 = some m.cls := findClass_of_methodNamed B.named
  have hlocks := B.notSynchronized
  have hS : va_S (fun q => G.1 ≤ q) s.heap s.heap [] := va_S.rf
  have J2 : ∀ (n2 : Nat) (w : mW) (x0 : Nat) (x1 : Nat) (x2 : Int32) (H : Heap) (locs : List Loc) (ls : Array Slot), e_X2_becomeLike_2 n2 w x0 x1 x2 = some (r, w') → mP G w H → va_S (fun q => G.1 ≤ q) s.heap H locs → lv_has ls 3 [(0, .ref (x0)), (1, .ref (x1)), (2, .int (x2))] → W p l e ({ frames := 2, cells := 0, slots := 0, locals := 43 } : Room) s m ([.ref (h), .ref (p0)] : List Value).toArray below meth c H locs 0 0 (MQ below (m_Qv G r w') ([.ref (h), .ref (p0)] : List Value).toArray s 0 0 (fun q => G.1 ≤ q)) (F0 m 2 ls []) := by
    intro n2
    induction n2 with
    | zero => intro w x0 x1 x2 H locs ls hd; exact absurd (show (none : Option (Unit × mW)) = some _ from hd) (fun h => nomatch h)
    | succ n2 ih2 =>
      intro w x0 x1 x2 H locs ls hd hP hS hl
      have hd : e_X2_becomeLike_2_b (e_X2_becomeLike_2 n2) w x0 x1 x2 = some (r, w') := hd
      refine lv_iload_n hx hb dX2_becomeLike_2 rfl (lv_at hl 2 rfl) ?_
      refine lv_bipush (v := 8) hx hb dX2_becomeLike_3 (by decide) ?_
      refine lv_icmp_ge (tgt := 29) hx hb dX2_becomeLike_5 (by decide) (fun c101 => ?_) (fun c101 => ?_)
      · have hd := m_i_t c101 hd
        obtain ⟨e1, e2⟩ := m_s_e hd
        refine W.widen (k := 0) (n := 0) (Nat.le_of_ble_eq_true rfl) (Nat.le_of_ble_eq_true rfl) ?_
        exact W.vret hx hb hr (fun t ht hW => ⟨⟨w, rfl, e2, by show mP _ _ t.heap; rw [ht]; exact hP⟩, hS.F ht⟩) hS.2.2 dX2_becomeLike_29
      · have hd := m_i_f c101 hd
        refine lv_aload_n hx hb dX2_becomeLike_8 rfl (lv_at hl 0 rfl) ?_
        refine lv_iload_n hx hb dX2_becomeLike_9 rfl (lv_at hl 2 rfl) ?_
        refine lv_aload_n hx hb dX2_becomeLike_10 rfl (lv_at hl 1 rfl) ?_
        refine lv_iload_n hx hb dX2_becomeLike_11 rfl (lv_at hl 2 rfl) ?_
        obtain ⟨hk102, hd⟩ := m_g_e hd
        obtain ⟨r103, w104, hc105, hd⟩ := m_b_e hd
        refine m_calli (k := 0) (n := 0) (va_runV (As := [.int (x2)]) (rest := [.int (x2), .ref (x0)]) ⟨hx, hb, hml, hown, hts⟩ (c_X2_valueOf l G w w104 x1 x2 r103 hc105) (cwV 1 hts gX2_becomeLike_X2_valueOf rfl rfl rfl (by decide +kernel) ⟨(Nat.le_of_ble_eq_true rfl), (Nat.le_of_ble_eq_true rfl)⟩) (m_preV (C := RX2) (T := TX2) (N := 2) hM hP hS rfl (by decide) hk102) rfl rfl hl.1 rfl (lv_room (Nat.le_of_ble_eq_true rfl)) dX2_becomeLike_12 ⟨(Nat.le_of_ble_eq_true rfl), (Nat.le_of_ble_eq_true rfl)⟩) hS ⟨(Nat.le_of_ble_eq_true rfl), (Nat.le_of_ble_eq_true rfl)⟩ (fun H locs hP hS => ?_)
        refine lv_aload_n hx hb dX2_becomeLike_15 rfl (lv_at hl 1 rfl) ?_
        refine lv_iload_n hx hb dX2_becomeLike_16 rfl (lv_at hl 2 rfl) ?_
        obtain ⟨hk106, hd⟩ := m_g_e hd
        obtain ⟨r107, w108, hc109, hd⟩ := m_b_e hd
        refine m_calli (k := 0) (n := 0) (va_runV (As := [.int (x2)]) (rest := [.int (r103), .int (x2), .ref (x0)]) ⟨hx, hb, hml, hown, hts⟩ (c_X2_stampOf l G w104 w108 x1 x2 r107 hc109) (cwV 1 hts gX2_becomeLike_X2_stampOf rfl rfl rfl (by decide +kernel) ⟨(Nat.le_of_ble_eq_true rfl), (Nat.le_of_ble_eq_true rfl)⟩) (m_preV (C := RX2) (T := TX2) (N := 2) hM hP hS rfl (by decide) hk106) rfl rfl hl.1 rfl (lv_room (Nat.le_of_ble_eq_true rfl)) dX2_becomeLike_17 ⟨(Nat.le_of_ble_eq_true rfl), (Nat.le_of_ble_eq_true rfl)⟩) hS ⟨(Nat.le_of_ble_eq_true rfl), (Nat.le_of_ble_eq_true rfl)⟩ (fun H locs hP hS => ?_)
        obtain ⟨hk110, hd⟩ := m_g_e hd
        obtain ⟨r111, w112, hc113, hd⟩ := m_b_e hd
        refine m_callv (k := 0) (n := 0) (va_runV (As := [.int (x2), .int (r103), .int (r107)]) (rest := []) ⟨hx, hb, hml, hown, hts⟩ (c_X2_assign l G w108 w112 x0 x2 r103 r107 r111 hc113) (cwV 3 hts gX2_becomeLike_X2_assign rfl rfl rfl (by decide +kernel) ⟨(Nat.le_of_ble_eq_true rfl), (Nat.le_of_ble_eq_true rfl)⟩) (m_preV (C := RX2) (T := TX2) (N := 2) hM hP hS rfl (by decide) hk110) rfl rfl hl.1 rfl (lv_room (Nat.le_of_ble_eq_true rfl)) dX2_becomeLike_20 ⟨(Nat.le_of_ble_eq_true rfl), (Nat.le_of_ble_eq_true rfl)⟩) hS ⟨(Nat.le_of_ble_eq_true rfl), (Nat.le_of_ble_eq_true rfl)⟩ (fun H locs hP hS => ?_)
        refine lv_iinc (v := x2 + 1) (lv' := [(2, .int (x2 + 1)), (0, .ref (x0)), (1, .ref (x1))]) hx hb dX2_becomeLike_23 hl (k := 2) rfl rfl (by decide) rfl (fun ls hl => ?_)
        refine lv_goto (tgt := 2) hx hb dX2_becomeLike_26 (by decide) ?_
        refine W.widen (k := 0) (n := 0) (Nat.le_of_ble_eq_true rfl) (Nat.le_of_ble_eq_true rfl) ?_
        exact ih2 w112 x0 x1 (x2 + 1) _ _ _ hd hP hS (lv_sub hl [1, 2, 0] rfl)
  have hl := lv_entry ([.ref (h), .ref (p0)]) (n := 3) (Nat.le_of_ble_eq_true rfl)
  rw [lg_entry_eq]
  generalize (lg_sl ([.ref (h), .ref (p0)]) ++ List.replicate (3 - (lg_sl ([.ref (h), .ref (p0)])).length) Slot.unset).toArray = ls at hl ⊢
  have hl : lv_has ls 3 [(0, .ref (h)), (1, .ref (p0))] := hl
  refine lv_iconst (v := 0) hx hb dX2_becomeLike_0 (by decide) ?_
  refine lv_istore_n (lv' := [(2, .int (0)), (0, .ref (h)), (1, .ref (p0))]) hx hb dX2_becomeLike_1 rfl hl (by decide) rfl (fun ls hl => ?_)
  refine W.widen (k := 0) (n := 0) (Nat.le_of_ble_eq_true rfl) (Nat.le_of_ble_eq_true rfl) ?_
  exact J2 m_N w h p0 0 _ _ _ hd hP hS (lv_sub hl [1, 2, 0] rfl)


noncomputable def e_X0_begin_35_b (k35 : mW → Nat → Int32 → Option (Unit × mW)) (w : mW) (x0 : Nat) (x2 : Int32) : Option (Unit × mW) := if 8 ≤ x2 then (some ((), w)) else (m_g (m_kd w x0 = 4) <| m_o (m_fr w 3 6 x0) fun r116 => m_g (m_kd w r116 = 21 ∧ ¬ (x2 < 0 ∨ m_ln w r116 ≤ x2.toNatClampNeg)) <| m_l (m_sA w r116 (x2.toNatClampNeg) 0) fun w118 => k35 w118 x0 (x2 + 1))
noncomputable def e_X0_begin_35 (n : Nat) : mW → Nat → Int32 → Option (Unit × mW) := Nat.rec (motive := fun _ => mW → Nat → Int32 → Option (Unit × mW)) (fun _ _ _ => none) (fun _ k => e_X0_begin_35_b  k) n
noncomputable def e_X0_begin (w : mW) (h : Nat) (p0 : Nat) : Option (Unit × mW) := m_g (m_kd w h = 4) <| m_g (vp_nar .boolean 0 = 0) <| m_l (m_sI w 3 0 h 0) fun w3 => m_g (vp_nar .boolean 0 = 0) <| m_l (m_sI w3 3 1 h 0) fun w5 => m_l (m_sI w5 3 2 h 0) fun w6 => m_l (m_sI w6 3 3 h 0) fun w7 => m_l (m_sI w7 3 4 h 0) fun w8 => m_o (m_fr w8 3 5 h) fun r9 => m_g (m_kd w8 r9 = 6) <| m_b (e_X2_becomeLike w8 r9 p0) fun r11 w12 => e_X0_begin_35 m_N w12 h 0
set_option maxHeartbeats 1000000 in
set_option maxRecDepth 100000 in
theorem c_X0_begin (l : Launch) (G : m_G) (w w' : mW) (h : Nat) (p0 : Nat) (r : Unit) (hd : e_X0_begin w h p0 = some (r, w')) : Met l yX0_begin wsX0_begin ({ frames := 3, cells := 0, slots := 0, locals := 65 } : Room) (m_Pc G w [.ref (h), .ref (p0)]) (m_Qv G r w') 0 0 (fun q => G.1 ≤ q) := by
  refine Met.ofW (cc := cX0_begin) (maxL := 3) (ret := none) (by decide +kernel) rfl ?_
  intro p e s m args below meth c s₁ B hml hv
  obtain ⟨rfl, hM, hP⟩ := hv
  have hx := B.exec
  have hb := B.bytes
  have hr := B.returns
  have hts := atoms_spec (ws := wsX0_begin) B.pre
  have hown : s.vm.findClass RX0 = some m.cls := findClass_of_methodNamed B.named
  have hlocks := B.notSynchronized
  have hin3 : ∀ w ∈ u_ws RX0 TX0 7, w ∈ wsX0_begin := by decide +kernel
  have hS : va_S (fun q => G.1 ≤ q) s.heap s.heap [] := va_S.rf
  have J35 : ∀ (n35 : Nat) (w : mW) (x0 : Nat) (x2 : Int32) (H : Heap) (locs : List Loc) (ls : Array Slot), e_X0_begin_35 n35 w x0 x2 = some (r, w') → mP G w H → va_S (fun q => G.1 ≤ q) s.heap H locs → lv_has ls 3 [(0, .ref (x0)), (2, .int (x2))] → W p l e ({ frames := 3, cells := 0, slots := 0, locals := 65 } : Room) s m ([.ref (h), .ref (p0)] : List Value).toArray below meth c H locs 0 0 (MQ below (m_Qv G r w') ([.ref (h), .ref (p0)] : List Value).toArray s 0 0 (fun q => G.1 ≤ q)) (F0 m 35 ls []) := by
    intro n35
    induction n35 with
    | zero => intro w x0 x2 H locs ls hd; exact absurd (show (none : Option (Unit × mW)) = some _ from hd) (fun h => nomatch h)
    | succ n35 ih35 =>
      intro w x0 x2 H locs ls hd hP hS hl
      have hd : e_X0_begin_35_b (e_X0_begin_35 n35) w x0 x2 = some (r, w') := hd
      refine lv_iload_n hx hb dX0_begin_35 rfl (lv_at hl 1 rfl) ?_
      refine lv_bipush (v := 8) hx hb dX0_begin_36 (by decide) ?_
      refine lv_icmp_ge (tgt := 54) hx hb dX0_begin_38 (by decide) (fun c114 => ?_) (fun c114 => ?_)
      · have hd := m_i_t c114 hd
        obtain ⟨e1, e2⟩ := m_s_e hd
        refine W.widen (k := 0) (n := 0) (Nat.le_of_ble_eq_true rfl) (Nat.le_of_ble_eq_true rfl) ?_
        exact W.vret hx hb hr (fun t ht hW => ⟨⟨w, rfl, e2, by show mP _ _ t.heap; rw [ht]; exact hP⟩, hS.F ht⟩) hS.2.2 dX0_begin_54
      · have hd := m_i_f c114 hd
        refine lv_aload_n hx hb dX0_begin_41 rfl (lv_at hl 0 rfl) ?_
        obtain ⟨hk115, hd⟩ := m_g_e hd
        obtain ⟨r116, hr116, hd⟩ := m_o_e hd
        refine m_getR (C := RX0) (T := TX0) (N := 7) (own := RX0) (ref := RX0) hx hb hts hin3 hown hM.1 hP 3 rfl 6 (r := r116) ⟨hk115, hr116⟩ (by decide) (hts (.fieldLink RX0 18 "CellNotebook$Attempt" "stampsSeen" "[I") (by decide +kernel)) (fun _ h9 => h9) dX0_begin_42 ?_
        refine lv_iload_n hx hb dX0_begin_45 rfl (lv_at hl 1 rfl) ?_
        refine lv_iconst (v := 0) hx hb dX0_begin_46 (by decide) ?_
        obtain ⟨hg117, hd⟩ := m_g_e hd
        refine m_iast hx hb hM.1 hP hS hg117 dX0_begin_47 (fun H locs hP hS => ?_)
        obtain ⟨w118, ew, hd⟩ := m_l_e hd
        have hP : mP G w118 H := by rw [ew]; exact hP
        have hk115 : m_kd w118 x0 = 4 := by rw [ew]; exact hk115
        refine lv_iinc (v := x2 + 1) (lv' := [(2, .int (x2 + 1)), (0, .ref (x0))]) hx hb dX0_begin_48 hl (k := 1) rfl rfl (by decide) rfl (fun ls hl => ?_)
        refine lv_goto (tgt := 35) hx hb dX0_begin_51 (by decide) ?_
        refine W.widen (k := 0) (n := 0) (Nat.le_of_ble_eq_true rfl) (Nat.le_of_ble_eq_true rfl) ?_
        exact ih35 w118 x0 (x2 + 1) _ _ _ hd hP hS (lv_sub hl [1, 0] rfl)
  have hl := lv_entry ([.ref (h), .ref (p0)]) (n := 3) (Nat.le_of_ble_eq_true rfl)
  rw [lg_entry_eq]
  generalize (lg_sl ([.ref (h), .ref (p0)]) ++ List.replicate (3 - (lg_sl ([.ref (h), .ref (p0)])).length) Slot.unset).toArray = ls at hl ⊢
  have hl : lv_has ls 3 [(0, .ref (h)), (1, .ref (p0))] := hl
  refine lv_aload_n hx hb dX0_begin_0 rfl (lv_at hl 0 rfl) ?_
  refine lv_iconst (v := 0) hx hb dX0_begin_1 (by decide) ?_
  obtain ⟨hk1, hd⟩ := m_g_e hd
  obtain ⟨hn2, hd⟩ := m_g_e hd
  refine m_putI (C := RX0) (T := TX0) (N := 7) (own := RX0) (ref := RX0) hx hb hts hin3 tyX0 tyX0_ok nmX0 hown hM.1 hP hS 3 rfl 0 hk1 (by decide) (hts (.fieldLink RX0 32 "CellNotebook$Attempt" "failed" "Z") (by decide +kernel)) (fun _ h9 => h9) (Or.inl rfl) (ty := .boolean) rfl (m_narZ hn2) dX0_begin_2 (fun H locs hP hS => ?_)
  obtain ⟨w3, ew, hd⟩ := m_l_e hd
  have hP : mP G w3 H := by rw [ew]; exact hP
  have hk1 : m_kd w3 h = 4 := by rw [ew]; exact hk1
  refine lv_aload_n hx hb dX0_begin_5 rfl (lv_at hl 0 rfl) ?_
  refine lv_iconst (v := 0) hx hb dX0_begin_6 (by decide) ?_
  obtain ⟨hn4, hd⟩ := m_g_e hd
  refine m_putI (C := RX0) (T := TX0) (N := 7) (own := RX0) (ref := RX0) hx hb hts hin3 tyX0 tyX0_ok nmX0 hown hM.1 hP hS 3 rfl 1 hk1 (by decide) (hts (.fieldLink RX0 46 "CellNotebook$Attempt" "hasOutcome" "Z") (by decide +kernel)) (fun _ h9 => h9) (Or.inl rfl) (ty := .boolean) rfl (m_narZ hn4) dX0_begin_7 (fun H locs hP hS => ?_)
  obtain ⟨w5, ew, hd⟩ := m_l_e hd
  have hP : mP G w5 H := by rw [ew]; exact hP
  have hk1 : m_kd w5 h = 4 := by rw [ew]; exact hk1
  refine lv_aload_n hx hb dX0_begin_10 rfl (lv_at hl 0 rfl) ?_
  refine lv_iconst (v := 0) hx hb dX0_begin_11 (by decide) ?_
  refine m_putI (C := RX0) (T := TX0) (N := 7) (own := RX0) (ref := RX0) hx hb hts hin3 tyX0 tyX0_ok nmX0 hown hM.1 hP hS 3 rfl 2 hk1 (by decide) (hts (.fieldLink RX0 56 "CellNotebook$Attempt" "outcome" "I") (by decide +kernel)) (fun _ h9 => h9) (Or.inl rfl) (ty := .int) rfl ⟨rfl, rfl⟩ dX0_begin_12 (fun H locs hP hS => ?_)
  obtain ⟨w6, ew, hd⟩ := m_l_e hd
  have hP : mP G w6 H := by rw [ew]; exact hP
  have hk1 : m_kd w6 h = 4 := by rw [ew]; exact hk1
  refine lv_aload_n hx hb dX0_begin_15 rfl (lv_at hl 0 rfl) ?_
  refine lv_iconst (v := 0) hx hb dX0_begin_16 (by decide) ?_
  refine m_putI (C := RX0) (T := TX0) (N := 7) (own := RX0) (ref := RX0) hx hb hts hin3 tyX0 tyX0_ok nmX0 hown hM.1 hP hS 3 rfl 3 hk1 (by decide) (hts (.fieldLink RX0 60 "CellNotebook$Attempt" "namesSeen" "I") (by decide +kernel)) (fun _ h9 => h9) (Or.inl rfl) (ty := .int) rfl ⟨rfl, rfl⟩ dX0_begin_17 (fun H locs hP hS => ?_)
  obtain ⟨w7, ew, hd⟩ := m_l_e hd
  have hP : mP G w7 H := by rw [ew]; exact hP
  have hk1 : m_kd w7 h = 4 := by rw [ew]; exact hk1
  refine lv_aload_n hx hb dX0_begin_20 rfl (lv_at hl 0 rfl) ?_
  refine lv_iconst (v := 0) hx hb dX0_begin_21 (by decide) ?_
  refine m_putI (C := RX0) (T := TX0) (N := 7) (own := RX0) (ref := RX0) hx hb hts hin3 tyX0 tyX0_ok nmX0 hown hM.1 hP hS 3 rfl 4 hk1 (by decide) (hts (.fieldLink RX0 63 "CellNotebook$Attempt" "namesSet" "I") (by decide +kernel)) (fun _ h9 => h9) (Or.inl rfl) (ty := .int) rfl ⟨rfl, rfl⟩ dX0_begin_22 (fun H locs hP hS => ?_)
  obtain ⟨w8, ew, hd⟩ := m_l_e hd
  have hP : mP G w8 H := by rw [ew]; exact hP
  have hk1 : m_kd w8 h = 4 := by rw [ew]; exact hk1
  refine lv_aload_n hx hb dX0_begin_25 rfl (lv_at hl 0 rfl) ?_
  obtain ⟨r9, hr9, hd⟩ := m_o_e hd
  refine m_getR (C := RX0) (T := TX0) (N := 7) (own := RX0) (ref := RX0) hx hb hts hin3 hown hM.1 hP 3 rfl 5 (r := r9) ⟨hk1, hr9⟩ (by decide) (hts (.fieldLink RX0 12 "CellNotebook$Attempt" "names" "LCellNotebook$Names;") (by decide +kernel)) (fun _ h9 => h9) dX0_begin_26 ?_
  refine lv_aload_n hx hb dX0_begin_29 rfl (lv_at hl 1 rfl) ?_
  obtain ⟨hk10, hd⟩ := m_g_e hd
  obtain ⟨r11, w12, hc13, hd⟩ := m_b_e hd
  refine m_callv (k := 0) (n := 0) (va_runV (As := [.ref (p0)]) (rest := []) ⟨hx, hb, hml, hown, hts⟩ (c_X2_becomeLike l G w8 w12 r9 p0 r11 hc13) (cwV 1 hts gX0_begin_X2_becomeLike rfl rfl rfl (by decide +kernel) ⟨(Nat.le_of_ble_eq_true rfl), (Nat.le_of_ble_eq_true rfl)⟩) (m_preV (C := RX2) (T := TX2) (N := 2) hM hP hS rfl (by decide) hk10) rfl rfl hl.1 rfl (lv_room (Nat.le_of_ble_eq_true rfl)) dX0_begin_30 ⟨(Nat.le_of_ble_eq_true rfl), (Nat.le_of_ble_eq_true rfl)⟩) hS ⟨(Nat.le_of_ble_eq_true rfl), (Nat.le_of_ble_eq_true rfl)⟩ (fun H locs hP hS => ?_)
  refine lv_iconst (v := 0) hx hb dX0_begin_33 (by decide) ?_
  refine lv_istore_n (lv' := [(2, .int (0)), (0, .ref (h)), (1, .ref (p0))]) hx hb dX0_begin_34 rfl hl (by decide) rfl (fun ls hl => ?_)
  refine W.widen (k := 0) (n := 0) (Nat.le_of_ble_eq_true rfl) (Nat.le_of_ble_eq_true rfl) ?_
  exact J35 m_N w12 h 0 _ _ _ hd hP hS (lv_sub hl [1, 0] rfl)


noncomputable def e_X2_hold_21 (w : mW) (s0 : Int32) : Option (Int32 × mW) := m_g (vp_nar .boolean s0 = s0) <| some (s0, w)
noncomputable def e_X2_hold_20 (w : mW)  : Option (Int32 × mW) := e_X2_hold_21 w 0
noncomputable def e_X2_hold (w : mW) (h : Nat) (p0 : Int32) : Option (Int32 × mW) := m_b (e_X6_isName w p0) fun r1 w2 => if r1 = (0 : Int32) then (e_X2_hold_20 w2) else (m_g (m_kd w2 h = 6) <| m_o (m_fr w2 5 1 h) fun r6 => m_g (m_kd w2 r6 = 21 ∧ ¬ (p0 < 0 ∨ m_ln w2 r6 ≤ p0.toNatClampNeg)) <| if (m_ia w2 r6 p0.toNatClampNeg) = (0 : Int32) then (e_X2_hold_20 w2) else (e_X2_hold_21 w2 1))
set_option maxHeartbeats 1000000 in
set_option maxRecDepth 100000 in
theorem c_X2_hold (l : Launch) (G : m_G) (w w' : mW) (h : Nat) (p0 : Int32) (r : Int32) (hd : e_X2_hold w h p0 = some (r, w')) : Met l yX2_hold wsX2_hold ({ frames := 1, cells := 0, slots := 0, locals := 20 } : Room) (m_Pc G w [.ref (h), .int (p0)]) (m_Qi G r w') 0 0 (fun q => G.1 ≤ q) := by
  refine Met.ofW (cc := cX2_hold) (maxL := 2) (ret := (some .boolean)) (by decide +kernel) rfl ?_
  intro p e s m args below meth c s₁ B hml hv
  obtain ⟨rfl, hM, hP⟩ := hv
  have hx := B.exec
  have hb := B.bytes
  have hr := B.returns
  have hts := atoms_spec (ws := wsX2_hold) B.pre
  have hown : s.vm.findClass RX2 = some m.cls := findClass_of_methodNamed B.named
  have hlocks := B.notSynchronized
  have hin5 : ∀ w ∈ u_ws RX2 TX2 2, w ∈ wsX2_hold := by decide +kernel
  have hS : va_S (fun q => G.1 ≤ q) s.heap s.heap [] := va_S.rf
  have J21 : ∀ (w : mW) (s0 : Int32) (H : Heap) (locs : List Loc) (ls : Array Slot), e_X2_hold_21 w s0 = some (r, w') → mP G w H → va_S (fun q => G.1 ≤ q) s.heap H locs → lv_has ls 2 [] → W p l e ({ frames := 1, cells := 0, slots := 0, locals := 20 } : Room) s m ([.ref (h), .int (p0)] : List Value).toArray below meth c H locs 0 0 (MQ below (m_Qi G r w') ([.ref (h), .int (p0)] : List Value).toArray s 0 0 (fun q => G.1 ≤ q)) (F0 m 21 ls [.int (s0)]) := by
    intro w s0 H locs ls hd hP hS hl
    obtain ⟨hn209, hd⟩ := m_g_e hd
    obtain ⟨e1, e2⟩ := m_s_e hd
    refine W.widen (k := 0) (n := 0) (Nat.le_of_ble_eq_true rfl) (Nat.le_of_ble_eq_true rfl) ?_
    exact W.zret hx hb hr (m_narZ hn209).1 (fun t ht hW => ⟨⟨_, w, rfl, ⟨e1, e2⟩, by show mP _ _ t.heap; rw [ht]; exact hP⟩, hS.F ht⟩) hS.2.2 dX2_hold_21
  have J20 : ∀ (w : mW) (H : Heap) (locs : List Loc) (ls : Array Slot), e_X2_hold_20 w = some (r, w') → mP G w H → va_S (fun q => G.1 ≤ q) s.heap H locs → lv_has ls 2 [] → W p l e ({ frames := 1, cells := 0, slots := 0, locals := 20 } : Room) s m ([.ref (h), .int (p0)] : List Value).toArray below meth c H locs 0 0 (MQ below (m_Qi G r w') ([.ref (h), .int (p0)] : List Value).toArray s 0 0 (fun q => G.1 ≤ q)) (F0 m 20 ls []) := by
    intro w H locs ls hd hP hS hl
    refine lv_iconst (v := 0) hx hb dX2_hold_20 (by decide) ?_
    refine W.widen (k := 0) (n := 0) (Nat.le_of_ble_eq_true rfl) (Nat.le_of_ble_eq_true rfl) ?_
    exact J21 w 0 _ _ _ hd hP hS (lv_sub hl [] rfl)
  have hl := lv_entry ([.ref (h), .int (p0)]) (n := 2) (Nat.le_of_ble_eq_true rfl)
  rw [lg_entry_eq]
  generalize (lg_sl ([.ref (h), .int (p0)]) ++ List.replicate (2 - (lg_sl ([.ref (h), .int (p0)])).length) Slot.unset).toArray = ls at hl ⊢
  have hl : lv_has ls 2 [(0, .ref (h)), (1, .int (p0))] := hl
  refine lv_iload_n hx hb dX2_hold_0 rfl (lv_at hl 1 rfl) ?_
  obtain ⟨r1, w2, hc3, hd⟩ := m_b_e hd
  refine m_calli (k := 0) (n := 0) (va_runSN (As := [.int (p0)]) (rest := []) ⟨hx, hb, hml, hown, hts⟩ (c_X6_isName l G w w2 p0 r1 hc3) ⟨va_cnB (host := RX6) 1 hts gX2_hold_X6_isName_n18 rfl rfl rfl (hM.2.1.2.2.2.2.2.2.2 (RX2, 18, yX6_isName) (by decide +kernel)) (hts (.initialized RX6) (by decide +kernel)) (by decide +kernel) ⟨(Nat.le_of_ble_eq_true rfl), (Nat.le_of_ble_eq_true rfl)⟩, (hts (.static yX6_isName) (by decide +kernel)), trivial⟩ (m_preS hM hP hS) rfl rfl hl.1 rfl (lv_room (Nat.le_of_ble_eq_true rfl)) dX2_hold_1 ⟨(Nat.le_of_ble_eq_true rfl), (Nat.le_of_ble_eq_true rfl)⟩) hS ⟨(Nat.le_of_ble_eq_true rfl), (Nat.le_of_ble_eq_true rfl)⟩ (fun H locs hP hS => ?_)
  refine lv_if_eq (tgt := 20) hx hb dX2_hold_4 (by decide) (fun c4 => ?_) (fun c4 => ?_)
  · have hd := m_i_t c4 hd
    refine W.widen (k := 0) (n := 0) (Nat.le_of_ble_eq_true rfl) (Nat.le_of_ble_eq_true rfl) ?_
    exact J20 w2 _ _ _ hd hP hS (lv_sub hl [] rfl)
  · have hd := m_i_f c4 hd
    refine lv_aload_n hx hb dX2_hold_7 rfl (lv_at hl 0 rfl) ?_
    obtain ⟨hk5, hd⟩ := m_g_e hd
    obtain ⟨r6, hr6, hd⟩ := m_o_e hd
    refine m_getR (C := RX2) (T := TX2) (N := 2) (own := RX2) (ref := RX2) hx hb hts hin5 hown hM.1 hP 5 rfl 1 (r := r6) ⟨hk5, hr6⟩ (by decide) (hts (.fieldLink RX2 15 "CellNotebook$Names" "stamps" "[I") (by decide +kernel)) (fun _ h9 => h9) dX2_hold_8 ?_
    refine lv_iload_n hx hb dX2_hold_11 rfl (lv_at hl 1 rfl) ?_
    obtain ⟨hg7, hd⟩ := m_g_e hd
    refine m_iald hx hb hM.1 hP hg7 dX2_hold_12 ?_
    refine lv_if_eq (tgt := 20) hx hb dX2_hold_13 (by decide) (fun c8 => ?_) (fun c8 => ?_)
    · have hd := m_i_t c8 hd
      refine W.widen (k := 0) (n := 0) (Nat.le_of_ble_eq_true rfl) (Nat.le_of_ble_eq_true rfl) ?_
      exact J20 w2 _ _ _ hd hP hS (lv_sub hl [] rfl)
    · have hd := m_i_f c8 hd
      refine lv_iconst (v := 1) hx hb dX2_hold_16 (by decide) ?_
      refine lv_goto (tgt := 21) hx hb dX2_hold_17 (by decide) ?_
      refine W.widen (k := 0) (n := 0) (Nat.le_of_ble_eq_true rfl) (Nat.le_of_ble_eq_true rfl) ?_
      exact J21 w2 1 _ _ _ hd hP hS (lv_sub hl [] rfl)


noncomputable def e_X0_read_46 (w : mW) (x0 : Nat) (x1 : Int32) : Option (Int32 × mW) := m_g (m_kd w x0 = 4) <| m_o (m_fr w 3 5 x0) fun r118 => m_g (m_kd w r118 = 6) <| m_b (e_X2_hold w r118 x1) fun r120 w121 => m_g (vp_nar .boolean r120 = r120) <| some (r120, w121)
noncomputable def e_X0_read (w : mW) (h : Nat) (p0 : Int32) : Option (Int32 × mW) := m_b (e_X6_isName w p0) fun r1 w2 => if r1 = (0 : Int32) then (m_g (vp_nar .boolean 1 = 1) <| some (1, w2)) else (m_g (m_kd w2 h = 4) <| if ((m_fi w2 3 4 h) &&& (1 <<< (p0 &&& 31))) = (0 : Int32) then (m_l (m_sI w2 3 3 h ((m_fi w2 3 3 h) ||| (1 <<< (p0 &&& 31)))) fun w7 => m_o (m_fr w7 3 6 h) fun r8 => m_o (m_fr w7 3 5 h) fun r9 => m_g (m_kd w7 r9 = 6) <| m_b (e_X2_stampOf w7 r9 p0) fun r11 w12 => m_g (m_kd w12 r8 = 21 ∧ ¬ (p0 < 0 ∨ m_ln w12 r8 ≤ p0.toNatClampNeg)) <| m_l (m_sA w12 r8 (p0.toNatClampNeg) r11) fun w15 => e_X0_read_46 w15 h p0) else (e_X0_read_46 w2 h p0))
set_option maxHeartbeats 1000000 in
set_option maxRecDepth 100000 in
theorem c_X0_read (l : Launch) (G : m_G) (w w' : mW) (h : Nat) (p0 : Int32) (r : Int32) (hd : e_X0_read w h p0 = some (r, w')) : Met l yX0_read wsX0_read ({ frames := 2, cells := 0, slots := 0, locals := 41 } : Room) (m_Pc G w [.ref (h), .int (p0)]) (m_Qi G r w') 0 0 (fun q => G.1 ≤ q) := by
  refine Met.ofW (cc := cX0_read) (maxL := 2) (ret := (some .boolean)) (by decide +kernel) rfl ?_
  intro p e s m args below meth c s₁ B hml hv
  obtain ⟨rfl, hM, hP⟩ := hv
  have hx := B.exec
  have hb := B.bytes
  have hr := B.returns
  have hts := atoms_spec (ws := wsX0_read) B.pre
  have hown : s.vm.findClass RX0 = some m.cls := findClass_of_methodNamed B.named
  have hlocks := B.notSynchronized
  have hin3 : ∀ w ∈ u_ws RX0 TX0 7, w ∈ wsX0_read := by decide +kernel
  have hS : va_S (fun q => G.1 ≤ q) s.heap s.heap [] := va_S.rf
  have J46 : ∀ (w : mW) (x0 : Nat) (x1 : Int32) (H : Heap) (locs : List Loc) (ls : Array Slot), e_X0_read_46 w x0 x1 = some (r, w') → mP G w H → va_S (fun q => G.1 ≤ q) s.heap H locs → lv_has ls 2 [(0, .ref (x0)), (1, .int (x1))] → W p l e ({ frames := 2, cells := 0, slots := 0, locals := 41 } : Room) s m ([.ref (h), .int (p0)] : List Value).toArray below meth c H locs 0 0 (MQ below (m_Qi G r w') ([.ref (h), .int (p0)] : List Value).toArray s 0 0 (fun q => G.1 ≤ q)) (F0 m 46 ls []) := by
    intro w x0 x1 H locs ls hd hP hS hl
    refine lv_aload_n hx hb dX0_read_46 rfl (lv_at hl 0 rfl) ?_
    obtain ⟨hk117, hd⟩ := m_g_e hd
    obtain ⟨r118, hr118, hd⟩ := m_o_e hd
    refine m_getR (C := RX0) (T := TX0) (N := 7) (own := RX0) (ref := RX0) hx hb hts hin3 hown hM.1 hP 3 rfl 5 (r := r118) ⟨hk117, hr118⟩ (by decide) (hts (.fieldLink RX0 12 "CellNotebook$Attempt" "names" "LCellNotebook$Names;") (by decide +kernel)) (fun _ h9 => h9) dX0_read_47 ?_
    refine lv_iload_n hx hb dX0_read_50 rfl (lv_at hl 1 rfl) ?_
    obtain ⟨hk119, hd⟩ := m_g_e hd
    obtain ⟨r120, w121, hc122, hd⟩ := m_b_e hd
    refine m_calli (k := 0) (n := 0) (va_runV (As := [.int (x1)]) (rest := []) ⟨hx, hb, hml, hown, hts⟩ (c_X2_hold l G w w121 r118 x1 r120 hc122) (cwV 1 hts gX0_read_X2_hold rfl rfl rfl (by decide +kernel) ⟨(Nat.le_of_ble_eq_true rfl), (Nat.le_of_ble_eq_true rfl)⟩) (m_preV (C := RX2) (T := TX2) (N := 2) hM hP hS rfl (by decide) hk119) rfl rfl hl.1 rfl (lv_room (Nat.le_of_ble_eq_true rfl)) dX0_read_51 ⟨(Nat.le_of_ble_eq_true rfl), (Nat.le_of_ble_eq_true rfl)⟩) hS ⟨(Nat.le_of_ble_eq_true rfl), (Nat.le_of_ble_eq_true rfl)⟩ (fun H locs hP hS => ?_)
    obtain ⟨hn123, hd⟩ := m_g_e hd
    obtain ⟨e1, e2⟩ := m_s_e hd
    refine W.widen (k := 0) (n := 0) (Nat.le_of_ble_eq_true rfl) (Nat.le_of_ble_eq_true rfl) ?_
    exact W.zret hx hb hr (m_narZ hn123).1 (fun t ht hW => ⟨⟨_, w121, rfl, ⟨e1, e2⟩, by show mP _ _ t.heap; rw [ht]; exact hP⟩, hS.F ht⟩) hS.2.2 dX0_read_54
  have hl := lv_entry ([.ref (h), .int (p0)]) (n := 2) (Nat.le_of_ble_eq_true rfl)
  rw [lg_entry_eq]
  generalize (lg_sl ([.ref (h), .int (p0)]) ++ List.replicate (2 - (lg_sl ([.ref (h), .int (p0)])).length) Slot.unset).toArray = ls at hl ⊢
  have hl : lv_has ls 2 [(0, .ref (h)), (1, .int (p0))] := hl
  refine lv_iload_n hx hb dX0_read_0 rfl (lv_at hl 1 rfl) ?_
  obtain ⟨r1, w2, hc3, hd⟩ := m_b_e hd
  refine m_calli (k := 0) (n := 0) (va_runSN (As := [.int (p0)]) (rest := []) ⟨hx, hb, hml, hown, hts⟩ (c_X6_isName l G w w2 p0 r1 hc3) ⟨va_cnB (host := RX6) 1 hts gX0_read_X6_isName_n52 rfl rfl rfl (hM.2.1.2.2.2.2.2.2.2 (RX0, 52, yX6_isName) (by decide +kernel)) (hts (.initialized RX6) (by decide +kernel)) (by decide +kernel) ⟨(Nat.le_of_ble_eq_true rfl), (Nat.le_of_ble_eq_true rfl)⟩, (hts (.static yX6_isName) (by decide +kernel)), trivial⟩ (m_preS hM hP hS) rfl rfl hl.1 rfl (lv_room (Nat.le_of_ble_eq_true rfl)) dX0_read_1 ⟨(Nat.le_of_ble_eq_true rfl), (Nat.le_of_ble_eq_true rfl)⟩) hS ⟨(Nat.le_of_ble_eq_true rfl), (Nat.le_of_ble_eq_true rfl)⟩ (fun H locs hP hS => ?_)
  refine lv_if_ne (tgt := 9) hx hb dX0_read_4 (by decide) (fun c4 => ?_) (fun c4 => ?_)
  · have hd := m_i_f c4 hd
    refine lv_aload_n hx hb dX0_read_9 rfl (lv_at hl 0 rfl) ?_
    obtain ⟨hk5, hd⟩ := m_g_e hd
    refine m_getI (C := RX0) (T := TX0) (N := 7) (own := RX0) (ref := RX0) hx hb hts hin3 hown hM.1 hP 3 rfl 4 hk5 (by decide) (hts (.fieldLink RX0 63 "CellNotebook$Attempt" "namesSet" "I") (by decide +kernel)) (fun _ h9 => h9) dX0_read_10 ?_
    refine lv_iconst (v := 1) hx hb dX0_read_13 (by decide) ?_
    refine lv_iload_n hx hb dX0_read_14 rfl (lv_at hl 1 rfl) ?_
    refine lv_ishl hx hb dX0_read_15 ?_
    refine lv_iand hx hb dX0_read_16 ?_
    refine lv_if_ne (tgt := 46) hx hb dX0_read_17 (by decide) (fun c6 => ?_) (fun c6 => ?_)
    · have hd := m_i_f c6 hd
      refine W.widen (k := 0) (n := 0) (Nat.le_of_ble_eq_true rfl) (Nat.le_of_ble_eq_true rfl) ?_
      exact J46 w2 h p0 _ _ _ hd hP hS (lv_sub hl [0, 1] rfl)
    · have hd := m_i_t c6 hd
      refine lv_aload_n hx hb dX0_read_20 rfl (lv_at hl 0 rfl) ?_
      refine lv_dup hx hb dX0_read_21 rfl ?_
      refine m_getI (C := RX0) (T := TX0) (N := 7) (own := RX0) (ref := RX0) hx hb hts hin3 hown hM.1 hP 3 rfl 3 hk5 (by decide) (hts (.fieldLink RX0 60 "CellNotebook$Attempt" "namesSeen" "I") (by decide +kernel)) (fun _ h9 => h9) dX0_read_22 ?_
      refine lv_iconst (v := 1) hx hb dX0_read_25 (by decide) ?_
      refine lv_iload_n hx hb dX0_read_26 rfl (lv_at hl 1 rfl) ?_
      refine lv_ishl hx hb dX0_read_27 ?_
      refine lv_ior hx hb dX0_read_28 ?_
      refine m_putI (C := RX0) (T := TX0) (N := 7) (own := RX0) (ref := RX0) hx hb hts hin3 tyX0 tyX0_ok nmX0 hown hM.1 hP hS 3 rfl 3 hk5 (by decide) (hts (.fieldLink RX0 60 "CellNotebook$Attempt" "namesSeen" "I") (by decide +kernel)) (fun _ h9 => h9) (Or.inl rfl) (ty := .int) rfl ⟨rfl, rfl⟩ dX0_read_29 (fun H locs hP hS => ?_)
      obtain ⟨w7, ew, hd⟩ := m_l_e hd
      have hP : mP G w7 H := by rw [ew]; exact hP
      have hk5 : m_kd w7 h = 4 := by rw [ew]; exact hk5
      refine lv_aload_n hx hb dX0_read_32 rfl (lv_at hl 0 rfl) ?_
      obtain ⟨r8, hr8, hd⟩ := m_o_e hd
      refine m_getR (C := RX0) (T := TX0) (N := 7) (own := RX0) (ref := RX0) hx hb hts hin3 hown hM.1 hP 3 rfl 6 (r := r8) ⟨hk5, hr8⟩ (by decide) (hts (.fieldLink RX0 18 "CellNotebook$Attempt" "stampsSeen" "[I") (by decide +kernel)) (fun _ h9 => h9) dX0_read_33 ?_
      refine lv_iload_n hx hb dX0_read_36 rfl (lv_at hl 1 rfl) ?_
      refine lv_aload_n hx hb dX0_read_37 rfl (lv_at hl 0 rfl) ?_
      obtain ⟨r9, hr9, hd⟩ := m_o_e hd
      refine m_getR (C := RX0) (T := TX0) (N := 7) (own := RX0) (ref := RX0) hx hb hts hin3 hown hM.1 hP 3 rfl 5 (r := r9) ⟨hk5, hr9⟩ (by decide) (hts (.fieldLink RX0 12 "CellNotebook$Attempt" "names" "LCellNotebook$Names;") (by decide +kernel)) (fun _ h9 => h9) dX0_read_38 ?_
      refine lv_iload_n hx hb dX0_read_41 rfl (lv_at hl 1 rfl) ?_
      obtain ⟨hk10, hd⟩ := m_g_e hd
      obtain ⟨r11, w12, hc13, hd⟩ := m_b_e hd
      refine m_calli (k := 0) (n := 0) (va_runV (As := [.int (p0)]) (rest := [.int (p0), .ref (r8)]) ⟨hx, hb, hml, hown, hts⟩ (c_X2_stampOf l G w7 w12 r9 p0 r11 hc13) (cwV 1 hts gX0_read_X2_stampOf rfl rfl rfl (by decide +kernel) ⟨(Nat.le_of_ble_eq_true rfl), (Nat.le_of_ble_eq_true rfl)⟩) (m_preV (C := RX2) (T := TX2) (N := 2) hM hP hS rfl (by decide) hk10) rfl rfl hl.1 rfl (lv_room (Nat.le_of_ble_eq_true rfl)) dX0_read_42 ⟨(Nat.le_of_ble_eq_true rfl), (Nat.le_of_ble_eq_true rfl)⟩) hS ⟨(Nat.le_of_ble_eq_true rfl), (Nat.le_of_ble_eq_true rfl)⟩ (fun H locs hP hS => ?_)
      obtain ⟨hg14, hd⟩ := m_g_e hd
      refine m_iast hx hb hM.1 hP hS hg14 dX0_read_45 (fun H locs hP hS => ?_)
      obtain ⟨w15, ew, hd⟩ := m_l_e hd
      have hP : mP G w15 H := by rw [ew]; exact hP
      refine W.widen (k := 0) (n := 0) (Nat.le_of_ble_eq_true rfl) (Nat.le_of_ble_eq_true rfl) ?_
      exact J46 w15 h p0 _ _ _ hd hP hS (lv_sub hl [0, 1] rfl)
  · have hd := m_i_t c4 hd
    refine lv_iconst (v := 1) hx hb dX0_read_7 (by decide) ?_
    obtain ⟨hn16, hd⟩ := m_g_e hd
    obtain ⟨e1, e2⟩ := m_s_e hd
    refine W.widen (k := 0) (n := 0) (Nat.le_of_ble_eq_true rfl) (Nat.le_of_ble_eq_true rfl) ?_
    exact W.zret hx hb hr (m_narZ hn16).1 (fun t ht hW => ⟨⟨_, w2, rfl, ⟨e1, e2⟩, by show mP _ _ t.heap; rw [ht]; exact hP⟩, hS.F ht⟩) hS.2.2 dX0_read_8


noncomputable def e_X0_operandValue_23 (w : mW) (s0 : Int32) : Option (Int32 × mW) := some (s0, w)
noncomputable def e_X0_operandValue (w : mW) (h : Nat) (p0 : Int32) : Option (Int32 × mW) := m_b (e_X6_isName w p0) fun r1 w2 => if r1 = (0 : Int32) then (e_X0_operandValue_23 w2 (p0 - 600)) else (m_g (m_kd w2 h = 4) <| m_o (m_fr w2 3 5 h) fun r6 => m_g (m_kd w2 r6 = 6) <| m_b (e_X2_valueOf w2 r6 p0) fun r8 w9 => e_X0_operandValue_23 w9 r8)
set_option maxHeartbeats 1000000 in
set_option maxRecDepth 100000 in
theorem c_X0_operandValue (l : Launch) (G : m_G) (w w' : mW) (h : Nat) (p0 : Int32) (r : Int32) (hd : e_X0_operandValue w h p0 = some (r, w')) : Met l yX0_operandValue wsX0_operandValue ({ frames := 2, cells := 0, slots := 0, locals := 41 } : Room) (m_Pc G w [.ref (h), .int (p0)]) (m_Qi G r w') 0 0 (fun q => G.1 ≤ q) := by
  refine Met.ofW (cc := cX0_operandValue) (maxL := 2) (ret := (some .int)) (by decide +kernel) rfl ?_
  intro p e s m args below meth c s₁ B hml hv
  obtain ⟨rfl, hM, hP⟩ := hv
  have hx := B.exec
  have hb := B.bytes
  have hr := B.returns
  have hts := atoms_spec (ws := wsX0_operandValue) B.pre
  have hown : s.vm.findClass RX0 = some m.cls := findClass_of_methodNamed B.named
  have hlocks := B.notSynchronized
  have hin3 : ∀ w ∈ u_ws RX0 TX0 7, w ∈ wsX0_operandValue := by decide +kernel
  have hS : va_S (fun q => G.1 ≤ q) s.heap s.heap [] := va_S.rf
  have J23 : ∀ (w : mW) (s0 : Int32) (H : Heap) (locs : List Loc) (ls : Array Slot), e_X0_operandValue_23 w s0 = some (r, w') → mP G w H → va_S (fun q => G.1 ≤ q) s.heap H locs → lv_has ls 2 [] → W p l e ({ frames := 2, cells := 0, slots := 0, locals := 41 } : Room) s m ([.ref (h), .int (p0)] : List Value).toArray below meth c H locs 0 0 (MQ below (m_Qi G r w') ([.ref (h), .int (p0)] : List Value).toArray s 0 0 (fun q => G.1 ≤ q)) (F0 m 23 ls [.int (s0)]) := by
    intro w s0 H locs ls hd hP hS hl
    obtain ⟨e1, e2⟩ := m_s_e hd
    refine W.widen (k := 0) (n := 0) (Nat.le_of_ble_eq_true rfl) (Nat.le_of_ble_eq_true rfl) ?_
    exact W.iret hx hb hr (fun t ht hW => ⟨⟨_, w, rfl, ⟨e1, e2⟩, by show mP _ _ t.heap; rw [ht]; exact hP⟩, hS.F ht⟩) hS.2.2 dX0_operandValue_23
  have hl := lv_entry ([.ref (h), .int (p0)]) (n := 2) (Nat.le_of_ble_eq_true rfl)
  rw [lg_entry_eq]
  generalize (lg_sl ([.ref (h), .int (p0)]) ++ List.replicate (2 - (lg_sl ([.ref (h), .int (p0)])).length) Slot.unset).toArray = ls at hl ⊢
  have hl : lv_has ls 2 [(0, .ref (h)), (1, .int (p0))] := hl
  refine lv_iload_n hx hb dX0_operandValue_0 rfl (lv_at hl 1 rfl) ?_
  obtain ⟨r1, w2, hc3, hd⟩ := m_b_e hd
  refine m_calli (k := 0) (n := 0) (va_runSN (As := [.int (p0)]) (rest := []) ⟨hx, hb, hml, hown, hts⟩ (c_X6_isName l G w w2 p0 r1 hc3) ⟨va_cnB (host := RX6) 1 hts gX0_operandValue_X6_isName_n52 rfl rfl rfl (hM.2.1.2.2.2.2.2.2.2 (RX0, 52, yX6_isName) (by decide +kernel)) (hts (.initialized RX6) (by decide +kernel)) (by decide +kernel) ⟨(Nat.le_of_ble_eq_true rfl), (Nat.le_of_ble_eq_true rfl)⟩, (hts (.static yX6_isName) (by decide +kernel)), trivial⟩ (m_preS hM hP hS) rfl rfl hl.1 rfl (lv_room (Nat.le_of_ble_eq_true rfl)) dX0_operandValue_1 ⟨(Nat.le_of_ble_eq_true rfl), (Nat.le_of_ble_eq_true rfl)⟩) hS ⟨(Nat.le_of_ble_eq_true rfl), (Nat.le_of_ble_eq_true rfl)⟩ (fun H locs hP hS => ?_)
  refine lv_if_eq (tgt := 18) hx hb dX0_operandValue_4 (by decide) (fun c4 => ?_) (fun c4 => ?_)
  · have hd := m_i_t c4 hd
    refine lv_iload_n hx hb dX0_operandValue_18 rfl (lv_at hl 1 rfl) ?_
    refine lv_sipush (v := 600) hx hb dX0_operandValue_19 (by decide) ?_
    refine lv_isub hx hb dX0_operandValue_22 ?_
    refine W.widen (k := 0) (n := 0) (Nat.le_of_ble_eq_true rfl) (Nat.le_of_ble_eq_true rfl) ?_
    exact J23 w2 (p0 - 600) _ _ _ hd hP hS (lv_sub hl [] rfl)
  · have hd := m_i_f c4 hd
    refine lv_aload_n hx hb dX0_operandValue_7 rfl (lv_at hl 0 rfl) ?_
    obtain ⟨hk5, hd⟩ := m_g_e hd
    obtain ⟨r6, hr6, hd⟩ := m_o_e hd
    refine m_getR (C := RX0) (T := TX0) (N := 7) (own := RX0) (ref := RX0) hx hb hts hin3 hown hM.1 hP 3 rfl 5 (r := r6) ⟨hk5, hr6⟩ (by decide) (hts (.fieldLink RX0 12 "CellNotebook$Attempt" "names" "LCellNotebook$Names;") (by decide +kernel)) (fun _ h9 => h9) dX0_operandValue_8 ?_
    refine lv_iload_n hx hb dX0_operandValue_11 rfl (lv_at hl 1 rfl) ?_
    obtain ⟨hk7, hd⟩ := m_g_e hd
    obtain ⟨r8, w9, hc10, hd⟩ := m_b_e hd
    refine m_calli (k := 0) (n := 0) (va_runV (As := [.int (p0)]) (rest := []) ⟨hx, hb, hml, hown, hts⟩ (c_X2_valueOf l G w2 w9 r6 p0 r8 hc10) (cwV 1 hts gX0_operandValue_X2_valueOf rfl rfl rfl (by decide +kernel) ⟨(Nat.le_of_ble_eq_true rfl), (Nat.le_of_ble_eq_true rfl)⟩) (m_preV (C := RX2) (T := TX2) (N := 2) hM hP hS rfl (by decide) hk7) rfl rfl hl.1 rfl (lv_room (Nat.le_of_ble_eq_true rfl)) dX0_operandValue_12 ⟨(Nat.le_of_ble_eq_true rfl), (Nat.le_of_ble_eq_true rfl)⟩) hS ⟨(Nat.le_of_ble_eq_true rfl), (Nat.le_of_ble_eq_true rfl)⟩ (fun H locs hP hS => ?_)
    refine lv_goto (tgt := 23) hx hb dX0_operandValue_15 (by decide) ?_
    refine W.widen (k := 0) (n := 0) (Nat.le_of_ble_eq_true rfl) (Nat.le_of_ble_eq_true rfl) ?_
    exact J23 w9 r8 _ _ _ hd hP hS (lv_sub hl [] rfl)


noncomputable def e_X5_outcome_59 (w : mW) (s0 : Int64) : Option (Int64 × mW) := some (s0, w)
noncomputable def e_X5_outcome (w : mW) (h : Nat) (p0 : Int64) (p1 : Int64) : Option (Int64 × mW) := m_g (m_kd w h = 9) <| if (m_fi w 8 1 h) = (0 : Int32) then (some (p0 + p1, w)) else (if (m_fi w 8 1 h) = (1 : Int32) then (some (p0 - p1, w)) else (if (m_fi w 8 1 h) = (2 : Int32) then (some (p0 * p1, w)) else (if (lg_cmp p1 0) = (0 : Int32) then (e_X5_outcome_59 w 1099511627776) else (m_g (¬ p1 = (0 : Int64)) <| e_X5_outcome_59 w (p0 / p1)))))
set_option maxHeartbeats 1000000 in
set_option maxRecDepth 100000 in
theorem c_X5_outcome (l : Launch) (G : m_G) (w w' : mW) (h : Nat) (p0 : Int64) (p1 : Int64) (r : Int64) (hd : e_X5_outcome w h p0 p1 = some (r, w')) : Met l yX5_outcome wsX5_outcome ({ frames := 0, cells := 0, slots := 0, locals := 0 } : Room) (m_Pc G w [.ref (h), .long (p0), .long (p1)]) (m_Ql G r w') 0 0 (fun q => G.1 ≤ q) := by
  refine Met.ofW (cc := cX5_outcome) (maxL := 5) (ret := (some .long)) (by decide +kernel) rfl ?_
  intro p e s m args below meth c s₁ B hml hv
  obtain ⟨rfl, hM, hP⟩ := hv
  have hx := B.exec
  have hb := B.bytes
  have hr := B.returns
  have hts := atoms_spec (ws := wsX5_outcome) B.pre
  have hown : s.vm.findClass RX5 = some m.cls := findClass_of_methodNamed B.named
  have hlocks := B.notSynchronized
  have hin8 : ∀ w ∈ u_ws RX5 TX5 4, w ∈ wsX5_outcome := by decide +kernel
  have hS : va_S (fun q => G.1 ≤ q) s.heap s.heap [] := va_S.rf
  have J59 : ∀ (w : mW) (s0 : Int64) (H : Heap) (locs : List Loc) (ls : Array Slot), e_X5_outcome_59 w s0 = some (r, w') → mP G w H → va_S (fun q => G.1 ≤ q) s.heap H locs → lv_has ls 5 [] → W p l e ({ frames := 0, cells := 0, slots := 0, locals := 0 } : Room) s m ([.ref (h), .long (p0), .long (p1)] : List Value).toArray below meth c H locs 0 0 (MQ below (m_Ql G r w') ([.ref (h), .long (p0), .long (p1)] : List Value).toArray s 0 0 (fun q => G.1 ≤ q)) (F0 m 59 ls [.long (s0)]) := by
    intro w s0 H locs ls hd hP hS hl
    obtain ⟨e1, e2⟩ := m_s_e hd
    refine W.widen (k := 0) (n := 0) (Nat.le_of_ble_eq_true rfl) (Nat.le_of_ble_eq_true rfl) ?_
    exact W.lret hx hb hr (fun t ht hW => ⟨⟨_, w, rfl, ⟨e1, e2⟩, by show mP _ _ t.heap; rw [ht]; exact hP⟩, hS.F ht⟩) hS.2.2 dX5_outcome_59
  have hl := lv_entry ([.ref (h), .long (p0), .long (p1)]) (n := 5) (Nat.le_of_ble_eq_true rfl)
  rw [lg_entry_eq]
  generalize (lg_sl ([.ref (h), .long (p0), .long (p1)]) ++ List.replicate (5 - (lg_sl ([.ref (h), .long (p0), .long (p1)])).length) Slot.unset).toArray = ls at hl ⊢
  have hl : lv_has ls 5 [(0, .ref (h)), (1, .long (p0)), (3, .long (p1))] := hl
  refine lv_aload_n hx hb dX5_outcome_0 rfl (lv_at hl 0 rfl) ?_
  obtain ⟨hk1, hd⟩ := m_g_e hd
  refine m_getI (C := RX5) (T := TX5) (N := 4) (own := RX5) (ref := RX5) hx hb hts hin8 hown hM.1 hP 8 rfl 1 hk1 (by decide) (hts (.fieldLink RX5 15 "CellNotebook$Statement" "operation" "I") (by decide +kernel)) (fun _ h9 => h9) dX5_outcome_1 ?_
  by_cases c2 : (m_fi w 8 1 h) = (0 : Int32)
  · have hd := m_i_t c2 hd
    refine lv_tableIn (off := 28) (tgt := 32) hx hb dX5_outcome_4 (by rw [c2]; decide) (by rw [c2]; decide) (by rw [c2]; rfl) (by decide) ?_
    refine lv_lload_n hx hb dX5_outcome_32 rfl (lv_at hl 1 rfl) ?_
    refine lv_lload_n hx hb dX5_outcome_33 rfl (lv_at hl 2 rfl) ?_
    refine lv_ladd hx hb dX5_outcome_34 ?_
    obtain ⟨e1, e2⟩ := m_s_e hd
    refine W.widen (k := 0) (n := 0) (Nat.le_of_ble_eq_true rfl) (Nat.le_of_ble_eq_true rfl) ?_
    exact W.lret hx hb hr (fun t ht hW => ⟨⟨_, w, rfl, ⟨e1, e2⟩, by show mP _ _ t.heap; rw [ht]; exact hP⟩, hS.F ht⟩) hS.2.2 dX5_outcome_35
  have hd := m_i_f c2 hd
  by_cases c3 : (m_fi w 8 1 h) = (1 : Int32)
  · have hd := m_i_t c3 hd
    refine lv_tableIn (off := 32) (tgt := 36) hx hb dX5_outcome_4 (by rw [c3]; decide) (by rw [c3]; decide) (by rw [c3]; rfl) (by decide) ?_
    refine lv_lload_n hx hb dX5_outcome_36 rfl (lv_at hl 1 rfl) ?_
    refine lv_lload_n hx hb dX5_outcome_37 rfl (lv_at hl 2 rfl) ?_
    refine lv_lsub hx hb dX5_outcome_38 ?_
    obtain ⟨e1, e2⟩ := m_s_e hd
    refine W.widen (k := 0) (n := 0) (Nat.le_of_ble_eq_true rfl) (Nat.le_of_ble_eq_true rfl) ?_
    exact W.lret hx hb hr (fun t ht hW => ⟨⟨_, w, rfl, ⟨e1, e2⟩, by show mP _ _ t.heap; rw [ht]; exact hP⟩, hS.F ht⟩) hS.2.2 dX5_outcome_39
  have hd := m_i_f c3 hd
  by_cases c4 : (m_fi w 8 1 h) = (2 : Int32)
  · have hd := m_i_t c4 hd
    refine lv_tableIn (off := 36) (tgt := 40) hx hb dX5_outcome_4 (by rw [c4]; decide) (by rw [c4]; decide) (by rw [c4]; rfl) (by decide) ?_
    refine lv_lload_n hx hb dX5_outcome_40 rfl (lv_at hl 1 rfl) ?_
    refine lv_lload_n hx hb dX5_outcome_41 rfl (lv_at hl 2 rfl) ?_
    refine lv_lmul hx hb dX5_outcome_42 ?_
    obtain ⟨e1, e2⟩ := m_s_e hd
    refine W.widen (k := 0) (n := 0) (Nat.le_of_ble_eq_true rfl) (Nat.le_of_ble_eq_true rfl) ?_
    exact W.lret hx hb hr (fun t ht hW => ⟨⟨_, w, rfl, ⟨e1, e2⟩, by show mP _ _ t.heap; rw [ht]; exact hP⟩, hS.F ht⟩) hS.2.2 dX5_outcome_43
  have hd := m_i_f c4 hd
  refine lv_tableOut (tgt := 44) hx hb dX5_outcome_4 (m_sw3 c2 c3 c4) (by decide) ?_
  refine lv_lload_n hx hb dX5_outcome_44 rfl (lv_at hl 2 rfl) ?_
  refine lv_lconst (v := 0) hx hb dX5_outcome_45 (by decide) ?_
  refine W.lcmp hx hb dX5_outcome_46 ?_
  refine lv_if_ne (tgt := 56) hx hb dX5_outcome_47 (by decide) (fun c5 => ?_) (fun c5 => ?_)
  · have hd := m_i_f c5 hd
    refine lv_lload_n hx hb dX5_outcome_56 rfl (lv_at hl 1 rfl) ?_
    refine lv_lload_n hx hb dX5_outcome_57 rfl (lv_at hl 2 rfl) ?_
    obtain ⟨hz6, hd⟩ := m_g_e hd
    refine lv_ldiv hx hb dX5_outcome_58 hz6 ?_
    refine W.widen (k := 0) (n := 0) (Nat.le_of_ble_eq_true rfl) (Nat.le_of_ble_eq_true rfl) ?_
    exact J59 w (p0 / p1) _ _ _ hd hP hS (lv_sub hl [] rfl)
  · have hd := m_i_t c5 hd
    refine lv_ldc2 (own := RX5) (index := 24) (v := 1099511627776) hx hb hown (hts (.constantLong RX5 24 (1099511627776)) (by decide +kernel)) dX5_outcome_50 ?_
    refine lv_goto (tgt := 59) hx hb dX5_outcome_53 (by decide) ?_
    refine W.widen (k := 0) (n := 0) (Nat.le_of_ble_eq_true rfl) (Nat.le_of_ble_eq_true rfl) ?_
    exact J59 w 1099511627776 _ _ _ hd hP hS (lv_sub hl [] rfl)


noncomputable def e_X0_performStatement_22 (w : mW) (x0 : Nat) : Option (Unit × mW) := m_g (m_kd w x0 = 4) <| m_g (vp_nar .boolean 1 = 1) <| m_l (m_sI w 3 0 x0 1) fun w146 => some ((), w146)
noncomputable def e_X0_performStatement (w : mW) (h : Nat) (p0 : Nat) (p1 : Int32) : Option (Unit × mW) := m_g (m_kd w p0 = 9) <| m_g (m_kd w h = 4) <| m_b (e_X0_read w h (m_fi w 8 2 p0)) fun r3 w4 => if r3 = (0 : Int32) then (e_X0_performStatement_22 w4 h) else (m_g (m_kd w4 p0 = 9) <| m_g (m_kd w4 h = 4) <| m_b (e_X0_read w4 h (m_fi w4 8 3 p0)) fun r9 w10 => if r9 = (0 : Int32) then (e_X0_performStatement_22 w10 h) else (m_g (m_kd w10 p0 = 9) <| m_g (m_kd w10 h = 4) <| m_b (e_X0_operandValue w10 h (m_fi w10 8 2 p0)) fun r15 w16 => m_g (m_kd w16 p0 = 9) <| m_g (m_kd w16 h = 4) <| m_b (e_X0_operandValue w16 h (m_fi w16 8 3 p0)) fun r20 w21 => m_g (m_kd w21 p0 = 9) <| m_b (e_X5_outcome w21 p0 r15.toInt64 r20.toInt64) fun r24 w25 => if (lg_cmp r24.toInt32.toInt64 r24) = (0 : Int32) then (m_g (m_kd w25 h = 4) <| m_l (m_sI w25 3 2 h r24.toInt32) fun w29 => m_g (vp_nar .boolean 1 = 1) <| m_l (m_sI w29 3 1 h 1) fun w31 => m_o (m_fr w31 3 5 h) fun r32 => m_g (m_kd w31 p0 = 9) <| m_g (m_kd w31 r32 = 6) <| m_b (e_X2_assign w31 r32 (m_fi w31 8 0 p0) (m_fi w31 3 2 h) p1) fun r35 w36 => m_g (m_kd w36 h = 4) <| m_g (m_kd w36 p0 = 9) <| m_l (m_sI w36 3 4 h ((m_fi w36 3 4 h) ||| (1 <<< ((m_fi w36 8 0 p0) &&& 31)))) fun w40 => some ((), w40)) else (m_g (m_kd w25 h = 4) <| m_g (vp_nar .boolean 1 = 1) <| m_l (m_sI w25 3 0 h 1) fun w43 => some ((), w43))))
set_option maxHeartbeats 1000000 in
set_option maxRecDepth 100000 in
theorem c_X0_performStatement (l : Launch) (G : m_G) (w w' : mW) (h : Nat) (p0 : Nat) (p1 : Int32) (r : Unit) (hd : e_X0_performStatement w h p0 p1 = some (r, w')) : Met l yX0_performStatement wsX0_performStatement ({ frames := 3, cells := 0, slots := 0, locals := 62 } : Room) (m_Pc G w [.ref (h), .ref (p0), .int (p1)]) (m_Qv G r w') 0 0 (fun q => G.1 ≤ q) := by
  refine Met.ofW (cc := cX0_performStatement) (maxL := 5) (ret := none) (by decide +kernel) rfl ?_
  intro p e s m args below meth c s₁ B hml hv
  obtain ⟨rfl, hM, hP⟩ := hv
  have hx := B.exec
  have hb := B.bytes
  have hr := B.returns
  have hts := atoms_spec (ws := wsX0_performStatement) B.pre
  have hown : s.vm.findClass RX0 = some m.cls := findClass_of_methodNamed B.named
  have hlocks := B.notSynchronized
  have hin3 : ∀ w ∈ u_ws RX0 TX0 7, w ∈ wsX0_performStatement := by decide +kernel
  have hin8 : ∀ w ∈ u_ws RX5 TX5 4, w ∈ wsX0_performStatement := by decide +kernel
  have hS : va_S (fun q => G.1 ≤ q) s.heap s.heap [] := va_S.rf
  have J22 : ∀ (w : mW) (x0 : Nat) (H : Heap) (locs : List Loc) (ls : Array Slot), e_X0_performStatement_22 w x0 = some (r, w') → mP G w H → va_S (fun q => G.1 ≤ q) s.heap H locs → lv_has ls 5 [(0, .ref (x0))] → W p l e ({ frames := 3, cells := 0, slots := 0, locals := 62 } : Room) s m ([.ref (h), .ref (p0), .int (p1)] : List Value).toArray below meth c H locs 0 0 (MQ below (m_Qv G r w') ([.ref (h), .ref (p0), .int (p1)] : List Value).toArray s 0 0 (fun q => G.1 ≤ q)) (F0 m 22 ls []) := by
    intro w x0 H locs ls hd hP hS hl
    refine lv_aload_n hx hb dX0_performStatement_22 rfl (lv_at hl 0 rfl) ?_
    refine lv_iconst (v := 1) hx hb dX0_performStatement_23 (by decide) ?_
    obtain ⟨hk144, hd⟩ := m_g_e hd
    obtain ⟨hn145, hd⟩ := m_g_e hd
    refine m_putI (C := RX0) (T := TX0) (N := 7) (own := RX0) (ref := RX0) hx hb hts hin3 tyX0 tyX0_ok nmX0 hown hM.1 hP hS 3 rfl 0 hk144 (by decide) (hts (.fieldLink RX0 32 "CellNotebook$Attempt" "failed" "Z") (by decide +kernel)) (fun _ h9 => h9) (Or.inl rfl) (ty := .boolean) rfl (m_narZ hn145) dX0_performStatement_24 (fun H locs hP hS => ?_)
    obtain ⟨w146, ew, hd⟩ := m_l_e hd
    have hP : mP G w146 H := by rw [ew]; exact hP
    have hk144 : m_kd w146 x0 = 4 := by rw [ew]; exact hk144
    obtain ⟨e1, e2⟩ := m_s_e hd
    refine W.widen (k := 0) (n := 0) (Nat.le_of_ble_eq_true rfl) (Nat.le_of_ble_eq_true rfl) ?_
    exact W.vret hx hb hr (fun t ht hW => ⟨⟨w146, rfl, e2, by show mP _ _ t.heap; rw [ht]; exact hP⟩, hS.F ht⟩) hS.2.2 dX0_performStatement_27
  have hl := lv_entry ([.ref (h), .ref (p0), .int (p1)]) (n := 5) (Nat.le_of_ble_eq_true rfl)
  rw [lg_entry_eq]
  generalize (lg_sl ([.ref (h), .ref (p0), .int (p1)]) ++ List.replicate (5 - (lg_sl ([.ref (h), .ref (p0), .int (p1)])).length) Slot.unset).toArray = ls at hl ⊢
  have hl : lv_has ls 5 [(0, .ref (h)), (1, .ref (p0)), (2, .int (p1))] := hl
  refine lv_aload_n hx hb dX0_performStatement_0 rfl (lv_at hl 0 rfl) ?_
  refine lv_aload_n hx hb dX0_performStatement_1 rfl (lv_at hl 1 rfl) ?_
  obtain ⟨hk1, hd⟩ := m_g_e hd
  refine m_getI (C := RX5) (T := TX5) (N := 4) (own := RX0) (ref := RX5) hx hb hts hin8 hown hM.1 hP 8 rfl 2 hk1 (by decide) (hts (.fieldLink RX0 66 "CellNotebook$Statement" "left" "I") (by decide +kernel)) (fun _ h9 => h9) dX0_performStatement_2 ?_
  obtain ⟨hk2, hd⟩ := m_g_e hd
  obtain ⟨r3, w4, hc5, hd⟩ := m_b_e hd
  refine m_calli (k := 0) (n := 0) (va_runV (As := [.int (m_fi w 8 2 p0)]) (rest := []) ⟨hx, hb, hml, hown, hts⟩ (c_X0_read l G w w4 h (m_fi w 8 2 p0) r3 hc5) (cwV 1 hts gX0_performStatement_X0_read rfl rfl rfl (by decide +kernel) ⟨(Nat.le_of_ble_eq_true rfl), (Nat.le_of_ble_eq_true rfl)⟩) (m_preV (C := RX0) (T := TX0) (N := 7) hM hP hS rfl (by decide) hk2) rfl rfl hl.1 rfl (lv_room (Nat.le_of_ble_eq_true rfl)) dX0_performStatement_5 ⟨(Nat.le_of_ble_eq_true rfl), (Nat.le_of_ble_eq_true rfl)⟩) hS ⟨(Nat.le_of_ble_eq_true rfl), (Nat.le_of_ble_eq_true rfl)⟩ (fun H locs hP hS => ?_)
  refine lv_if_eq (tgt := 22) hx hb dX0_performStatement_8 (by decide) (fun c6 => ?_) (fun c6 => ?_)
  · have hd := m_i_t c6 hd
    refine W.widen (k := 0) (n := 0) (Nat.le_of_ble_eq_true rfl) (Nat.le_of_ble_eq_true rfl) ?_
    exact J22 w4 h _ _ _ hd hP hS (lv_sub hl [0] rfl)
  · have hd := m_i_f c6 hd
    refine lv_aload_n hx hb dX0_performStatement_11 rfl (lv_at hl 0 rfl) ?_
    refine lv_aload_n hx hb dX0_performStatement_12 rfl (lv_at hl 1 rfl) ?_
    obtain ⟨hk7, hd⟩ := m_g_e hd
    refine m_getI (C := RX5) (T := TX5) (N := 4) (own := RX0) (ref := RX5) hx hb hts hin8 hown hM.1 hP 8 rfl 3 hk7 (by decide) (hts (.fieldLink RX0 72 "CellNotebook$Statement" "right" "I") (by decide +kernel)) (fun _ h9 => h9) dX0_performStatement_13 ?_
    obtain ⟨hk8, hd⟩ := m_g_e hd
    obtain ⟨r9, w10, hc11, hd⟩ := m_b_e hd
    refine m_calli (k := 0) (n := 0) (va_runV (As := [.int (m_fi w4 8 3 p0)]) (rest := []) ⟨hx, hb, hml, hown, hts⟩ (c_X0_read l G w4 w10 h (m_fi w4 8 3 p0) r9 hc11) (cwV 1 hts gX0_performStatement_X0_read rfl rfl rfl (by decide +kernel) ⟨(Nat.le_of_ble_eq_true rfl), (Nat.le_of_ble_eq_true rfl)⟩) (m_preV (C := RX0) (T := TX0) (N := 7) hM hP hS rfl (by decide) hk8) rfl rfl hl.1 rfl (lv_room (Nat.le_of_ble_eq_true rfl)) dX0_performStatement_16 ⟨(Nat.le_of_ble_eq_true rfl), (Nat.le_of_ble_eq_true rfl)⟩) hS ⟨(Nat.le_of_ble_eq_true rfl), (Nat.le_of_ble_eq_true rfl)⟩ (fun H locs hP hS => ?_)
    refine lv_if_ne (tgt := 28) hx hb dX0_performStatement_19 (by decide) (fun c12 => ?_) (fun c12 => ?_)
    · have hd := m_i_f c12 hd
      refine lv_aload_n hx hb dX0_performStatement_28 rfl (lv_at hl 1 rfl) ?_
      refine lv_aload_n hx hb dX0_performStatement_29 rfl (lv_at hl 0 rfl) ?_
      refine lv_aload_n hx hb dX0_performStatement_30 rfl (lv_at hl 1 rfl) ?_
      obtain ⟨hk13, hd⟩ := m_g_e hd
      refine m_getI (C := RX5) (T := TX5) (N := 4) (own := RX0) (ref := RX5) hx hb hts hin8 hown hM.1 hP 8 rfl 2 hk13 (by decide) (hts (.fieldLink RX0 66 "CellNotebook$Statement" "left" "I") (by decide +kernel)) (fun _ h9 => h9) dX0_performStatement_31 ?_
      obtain ⟨hk14, hd⟩ := m_g_e hd
      obtain ⟨r15, w16, hc17, hd⟩ := m_b_e hd
      refine m_calli (k := 0) (n := 0) (va_runV (As := [.int (m_fi w10 8 2 p0)]) (rest := [.ref (p0)]) ⟨hx, hb, hml, hown, hts⟩ (c_X0_operandValue l G w10 w16 h (m_fi w10 8 2 p0) r15 hc17) (cwV 1 hts gX0_performStatement_X0_operandValue rfl rfl rfl (by decide +kernel) ⟨(Nat.le_of_ble_eq_true rfl), (Nat.le_of_ble_eq_true rfl)⟩) (m_preV (C := RX0) (T := TX0) (N := 7) hM hP hS rfl (by decide) hk14) rfl rfl hl.1 rfl (lv_room (Nat.le_of_ble_eq_true rfl)) dX0_performStatement_34 ⟨(Nat.le_of_ble_eq_true rfl), (Nat.le_of_ble_eq_true rfl)⟩) hS ⟨(Nat.le_of_ble_eq_true rfl), (Nat.le_of_ble_eq_true rfl)⟩ (fun H locs hP hS => ?_)
      refine lv_i2l (v := r15.toInt64) hx hb dX0_performStatement_37 rfl ?_
      refine lv_aload_n hx hb dX0_performStatement_38 rfl (lv_at hl 0 rfl) ?_
      refine lv_aload_n hx hb dX0_performStatement_39 rfl (lv_at hl 1 rfl) ?_
      obtain ⟨hk18, hd⟩ := m_g_e hd
      refine m_getI (C := RX5) (T := TX5) (N := 4) (own := RX0) (ref := RX5) hx hb hts hin8 hown hM.1 hP 8 rfl 3 hk18 (by decide) (hts (.fieldLink RX0 72 "CellNotebook$Statement" "right" "I") (by decide +kernel)) (fun _ h9 => h9) dX0_performStatement_40 ?_
      obtain ⟨hk19, hd⟩ := m_g_e hd
      obtain ⟨r20, w21, hc22, hd⟩ := m_b_e hd
      refine m_calli (k := 0) (n := 0) (va_runV (As := [.int (m_fi w16 8 3 p0)]) (rest := [.long (r15.toInt64), .ref (p0)]) ⟨hx, hb, hml, hown, hts⟩ (c_X0_operandValue l G w16 w21 h (m_fi w16 8 3 p0) r20 hc22) (cwV 1 hts gX0_performStatement_X0_operandValue rfl rfl rfl (by decide +kernel) ⟨(Nat.le_of_ble_eq_true rfl), (Nat.le_of_ble_eq_true rfl)⟩) (m_preV (C := RX0) (T := TX0) (N := 7) hM hP hS rfl (by decide) hk19) rfl rfl hl.1 rfl (lv_room (Nat.le_of_ble_eq_true rfl)) dX0_performStatement_43 ⟨(Nat.le_of_ble_eq_true rfl), (Nat.le_of_ble_eq_true rfl)⟩) hS ⟨(Nat.le_of_ble_eq_true rfl), (Nat.le_of_ble_eq_true rfl)⟩ (fun H locs hP hS => ?_)
      refine lv_i2l (v := r20.toInt64) hx hb dX0_performStatement_46 rfl ?_
      obtain ⟨hk23, hd⟩ := m_g_e hd
      obtain ⟨r24, w25, hc26, hd⟩ := m_b_e hd
      refine m_calll (k := 0) (n := 0) (va_runV (As := [.long (r15.toInt64), .long (r20.toInt64)]) (rest := []) ⟨hx, hb, hml, hown, hts⟩ (c_X5_outcome l G w21 w25 p0 r15.toInt64 r20.toInt64 r24 hc26) (cwV 2 hts gX0_performStatement_X5_outcome rfl rfl rfl (by decide +kernel) ⟨(Nat.le_of_ble_eq_true rfl), (Nat.le_of_ble_eq_true rfl)⟩) (m_preV (C := RX5) (T := TX5) (N := 4) hM hP hS rfl (by decide) hk23) rfl rfl hl.1 rfl (lv_room (Nat.le_of_ble_eq_true rfl)) dX0_performStatement_47 ⟨(Nat.le_of_ble_eq_true rfl), (Nat.le_of_ble_eq_true rfl)⟩) hS ⟨(Nat.le_of_ble_eq_true rfl), (Nat.le_of_ble_eq_true rfl)⟩ (fun H locs hP hS => ?_)
      refine lv_lstore_n (lv' := [(3, .long (r24)), (0, .ref (h)), (1, .ref (p0)), (2, .int (p1))]) hx hb dX0_performStatement_50 rfl hl (by decide) rfl (fun ls hl => ?_)
      refine lv_lload_n hx hb dX0_performStatement_51 rfl (lv_at hl 0 rfl) ?_
      refine lv_l2i (v := r24.toInt32) hx hb dX0_performStatement_52 rfl ?_
      refine lv_i2l (v := r24.toInt32.toInt64) hx hb dX0_performStatement_53 rfl ?_
      refine lv_lload_n hx hb dX0_performStatement_54 rfl (lv_at hl 0 rfl) ?_
      refine W.lcmp hx hb dX0_performStatement_55 ?_
      refine lv_if_eq (tgt := 65) hx hb dX0_performStatement_56 (by decide) (fun c27 => ?_) (fun c27 => ?_)
      · have hd := m_i_t c27 hd
        refine lv_aload_n hx hb dX0_performStatement_65 rfl (lv_at hl 1 rfl) ?_
        refine lv_lload_n hx hb dX0_performStatement_66 rfl (lv_at hl 0 rfl) ?_
        refine lv_l2i (v := r24.toInt32) hx hb dX0_performStatement_67 rfl ?_
        obtain ⟨hk28, hd⟩ := m_g_e hd
        refine m_putI (C := RX0) (T := TX0) (N := 7) (own := RX0) (ref := RX0) hx hb hts hin3 tyX0 tyX0_ok nmX0 hown hM.1 hP hS 3 rfl 2 hk28 (by decide) (hts (.fieldLink RX0 56 "CellNotebook$Attempt" "outcome" "I") (by decide +kernel)) (fun _ h9 => h9) (Or.inl rfl) (ty := .int) rfl ⟨rfl, rfl⟩ dX0_performStatement_68 (fun H locs hP hS => ?_)
        obtain ⟨w29, ew, hd⟩ := m_l_e hd
        have hP : mP G w29 H := by rw [ew]; exact hP
        have hk28 : m_kd w29 h = 4 := by rw [ew]; exact hk28
        refine lv_aload_n hx hb dX0_performStatement_71 rfl (lv_at hl 1 rfl) ?_
        refine lv_iconst (v := 1) hx hb dX0_performStatement_72 (by decide) ?_
        obtain ⟨hn30, hd⟩ := m_g_e hd
        refine m_putI (C := RX0) (T := TX0) (N := 7) (own := RX0) (ref := RX0) hx hb hts hin3 tyX0 tyX0_ok nmX0 hown hM.1 hP hS 3 rfl 1 hk28 (by decide) (hts (.fieldLink RX0 46 "CellNotebook$Attempt" "hasOutcome" "Z") (by decide +kernel)) (fun _ h9 => h9) (Or.inl rfl) (ty := .boolean) rfl (m_narZ hn30) dX0_performStatement_73 (fun H locs hP hS => ?_)
        obtain ⟨w31, ew, hd⟩ := m_l_e hd
        have hP : mP G w31 H := by rw [ew]; exact hP
        have hk28 : m_kd w31 h = 4 := by rw [ew]; exact hk28
        refine lv_aload_n hx hb dX0_performStatement_76 rfl (lv_at hl 1 rfl) ?_
        obtain ⟨r32, hr32, hd⟩ := m_o_e hd
        refine m_getR (C := RX0) (T := TX0) (N := 7) (own := RX0) (ref := RX0) hx hb hts hin3 hown hM.1 hP 3 rfl 5 (r := r32) ⟨hk28, hr32⟩ (by decide) (hts (.fieldLink RX0 12 "CellNotebook$Attempt" "names" "LCellNotebook$Names;") (by decide +kernel)) (fun _ h9 => h9) dX0_performStatement_77 ?_
        refine lv_aload_n hx hb dX0_performStatement_80 rfl (lv_at hl 2 rfl) ?_
        obtain ⟨hk33, hd⟩ := m_g_e hd
        refine m_getI (C := RX5) (T := TX5) (N := 4) (own := RX0) (ref := RX5) hx hb hts hin8 hown hM.1 hP 8 rfl 0 hk33 (by decide) (hts (.fieldLink RX0 82 "CellNotebook$Statement" "name" "I") (by decide +kernel)) (fun _ h9 => h9) dX0_performStatement_81 ?_
        refine lv_aload_n hx hb dX0_performStatement_84 rfl (lv_at hl 1 rfl) ?_
        refine m_getI (C := RX0) (T := TX0) (N := 7) (own := RX0) (ref := RX0) hx hb hts hin3 hown hM.1 hP 3 rfl 2 hk28 (by decide) (hts (.fieldLink RX0 56 "CellNotebook$Attempt" "outcome" "I") (by decide +kernel)) (fun _ h9 => h9) dX0_performStatement_85 ?_
        refine lv_iload_n hx hb dX0_performStatement_88 rfl (lv_at hl 3 rfl) ?_
        obtain ⟨hk34, hd⟩ := m_g_e hd
        obtain ⟨r35, w36, hc37, hd⟩ := m_b_e hd
        refine m_callv (k := 0) (n := 0) (va_runV (As := [.int (m_fi w31 8 0 p0), .int (m_fi w31 3 2 h), .int (p1)]) (rest := []) ⟨hx, hb, hml, hown, hts⟩ (c_X2_assign l G w31 w36 r32 (m_fi w31 8 0 p0) (m_fi w31 3 2 h) p1 r35 hc37) (cwV 3 hts gX0_performStatement_X2_assign rfl rfl rfl (by decide +kernel) ⟨(Nat.le_of_ble_eq_true rfl), (Nat.le_of_ble_eq_true rfl)⟩) (m_preV (C := RX2) (T := TX2) (N := 2) hM hP hS rfl (by decide) hk34) rfl rfl hl.1 rfl (lv_room (Nat.le_of_ble_eq_true rfl)) dX0_performStatement_89 ⟨(Nat.le_of_ble_eq_true rfl), (Nat.le_of_ble_eq_true rfl)⟩) hS ⟨(Nat.le_of_ble_eq_true rfl), (Nat.le_of_ble_eq_true rfl)⟩ (fun H locs hP hS => ?_)
        refine lv_aload_n hx hb dX0_performStatement_92 rfl (lv_at hl 1 rfl) ?_
        refine lv_dup hx hb dX0_performStatement_93 rfl ?_
        obtain ⟨hk38, hd⟩ := m_g_e hd
        refine m_getI (C := RX0) (T := TX0) (N := 7) (own := RX0) (ref := RX0) hx hb hts hin3 hown hM.1 hP 3 rfl 4 hk38 (by decide) (hts (.fieldLink RX0 63 "CellNotebook$Attempt" "namesSet" "I") (by decide +kernel)) (fun _ h9 => h9) dX0_performStatement_94 ?_
        refine lv_iconst (v := 1) hx hb dX0_performStatement_97 (by decide) ?_
        refine lv_aload_n hx hb dX0_performStatement_98 rfl (lv_at hl 2 rfl) ?_
        obtain ⟨hk39, hd⟩ := m_g_e hd
        refine m_getI (C := RX5) (T := TX5) (N := 4) (own := RX0) (ref := RX5) hx hb hts hin8 hown hM.1 hP 8 rfl 0 hk39 (by decide) (hts (.fieldLink RX0 82 "CellNotebook$Statement" "name" "I") (by decide +kernel)) (fun _ h9 => h9) dX0_performStatement_99 ?_
        refine lv_ishl hx hb dX0_performStatement_102 ?_
        refine lv_ior hx hb dX0_performStatement_103 ?_
        refine m_putI (C := RX0) (T := TX0) (N := 7) (own := RX0) (ref := RX0) hx hb hts hin3 tyX0 tyX0_ok nmX0 hown hM.1 hP hS 3 rfl 4 hk38 (by decide) (hts (.fieldLink RX0 63 "CellNotebook$Attempt" "namesSet" "I") (by decide +kernel)) (fun _ h9 => h9) (Or.inl rfl) (ty := .int) rfl ⟨rfl, rfl⟩ dX0_performStatement_104 (fun H locs hP hS => ?_)
        obtain ⟨w40, ew, hd⟩ := m_l_e hd
        have hP : mP G w40 H := by rw [ew]; exact hP
        have hk38 : m_kd w40 h = 4 := by rw [ew]; exact hk38
        have hk39 : m_kd w40 p0 = 9 := by rw [ew]; exact hk39
        obtain ⟨e1, e2⟩ := m_s_e hd
        refine W.widen (k := 0) (n := 0) (Nat.le_of_ble_eq_true rfl) (Nat.le_of_ble_eq_true rfl) ?_
        exact W.vret hx hb hr (fun t ht hW => ⟨⟨w40, rfl, e2, by show mP _ _ t.heap; rw [ht]; exact hP⟩, hS.F ht⟩) hS.2.2 dX0_performStatement_107
      · have hd := m_i_f c27 hd
        refine lv_aload_n hx hb dX0_performStatement_59 rfl (lv_at hl 1 rfl) ?_
        refine lv_iconst (v := 1) hx hb dX0_performStatement_60 (by decide) ?_
        obtain ⟨hk41, hd⟩ := m_g_e hd
        obtain ⟨hn42, hd⟩ := m_g_e hd
        refine m_putI (C := RX0) (T := TX0) (N := 7) (own := RX0) (ref := RX0) hx hb hts hin3 tyX0 tyX0_ok nmX0 hown hM.1 hP hS 3 rfl 0 hk41 (by decide) (hts (.fieldLink RX0 32 "CellNotebook$Attempt" "failed" "Z") (by decide +kernel)) (fun _ h9 => h9) (Or.inl rfl) (ty := .boolean) rfl (m_narZ hn42) dX0_performStatement_61 (fun H locs hP hS => ?_)
        obtain ⟨w43, ew, hd⟩ := m_l_e hd
        have hP : mP G w43 H := by rw [ew]; exact hP
        have hk41 : m_kd w43 h = 4 := by rw [ew]; exact hk41
        obtain ⟨e1, e2⟩ := m_s_e hd
        refine W.widen (k := 0) (n := 0) (Nat.le_of_ble_eq_true rfl) (Nat.le_of_ble_eq_true rfl) ?_
        exact W.vret hx hb hr (fun t ht hW => ⟨⟨w43, rfl, e2, by show mP _ _ t.heap; rw [ht]; exact hP⟩, hS.F ht⟩) hS.2.2 dX0_performStatement_64
    · have hd := m_i_t c12 hd
      refine W.widen (k := 0) (n := 0) (Nat.le_of_ble_eq_true rfl) (Nat.le_of_ble_eq_true rfl) ?_
      exact J22 w10 h _ _ _ hd hP hS (lv_sub hl [0] rfl)


noncomputable def e_X0_perform_67 (w : mW)  : Option (Unit × mW) := some ((), w)
noncomputable def e_X0_perform_44 (w : mW) (x0 : Nat) (x2 : Nat) : Option (Unit × mW) := m_g (m_kd w x0 = 4) <| if (m_fi w 3 0 x0) = (0 : Int32) then (m_o (m_fr w 3 5 x0) fun r223 => m_g (m_kd w x2 = 6) <| m_b (e_X2_becomeLike w x2 r223) fun r225 w226 => e_X0_perform_67 w226) else (m_g (vp_nar .boolean 0 = 0) <| m_l (m_sI w 3 1 x0 0) fun w229 => e_X0_perform_67 w229)
noncomputable def e_X0_perform_8_b (k8 : mW → Nat → Nat → Nat → Int32 → Int32 → Option (Unit × mW)) (w : mW) (x0 : Nat) (x1 : Nat) (x2 : Nat) (x3 : Int32) (x4 : Int32) : Option (Unit × mW) := m_g (m_kd w x1 = 3) <| m_b (e_Jx4a65c_size_8abf5 w x1) fun r106 w107 => if r106 ≤ x4 then (e_X0_perform_44 w107 x0 x2) else (m_g (m_kd w107 x0 = 4) <| if (m_fi w107 3 0 x0) = (0 : Int32) then (m_g (m_kd w107 x1 = 3) <| m_b (e_Jx4a65c_get_915e3 w107 x1 x4) fun r113 w114 => m_g (m_kd w114 r113 = 9) <| m_g (m_kd w114 x0 = 4) <| m_b (e_X0_performStatement w114 x0 r113 x3) fun r118 w119 => k8 w119 x0 x1 x2 x3 (x4 + 1)) else (e_X0_perform_44 w107 x0 x2))
noncomputable def e_X0_perform_8 (n : Nat) : mW → Nat → Nat → Nat → Int32 → Int32 → Option (Unit × mW) := Nat.rec (motive := fun _ => mW → Nat → Nat → Nat → Int32 → Int32 → Option (Unit × mW)) (fun _ _ _ _ _ _ => none) (fun _ k => e_X0_perform_8_b  k) n
noncomputable def e_X0_perform (w : mW) (h : Nat) (p0 : Nat) (p1 : Nat) (p2 : Int32) : Option (Unit × mW) := m_g (m_kd w h = 4) <| m_b (e_X0_begin w h p1) fun r2 w3 => e_X0_perform_8 m_N w3 h p0 p1 p2 0
set_option maxHeartbeats 1000000 in
set_option maxRecDepth 100000 in
theorem c_X0_perform (l : Launch) (G : m_G) (w w' : mW) (h : Nat) (p0 : Nat) (p1 : Nat) (p2 : Int32) (r : Unit) (hd : e_X0_perform w h p0 p1 p2 = some (r, w')) : Met l yX0_perform wsX0_perform ({ frames := 4, cells := 0, slots := 0, locals := 87 } : Room) (m_Pc G w [.ref (h), .ref (p0), .ref (p1), .int (p2)]) (m_Qv G r w') 0 0 (fun q => G.1 ≤ q) := by
  refine Met.ofW (cc := cX0_perform) (maxL := 5) (ret := none) (by decide +kernel) rfl ?_
  intro p e s m args below meth c s₁ B hml hv
  obtain ⟨rfl, hM, hP⟩ := hv
  have hx := B.exec
  have hb := B.bytes
  have hr := B.returns
  have hts := atoms_spec (ws := wsX0_perform) B.pre
  have hown : s.vm.findClass RX0 = some m.cls := findClass_of_methodNamed B.named
  have hlocks := B.notSynchronized
  have hin3 : ∀ w ∈ u_ws RX0 TX0 7, w ∈ wsX0_perform := by decide +kernel
  have hS : va_S (fun q => G.1 ≤ q) s.heap s.heap [] := va_S.rf
  have J67 : ∀ (w : mW) (H : Heap) (locs : List Loc) (ls : Array Slot), e_X0_perform_67 w = some (r, w') → mP G w H → va_S (fun q => G.1 ≤ q) s.heap H locs → lv_has ls 5 [] → W p l e ({ frames := 4, cells := 0, slots := 0, locals := 87 } : Room) s m ([.ref (h), .ref (p0), .ref (p1), .int (p2)] : List Value).toArray below meth c H locs 0 0 (MQ below (m_Qv G r w') ([.ref (h), .ref (p0), .ref (p1), .int (p2)] : List Value).toArray s 0 0 (fun q => G.1 ≤ q)) (F0 m 67 ls []) := by
    intro w H locs ls hd hP hS hl
    obtain ⟨e1, e2⟩ := m_s_e hd
    refine W.widen (k := 0) (n := 0) (Nat.le_of_ble_eq_true rfl) (Nat.le_of_ble_eq_true rfl) ?_
    exact W.vret hx hb hr (fun t ht hW => ⟨⟨w, rfl, e2, by show mP _ _ t.heap; rw [ht]; exact hP⟩, hS.F ht⟩) hS.2.2 dX0_perform_67
  have J44 : ∀ (w : mW) (x0 : Nat) (x2 : Nat) (H : Heap) (locs : List Loc) (ls : Array Slot), e_X0_perform_44 w x0 x2 = some (r, w') → mP G w H → va_S (fun q => G.1 ≤ q) s.heap H locs → lv_has ls 5 [(0, .ref (x0)), (2, .ref (x2))] → W p l e ({ frames := 4, cells := 0, slots := 0, locals := 87 } : Room) s m ([.ref (h), .ref (p0), .ref (p1), .int (p2)] : List Value).toArray below meth c H locs 0 0 (MQ below (m_Qv G r w') ([.ref (h), .ref (p0), .ref (p1), .int (p2)] : List Value).toArray s 0 0 (fun q => G.1 ≤ q)) (F0 m 44 ls []) := by
    intro w x0 x2 H locs ls hd hP hS hl
    refine lv_aload_n hx hb dX0_perform_44 rfl (lv_at hl 0 rfl) ?_
    obtain ⟨hk221, hd⟩ := m_g_e hd
    refine m_getI (C := RX0) (T := TX0) (N := 7) (own := RX0) (ref := RX0) hx hb hts hin3 hown hM.1 hP 3 rfl 0 hk221 (by decide) (hts (.fieldLink RX0 32 "CellNotebook$Attempt" "failed" "Z") (by decide +kernel)) (fun _ h9 => h9) dX0_perform_45 ?_
    refine lv_if_eq (tgt := 59) hx hb dX0_perform_48 (by decide) (fun c222 => ?_) (fun c222 => ?_)
    · have hd := m_i_t c222 hd
      refine lv_aload_n hx hb dX0_perform_59 rfl (lv_at hl 1 rfl) ?_
      refine lv_aload_n hx hb dX0_perform_60 rfl (lv_at hl 0 rfl) ?_
      obtain ⟨r223, hr223, hd⟩ := m_o_e hd
      refine m_getR (C := RX0) (T := TX0) (N := 7) (own := RX0) (ref := RX0) hx hb hts hin3 hown hM.1 hP 3 rfl 5 (r := r223) ⟨hk221, hr223⟩ (by decide) (hts (.fieldLink RX0 12 "CellNotebook$Attempt" "names" "LCellNotebook$Names;") (by decide +kernel)) (fun _ h9 => h9) dX0_perform_61 ?_
      obtain ⟨hk224, hd⟩ := m_g_e hd
      obtain ⟨r225, w226, hc227, hd⟩ := m_b_e hd
      refine m_callv (k := 0) (n := 0) (va_runV (As := [.ref (r223)]) (rest := []) ⟨hx, hb, hml, hown, hts⟩ (c_X2_becomeLike l G w w226 x2 r223 r225 hc227) (cwV 1 hts gX0_perform_X2_becomeLike rfl rfl rfl (by decide +kernel) ⟨(Nat.le_of_ble_eq_true rfl), (Nat.le_of_ble_eq_true rfl)⟩) (m_preV (C := RX2) (T := TX2) (N := 2) hM hP hS rfl (by decide) hk224) rfl rfl hl.1 rfl (lv_room (Nat.le_of_ble_eq_true rfl)) dX0_perform_64 ⟨(Nat.le_of_ble_eq_true rfl), (Nat.le_of_ble_eq_true rfl)⟩) hS ⟨(Nat.le_of_ble_eq_true rfl), (Nat.le_of_ble_eq_true rfl)⟩ (fun H locs hP hS => ?_)
      refine W.widen (k := 0) (n := 0) (Nat.le_of_ble_eq_true rfl) (Nat.le_of_ble_eq_true rfl) ?_
      exact J67 w226 _ _ _ hd hP hS (lv_sub hl [] rfl)
    · have hd := m_i_f c222 hd
      refine lv_aload_n hx hb dX0_perform_51 rfl (lv_at hl 0 rfl) ?_
      refine lv_iconst (v := 0) hx hb dX0_perform_52 (by decide) ?_
      obtain ⟨hn228, hd⟩ := m_g_e hd
      refine m_putI (C := RX0) (T := TX0) (N := 7) (own := RX0) (ref := RX0) hx hb hts hin3 tyX0 tyX0_ok nmX0 hown hM.1 hP hS 3 rfl 1 hk221 (by decide) (hts (.fieldLink RX0 46 "CellNotebook$Attempt" "hasOutcome" "Z") (by decide +kernel)) (fun _ h9 => h9) (Or.inl rfl) (ty := .boolean) rfl (m_narZ hn228) dX0_perform_53 (fun H locs hP hS => ?_)
      obtain ⟨w229, ew, hd⟩ := m_l_e hd
      have hP : mP G w229 H := by rw [ew]; exact hP
      have hk221 : m_kd w229 x0 = 4 := by rw [ew]; exact hk221
      refine lv_goto (tgt := 67) hx hb dX0_perform_56 (by decide) ?_
      refine W.widen (k := 0) (n := 0) (Nat.le_of_ble_eq_true rfl) (Nat.le_of_ble_eq_true rfl) ?_
      exact J67 w229 _ _ _ hd hP hS (lv_sub hl [] rfl)
  have J8 : ∀ (n8 : Nat) (w : mW) (x0 : Nat) (x1 : Nat) (x2 : Nat) (x3 : Int32) (x4 : Int32) (H : Heap) (locs : List Loc) (ls : Array Slot), e_X0_perform_8 n8 w x0 x1 x2 x3 x4 = some (r, w') → mP G w H → va_S (fun q => G.1 ≤ q) s.heap H locs → lv_has ls 5 [(0, .ref (x0)), (1, .ref (x1)), (2, .ref (x2)), (3, .int (x3)), (4, .int (x4))] → W p l e ({ frames := 4, cells := 0, slots := 0, locals := 87 } : Room) s m ([.ref (h), .ref (p0), .ref (p1), .int (p2)] : List Value).toArray below meth c H locs 0 0 (MQ below (m_Qv G r w') ([.ref (h), .ref (p0), .ref (p1), .int (p2)] : List Value).toArray s 0 0 (fun q => G.1 ≤ q)) (F0 m 8 ls []) := by
    intro n8
    induction n8 with
    | zero => intro w x0 x1 x2 x3 x4 H locs ls hd; exact absurd (show (none : Option (Unit × mW)) = some _ from hd) (fun h => nomatch h)
    | succ n8 ih8 =>
      intro w x0 x1 x2 x3 x4 H locs ls hd hP hS hl
      have hd : e_X0_perform_8_b (e_X0_perform_8 n8) w x0 x1 x2 x3 x4 = some (r, w') := hd
      refine lv_iload hx hb dX0_perform_8 (lv_at hl 4 rfl) ?_
      refine lv_aload_n hx hb dX0_perform_10 rfl (lv_at hl 1 rfl) ?_
      obtain ⟨hk105, hd⟩ := m_g_e hd
      obtain ⟨r106, w107, hc108, hd⟩ := m_b_e hd
      refine m_calli (k := 0) (n := 0) (va_runV (As := []) (rest := [.int (x4)]) ⟨hx, hb, hml, hown, hts⟩ (c_Jx4a65c_size_8abf5 l G w w107 x1 r106 hc108) (cwV 0 hts gX0_perform_Jx4a65c_size_8abf5 rfl rfl rfl (by decide +kernel) ⟨(Nat.le_of_ble_eq_true rfl), (Nat.le_of_ble_eq_true rfl)⟩) (m_preV (C := RJx4a65c) (T := TJx4a65c) (N := 3) hM hP hS rfl (by decide) hk105) rfl rfl hl.1 rfl (lv_room (Nat.le_of_ble_eq_true rfl)) dX0_perform_11 ⟨(Nat.le_of_ble_eq_true rfl), (Nat.le_of_ble_eq_true rfl)⟩) hS ⟨(Nat.le_of_ble_eq_true rfl), (Nat.le_of_ble_eq_true rfl)⟩ (fun H locs hP hS => ?_)
      refine lv_icmp_ge (tgt := 44) hx hb dX0_perform_14 (by decide) (fun c109 => ?_) (fun c109 => ?_)
      · have hd := m_i_t c109 hd
        refine W.widen (k := 0) (n := 0) (Nat.le_of_ble_eq_true rfl) (Nat.le_of_ble_eq_true rfl) ?_
        exact J44 w107 x0 x2 _ _ _ hd hP hS (lv_sub hl [0, 2] rfl)
      · have hd := m_i_f c109 hd
        refine lv_aload_n hx hb dX0_perform_17 rfl (lv_at hl 0 rfl) ?_
        obtain ⟨hk110, hd⟩ := m_g_e hd
        refine m_getI (C := RX0) (T := TX0) (N := 7) (own := RX0) (ref := RX0) hx hb hts hin3 hown hM.1 hP 3 rfl 0 hk110 (by decide) (hts (.fieldLink RX0 32 "CellNotebook$Attempt" "failed" "Z") (by decide +kernel)) (fun _ h9 => h9) dX0_perform_18 ?_
        refine lv_if_ne (tgt := 44) hx hb dX0_perform_21 (by decide) (fun c111 => ?_) (fun c111 => ?_)
        · have hd := m_i_f c111 hd
          refine W.widen (k := 0) (n := 0) (Nat.le_of_ble_eq_true rfl) (Nat.le_of_ble_eq_true rfl) ?_
          exact J44 w107 x0 x2 _ _ _ hd hP hS (lv_sub hl [0, 2] rfl)
        · have hd := m_i_t c111 hd
          refine lv_aload_n hx hb dX0_perform_24 rfl (lv_at hl 0 rfl) ?_
          refine lv_aload_n hx hb dX0_perform_25 rfl (lv_at hl 1 rfl) ?_
          refine lv_iload hx hb dX0_perform_26 (lv_at hl 4 rfl) ?_
          obtain ⟨hk112, hd⟩ := m_g_e hd
          obtain ⟨r113, w114, hc115, hd⟩ := m_b_e hd
          refine m_callr (k := 0) (n := 0) (va_runV (As := [.int (x4)]) (rest := [.ref (x0)]) ⟨hx, hb, hml, hown, hts⟩ (c_Jx4a65c_get_915e3 l G w107 w114 x1 x4 r113 hc115) (cwV 1 hts gX0_perform_Jx4a65c_get_915e3 rfl rfl rfl (by decide +kernel) ⟨(Nat.le_of_ble_eq_true rfl), (Nat.le_of_ble_eq_true rfl)⟩) (m_preV (C := RJx4a65c) (T := TJx4a65c) (N := 3) hM hP hS rfl (by decide) hk112) rfl rfl hl.1 rfl (lv_room (Nat.le_of_ble_eq_true rfl)) dX0_perform_28 ⟨(Nat.le_of_ble_eq_true rfl), (Nat.le_of_ble_eq_true rfl)⟩) hS ⟨(Nat.le_of_ble_eq_true rfl), (Nat.le_of_ble_eq_true rfl)⟩ (fun H locs hP hS => ?_)
          obtain ⟨hk116, hd⟩ := m_g_e hd
          refine va_castS (own := RX0) (nm := RX5) hx hb hown (hts (.classLink RX0 40 "CellNotebook$Statement") (by decide +kernel)) (hM.1.1 8 _ rfl).2 (m_recv hM.1 hP hk116 (by decide) rfl) dX0_perform_31 ?_
          refine lv_iload_n hx hb dX0_perform_34 rfl (lv_at hl 3 rfl) ?_
          obtain ⟨hk117, hd⟩ := m_g_e hd
          obtain ⟨r118, w119, hc120, hd⟩ := m_b_e hd
          refine m_callv (k := 0) (n := 0) (va_runV (As := [.ref (r113), .int (x3)]) (rest := []) ⟨hx, hb, hml, hown, hts⟩ (c_X0_performStatement l G w114 w119 x0 r113 x3 r118 hc120) (cwV 2 hts gX0_perform_X0_performStatement rfl rfl rfl (by decide +kernel) ⟨(Nat.le_of_ble_eq_true rfl), (Nat.le_of_ble_eq_true rfl)⟩) (m_preV (C := RX0) (T := TX0) (N := 7) hM hP hS rfl (by decide) hk117) rfl rfl hl.1 rfl (lv_room (Nat.le_of_ble_eq_true rfl)) dX0_perform_35 ⟨(Nat.le_of_ble_eq_true rfl), (Nat.le_of_ble_eq_true rfl)⟩) hS ⟨(Nat.le_of_ble_eq_true rfl), (Nat.le_of_ble_eq_true rfl)⟩ (fun H locs hP hS => ?_)
          refine lv_iinc (v := x4 + 1) (lv' := [(4, .int (x4 + 1)), (0, .ref (x0)), (1, .ref (x1)), (2, .ref (x2)), (3, .int (x3))]) hx hb dX0_perform_38 hl (k := 4) rfl rfl (by decide) rfl (fun ls hl => ?_)
          refine lv_goto (tgt := 8) hx hb dX0_perform_41 (by decide) ?_
          refine W.widen (k := 0) (n := 0) (Nat.le_of_ble_eq_true rfl) (Nat.le_of_ble_eq_true rfl) ?_
          exact ih8 w119 x0 x1 x2 x3 (x4 + 1) _ _ _ hd hP hS (lv_sub hl [1, 2, 3, 4, 0] rfl)
  have hl := lv_entry ([.ref (h), .ref (p0), .ref (p1), .int (p2)]) (n := 5) (Nat.le_of_ble_eq_true rfl)
  rw [lg_entry_eq]
  generalize (lg_sl ([.ref (h), .ref (p0), .ref (p1), .int (p2)]) ++ List.replicate (5 - (lg_sl ([.ref (h), .ref (p0), .ref (p1), .int (p2)])).length) Slot.unset).toArray = ls at hl ⊢
  have hl : lv_has ls 5 [(0, .ref (h)), (1, .ref (p0)), (2, .ref (p1)), (3, .int (p2))] := hl
  refine lv_aload_n hx hb dX0_perform_0 rfl (lv_at hl 0 rfl) ?_
  refine lv_aload_n hx hb dX0_perform_1 rfl (lv_at hl 2 rfl) ?_
  obtain ⟨hk1, hd⟩ := m_g_e hd
  obtain ⟨r2, w3, hc4, hd⟩ := m_b_e hd
  refine m_callv (k := 0) (n := 0) (va_runV (As := [.ref (p1)]) (rest := []) ⟨hx, hb, hml, hown, hts⟩ (c_X0_begin l G w w3 h p1 r2 hc4) (cwV 1 hts gX0_perform_X0_begin rfl rfl rfl (by decide +kernel) ⟨(Nat.le_of_ble_eq_true rfl), (Nat.le_of_ble_eq_true rfl)⟩) (m_preV (C := RX0) (T := TX0) (N := 7) hM hP hS rfl (by decide) hk1) rfl rfl hl.1 rfl (lv_room (Nat.le_of_ble_eq_true rfl)) dX0_perform_2 ⟨(Nat.le_of_ble_eq_true rfl), (Nat.le_of_ble_eq_true rfl)⟩) hS ⟨(Nat.le_of_ble_eq_true rfl), (Nat.le_of_ble_eq_true rfl)⟩ (fun H locs hP hS => ?_)
  refine lv_iconst (v := 0) hx hb dX0_perform_5 (by decide) ?_
  refine lv_istore (lv' := [(4, .int (0)), (0, .ref (h)), (1, .ref (p0)), (2, .ref (p1)), (3, .int (p2))]) hx hb dX0_perform_6 hl (by decide) rfl (fun ls hl => ?_)
  refine W.widen (k := 0) (n := 0) (Nat.le_of_ble_eq_true rfl) (Nat.le_of_ble_eq_true rfl) ?_
  exact J8 m_N w3 h p0 p1 p2 0 _ _ _ hd hP hS (lv_sub hl [1, 2, 3, 4, 0] rfl)


noncomputable def e_X0_stampSeen_17 (w : mW) (s0 : Int32) : Option (Int32 × mW) := some (s0, w)
noncomputable def e_X0_stampSeen (w : mW) (h : Nat) (p0 : Int32) : Option (Int32 × mW) := m_b (e_X6_isName w p0) fun r1 w2 => if r1 = (0 : Int32) then (e_X0_stampSeen_17 w2 0) else (m_g (m_kd w2 h = 4) <| m_o (m_fr w2 3 6 h) fun r6 => m_g (m_kd w2 r6 = 21 ∧ ¬ (p0 < 0 ∨ m_ln w2 r6 ≤ p0.toNatClampNeg)) <| e_X0_stampSeen_17 w2 (m_ia w2 r6 p0.toNatClampNeg))
set_option maxHeartbeats 1000000 in
set_option maxRecDepth 100000 in
theorem c_X0_stampSeen (l : Launch) (G : m_G) (w w' : mW) (h : Nat) (p0 : Int32) (r : Int32) (hd : e_X0_stampSeen w h p0 = some (r, w')) : Met l yX0_stampSeen wsX0_stampSeen ({ frames := 1, cells := 0, slots := 0, locals := 20 } : Room) (m_Pc G w [.ref (h), .int (p0)]) (m_Qi G r w') 0 0 (fun q => G.1 ≤ q) := by
  refine Met.ofW (cc := cX0_stampSeen) (maxL := 2) (ret := (some .int)) (by decide +kernel) rfl ?_
  intro p e s m args below meth c s₁ B hml hv
  obtain ⟨rfl, hM, hP⟩ := hv
  have hx := B.exec
  have hb := B.bytes
  have hr := B.returns
  have hts := atoms_spec (ws := wsX0_stampSeen) B.pre
  have hown : s.vm.findClass RX0 = some m.cls := findClass_of_methodNamed B.named
  have hlocks := B.notSynchronized
  have hin3 : ∀ w ∈ u_ws RX0 TX0 7, w ∈ wsX0_stampSeen := by decide +kernel
  have hS : va_S (fun q => G.1 ≤ q) s.heap s.heap [] := va_S.rf
  have J17 : ∀ (w : mW) (s0 : Int32) (H : Heap) (locs : List Loc) (ls : Array Slot), e_X0_stampSeen_17 w s0 = some (r, w') → mP G w H → va_S (fun q => G.1 ≤ q) s.heap H locs → lv_has ls 2 [] → W p l e ({ frames := 1, cells := 0, slots := 0, locals := 20 } : Room) s m ([.ref (h), .int (p0)] : List Value).toArray below meth c H locs 0 0 (MQ below (m_Qi G r w') ([.ref (h), .int (p0)] : List Value).toArray s 0 0 (fun q => G.1 ≤ q)) (F0 m 17 ls [.int (s0)]) := by
    intro w s0 H locs ls hd hP hS hl
    obtain ⟨e1, e2⟩ := m_s_e hd
    refine W.widen (k := 0) (n := 0) (Nat.le_of_ble_eq_true rfl) (Nat.le_of_ble_eq_true rfl) ?_
    exact W.iret hx hb hr (fun t ht hW => ⟨⟨_, w, rfl, ⟨e1, e2⟩, by show mP _ _ t.heap; rw [ht]; exact hP⟩, hS.F ht⟩) hS.2.2 dX0_stampSeen_17
  have hl := lv_entry ([.ref (h), .int (p0)]) (n := 2) (Nat.le_of_ble_eq_true rfl)
  rw [lg_entry_eq]
  generalize (lg_sl ([.ref (h), .int (p0)]) ++ List.replicate (2 - (lg_sl ([.ref (h), .int (p0)])).length) Slot.unset).toArray = ls at hl ⊢
  have hl : lv_has ls 2 [(0, .ref (h)), (1, .int (p0))] := hl
  refine lv_iload_n hx hb dX0_stampSeen_0 rfl (lv_at hl 1 rfl) ?_
  obtain ⟨r1, w2, hc3, hd⟩ := m_b_e hd
  refine m_calli (k := 0) (n := 0) (va_runSN (As := [.int (p0)]) (rest := []) ⟨hx, hb, hml, hown, hts⟩ (c_X6_isName l G w w2 p0 r1 hc3) ⟨va_cnB (host := RX6) 1 hts gX0_stampSeen_X6_isName_n52 rfl rfl rfl (hM.2.1.2.2.2.2.2.2.2 (RX0, 52, yX6_isName) (by decide +kernel)) (hts (.initialized RX6) (by decide +kernel)) (by decide +kernel) ⟨(Nat.le_of_ble_eq_true rfl), (Nat.le_of_ble_eq_true rfl)⟩, (hts (.static yX6_isName) (by decide +kernel)), trivial⟩ (m_preS hM hP hS) rfl rfl hl.1 rfl (lv_room (Nat.le_of_ble_eq_true rfl)) dX0_stampSeen_1 ⟨(Nat.le_of_ble_eq_true rfl), (Nat.le_of_ble_eq_true rfl)⟩) hS ⟨(Nat.le_of_ble_eq_true rfl), (Nat.le_of_ble_eq_true rfl)⟩ (fun H locs hP hS => ?_)
  refine lv_if_eq (tgt := 16) hx hb dX0_stampSeen_4 (by decide) (fun c4 => ?_) (fun c4 => ?_)
  · have hd := m_i_t c4 hd
    refine lv_iconst (v := 0) hx hb dX0_stampSeen_16 (by decide) ?_
    refine W.widen (k := 0) (n := 0) (Nat.le_of_ble_eq_true rfl) (Nat.le_of_ble_eq_true rfl) ?_
    exact J17 w2 0 _ _ _ hd hP hS (lv_sub hl [] rfl)
  · have hd := m_i_f c4 hd
    refine lv_aload_n hx hb dX0_stampSeen_7 rfl (lv_at hl 0 rfl) ?_
    obtain ⟨hk5, hd⟩ := m_g_e hd
    obtain ⟨r6, hr6, hd⟩ := m_o_e hd
    refine m_getR (C := RX0) (T := TX0) (N := 7) (own := RX0) (ref := RX0) hx hb hts hin3 hown hM.1 hP 3 rfl 6 (r := r6) ⟨hk5, hr6⟩ (by decide) (hts (.fieldLink RX0 18 "CellNotebook$Attempt" "stampsSeen" "[I") (by decide +kernel)) (fun _ h9 => h9) dX0_stampSeen_8 ?_
    refine lv_iload_n hx hb dX0_stampSeen_11 rfl (lv_at hl 1 rfl) ?_
    obtain ⟨hg7, hd⟩ := m_g_e hd
    refine m_iald hx hb hM.1 hP hg7 dX0_stampSeen_12 ?_
    refine lv_goto (tgt := 17) hx hb dX0_stampSeen_13 (by decide) ?_
    refine W.widen (k := 0) (n := 0) (Nat.le_of_ble_eq_true rfl) (Nat.le_of_ble_eq_true rfl) ?_
    exact J17 w2 (m_ia w2 r6 p0.toNatClampNeg) _ _ _ hd hP hS (lv_sub hl [] rfl)


noncomputable def e_X1_init (t0 : Nat × Nat × Nat × Nat) (w : mW) (h : Nat) (p0 : Int32) : Option (Unit × mW) := m_l (m_nO w 2) fun w1 => m_b (e_Jx4a65c_init_da8c8 t0 w1 (m_nx w)) fun r3 w4 => m_g (m_kd w4 h = 5) <| m_l (m_sR w4 4 1 h (some (m_nx w))) fun w7 => m_l (m_sI w7 4 2 h 0) fun w8 => m_g (¬ 5 < (0 : Int32) ∧ (5 : Int32).toNatClampNeg ≤ 5 ∧ 5 ≤ 4000) <| m_l (m_nA w8 21 (5 : Int32).toNatClampNeg) fun w10 => m_l (m_sR w10 4 3 h (some (m_nx w8))) fun w12 => m_l (m_sI w12 4 0 h p0) fun w13 => m_o (m_fr w13 4 3 h) fun r14 => m_g (m_kd w13 r14 = 21 ∧ ¬ ((0 : Int32) < 0 ∨ m_ln w13 r14 ≤ (0 : Int32).toNatClampNeg)) <| m_l (m_sA w13 r14 ((0 : Int32).toNatClampNeg) 3) fun w16 => some ((), w16)
set_option maxHeartbeats 1000000 in
set_option maxRecDepth 100000 in
theorem c_X1_init (l : Launch) (G : m_G) (w w' : mW) (h : Nat) (p0 : Int32) (r : Unit) (hd : e_X1_init G.2.2.2 w h p0 = some (r, w')) : Met l yX1_init wsX1_init ({ frames := 4, cells := 2, slots := 8, locals := 84 } : Room) (m_Pc G w [.ref (h), .int (p0)]) (m_Qv G r w') 2 8 (fun q => G.1 ≤ q) := by
  refine Met.ofW (cc := cX1_init) (maxL := 2) (ret := none) (by decide +kernel) rfl ?_
  intro p e s m args below meth c s₁ B hml hv
  obtain ⟨rfl, hM, hP⟩ := hv
  have hx := B.exec
  have hb := B.bytes
  have hr := B.returns
  have hts := atoms_spec (ws := wsX1_init) B.pre
  have hown : s.vm.findClass RX1 = some m.cls := findClass_of_methodNamed B.named
  have hlocks := B.notSynchronized
  have hin : meth.name = "<init>" := (name_of_methodNamed B.named B.method).1
  have hin2 : ∀ w ∈ u_ws RJx4a65c TJx4a65c 3, w ∈ wsX1_init := by decide +kernel
  have hin4 : ∀ w ∈ u_ws RX1 TX1 4, w ∈ wsX1_init := by decide +kernel
  have hS : va_S (fun q => G.1 ≤ q) s.heap s.heap [] := va_S.rf
  have hl := lv_entry ([.ref (h), .int (p0)]) (n := 2) (Nat.le_of_ble_eq_true rfl)
  rw [lg_entry_eq]
  generalize (lg_sl ([.ref (h), .int (p0)]) ++ List.replicate (2 - (lg_sl ([.ref (h), .int (p0)])).length) Slot.unset).toArray = ls at hl ⊢
  have hl : lv_has ls 2 [(0, .ref (h)), (1, .int (p0))] := hl
  refine lv_aload_n hx hb dX1_init_0 rfl (lv_at hl 0 rfl) ?_
  refine W.objInit hx hb hown (hts (.methodLink RX1 3 objectInit) (by decide +kernel)) (hts (.instanceMethod objectInit) (by decide +kernel)) (hts (.code objectInit ⟨#[0xb1]⟩ 1 none) (by decide +kernel)) rfl (by rw [hml]; exact hl.1) rfl dX1_init_1 (Nat.le_of_ble_eq_true rfl) (Nat.le_of_ble_eq_true rfl) ?_
  refine W.eq (g2 := F0 m 4 ls []) rfl ?_
  refine lv_aload_n hx hb dX1_init_4 rfl (lv_at hl 0 rfl) ?_
  refine m_new (C := RJx4a65c) (T := TJx4a65c) (N := 3) (own := RX1) hx hb hts hin2 tyJx4a65c tyJx4a65c_ok hown (hts (.classLink RX1 9 RJx4a65c) (by decide +kernel)) (hts (.instantiable RJx4a65c 3) (by decide +kernel)) (hts (.initialized RJx4a65c) (by decide +kernel)) hM.1 hP hS 2 rfl ⟨by decide, by decide, m_dfJx4a65c⟩ (Nat.le_of_ble_eq_true rfl) (Nat.le_of_ble_eq_true rfl) dX1_init_5 (fun H hP hS => ?_)
  obtain ⟨w1, ew, hd⟩ := m_l_e hd
  have hP : mP G w1 H := by rw [ew]; exact hP
  have hk2 : m_kd w1 (m_nx w) = 3 := by rw [ew]; exact m_nO_new
  refine lv_dup hx hb dX1_init_8 rfl ?_
  obtain ⟨r3, w4, hc5, hd⟩ := m_b_e hd
  refine m_callv (k := 1) (n := 3) (va_runI (As := []) (rest := [.ref (m_nx w), .ref (h)]) ⟨hx, hb, hml, hown, hts⟩ (c_Jx4a65c_init_da8c8 l G w1 w4 (m_nx w) r3 hc5) (cwI 0 hts gX1_init_Jx4a65c_init_da8c8 rfl rfl rfl (hts (.initialized RJx4a65c) (by decide +kernel)) (hts (.methodLink RX1 11 yJx4a65c_init_da8c8) (by decide +kernel)) (hts (.instanceMethod yJx4a65c_init_da8c8) (by decide +kernel)) rfl (by decide +kernel) ⟨(Nat.le_of_ble_eq_true rfl), (Nat.le_of_ble_eq_true rfl)⟩) (m_preS hM hP hS) rfl rfl hl.1 rfl (lv_room (Nat.le_of_ble_eq_true rfl)) dX1_init_9 ⟨(Nat.le_of_ble_eq_true rfl), (Nat.le_of_ble_eq_true rfl)⟩) hS ⟨(Nat.le_of_ble_eq_true rfl), (Nat.le_of_ble_eq_true rfl)⟩ (fun H locs hP hS => ?_)
  obtain ⟨hk6, hd⟩ := m_g_e hd
  refine m_putR (C := RX1) (T := TX1) (N := 4) (own := RX1) (ref := RX1) hx hb hts hin4 tyX1 tyX1_ok nmX1 hown hM.1 hP hS 4 rfl 1 hk6 (by decide) (hts (.fieldLink RX1 12 "CellNotebook$Cell" "program" "Ljava/util/ArrayList;") (by decide +kernel)) (fun _ h9 => h9) (Or.inr ⟨rfl, hin, rfl⟩) (ty := .object "java/util/ArrayList") (by decide +kernel) ⟨rfl, rfl⟩ dX1_init_12 (fun H locs hP hS => ?_)
  obtain ⟨w7, ew, hd⟩ := m_l_e hd
  have hP : mP G w7 H := by rw [ew]; exact hP
  have hk6 : m_kd w7 h = 5 := by rw [ew]; exact hk6
  refine lv_aload_n hx hb dX1_init_15 rfl (lv_at hl 0 rfl) ?_
  refine lv_iconst (v := 0) hx hb dX1_init_16 (by decide) ?_
  refine m_putI (C := RX1) (T := TX1) (N := 4) (own := RX1) (ref := RX1) hx hb hts hin4 tyX1 tyX1_ok nmX1 hown hM.1 hP hS 4 rfl 2 hk6 (by decide) (hts (.fieldLink RX1 18 "CellNotebook$Cell" "runsAtChange" "I") (by decide +kernel)) (fun _ h9 => h9) (Or.inl rfl) (ty := .int) rfl ⟨rfl, rfl⟩ dX1_init_17 (fun H locs hP hS => ?_)
  obtain ⟨w8, ew, hd⟩ := m_l_e hd
  have hP : mP G w8 H := by rw [ew]; exact hP
  have hk6 : m_kd w8 h = 5 := by rw [ew]; exact hk6
  refine lv_aload_n hx hb dX1_init_20 rfl (lv_at hl 0 rfl) ?_
  refine lv_iconst (v := 5) hx hb dX1_init_21 (by decide) ?_
  obtain ⟨hg9, hd⟩ := m_g_e hd
  have hne0 : h ≠ m_nx w8 := m_ne hP hk6 (by decide)
  refine m_newA (atype := .int) 21 hx hb (hts (.arrayClass .int) (by decide +kernel)) rfl hM.1 hP hS (t0 := 0) rfl m_naint hg9 (Nat.le_of_ble_eq_true rfl) (Nat.le_of_ble_eq_true rfl) dX1_init_22 (fun H hP hS => ?_)
  obtain ⟨w10, ew, hd⟩ := m_l_e hd
  have hP : mP G w10 H := by rw [ew]; exact hP
  have hk6 : m_kd w10 h = 5 := by rw [ew]; exact m_nA_old hk6 hne0
  have hk11 : m_kd w10 (m_nx w8) = 21 := by rw [ew]; exact m_nA_new
  refine m_putR (C := RX1) (T := TX1) (N := 4) (own := RX1) (ref := RX1) hx hb hts hin4 tyX1 tyX1_ok nmX1 hown hM.1 hP hS 4 rfl 3 hk6 (by decide) (hts (.fieldLink RX1 22 "CellNotebook$Cell" "rights" "[I") (by decide +kernel)) (fun _ h9 => h9) (Or.inr ⟨rfl, hin, rfl⟩) (ty := .array .int) (by decide +kernel) ⟨rfl, rfl⟩ dX1_init_24 (fun H locs hP hS => ?_)
  obtain ⟨w12, ew, hd⟩ := m_l_e hd
  have hP : mP G w12 H := by rw [ew]; exact hP
  have hk6 : m_kd w12 h = 5 := by rw [ew]; exact hk6
  have hk11 : m_kd w12 (m_nx w8) = 21 := by rw [ew]; exact hk11
  refine lv_aload_n hx hb dX1_init_27 rfl (lv_at hl 0 rfl) ?_
  refine lv_iload_n hx hb dX1_init_28 rfl (lv_at hl 1 rfl) ?_
  refine m_putI (C := RX1) (T := TX1) (N := 4) (own := RX1) (ref := RX1) hx hb hts hin4 tyX1 tyX1_ok nmX1 hown hM.1 hP hS 4 rfl 0 hk6 (by decide) (hts (.fieldLink RX1 26 "CellNotebook$Cell" "number" "I") (by decide +kernel)) (fun _ h9 => h9) (Or.inr ⟨rfl, hin, rfl⟩) (ty := .int) rfl ⟨rfl, rfl⟩ dX1_init_29 (fun H locs hP hS => ?_)
  obtain ⟨w13, ew, hd⟩ := m_l_e hd
  have hP : mP G w13 H := by rw [ew]; exact hP
  have hk6 : m_kd w13 h = 5 := by rw [ew]; exact hk6
  have hk11 : m_kd w13 (m_nx w8) = 21 := by rw [ew]; exact hk11
  refine lv_aload_n hx hb dX1_init_32 rfl (lv_at hl 0 rfl) ?_
  obtain ⟨r14, hr14, hd⟩ := m_o_e hd
  refine m_getR (C := RX1) (T := TX1) (N := 4) (own := RX1) (ref := RX1) hx hb hts hin4 hown hM.1 hP 4 rfl 3 (r := r14) ⟨hk6, hr14⟩ (by decide) (hts (.fieldLink RX1 22 "CellNotebook$Cell" "rights" "[I") (by decide +kernel)) (fun _ h9 => h9) dX1_init_33 ?_
  refine lv_iconst (v := 0) hx hb dX1_init_36 (by decide) ?_
  refine lv_iconst (v := 3) hx hb dX1_init_37 (by decide) ?_
  obtain ⟨hg15, hd⟩ := m_g_e hd
  refine m_iast hx hb hM.1 hP hS hg15 dX1_init_38 (fun H locs hP hS => ?_)
  obtain ⟨w16, ew, hd⟩ := m_l_e hd
  have hP : mP G w16 H := by rw [ew]; exact hP
  have hk6 : m_kd w16 h = 5 := by rw [ew]; exact hk6
  have hk11 : m_kd w16 (m_nx w8) = 21 := by rw [ew]; exact hk11
  obtain ⟨e1, e2⟩ := m_s_e hd
  refine W.widen (k := 2) (n := 8) (Nat.le_of_ble_eq_true rfl) (Nat.le_of_ble_eq_true rfl) ?_
  exact W.vret hx hb hr (fun t ht hW => ⟨⟨w16, rfl, e2, by show mP _ _ t.heap; rw [ht]; exact hP⟩, hS.F ht⟩) hS.2.2 dX1_init_39


noncomputable def e_X1_rightOf_23 (w : mW) (s0 : Int32) : Option (Int32 × mW) := some (s0, w)
noncomputable def e_X1_rightOf_22 (w : mW)  : Option (Int32 × mW) := e_X1_rightOf_23 w 0
noncomputable def e_X1_rightOf (w : mW) (h : Nat) (p0 : Int32) : Option (Int32 × mW) := if p0 < (0 : Int32) then (e_X1_rightOf_22 w) else (m_g (m_kd w h = 5) <| m_o (m_fr w 4 3 h) fun r3 => m_g (21 ≤ m_kd w r3 ∧ m_kd w r3 ≤ 25) <| if (nI (m_ln w r3)) ≤ p0 then (e_X1_rightOf_22 w) else (m_o (m_fr w 4 3 h) fun r6 => m_g (m_kd w r6 = 21 ∧ ¬ (p0 < 0 ∨ m_ln w r6 ≤ p0.toNatClampNeg)) <| e_X1_rightOf_23 w (m_ia w r6 p0.toNatClampNeg)))
set_option maxHeartbeats 1000000 in
set_option maxRecDepth 100000 in
theorem c_X1_rightOf (l : Launch) (G : m_G) (w w' : mW) (h : Nat) (p0 : Int32) (r : Int32) (hd : e_X1_rightOf w h p0 = some (r, w')) : Met l yX1_rightOf wsX1_rightOf ({ frames := 0, cells := 0, slots := 0, locals := 0 } : Room) (m_Pc G w [.ref (h), .int (p0)]) (m_Qi G r w') 0 0 (fun q => G.1 ≤ q) := by
  refine Met.ofW (cc := cX1_rightOf) (maxL := 2) (ret := (some .int)) (by decide +kernel) rfl ?_
  intro p e s m args below meth c s₁ B hml hv
  obtain ⟨rfl, hM, hP⟩ := hv
  have hx := B.exec
  have hb := B.bytes
  have hr := B.returns
  have hts := atoms_spec (ws := wsX1_rightOf) B.pre
  have hown : s.vm.findClass RX1 = some m.cls := findClass_of_methodNamed B.named
  have hlocks := B.notSynchronized
  have hin4 : ∀ w ∈ u_ws RX1 TX1 4, w ∈ wsX1_rightOf := by decide +kernel
  have hS : va_S (fun q => G.1 ≤ q) s.heap s.heap [] := va_S.rf
  have J23 : ∀ (w : mW) (s0 : Int32) (H : Heap) (locs : List Loc) (ls : Array Slot), e_X1_rightOf_23 w s0 = some (r, w') → mP G w H → va_S (fun q => G.1 ≤ q) s.heap H locs → lv_has ls 2 [] → W p l e ({ frames := 0, cells := 0, slots := 0, locals := 0 } : Room) s m ([.ref (h), .int (p0)] : List Value).toArray below meth c H locs 0 0 (MQ below (m_Qi G r w') ([.ref (h), .int (p0)] : List Value).toArray s 0 0 (fun q => G.1 ≤ q)) (F0 m 23 ls [.int (s0)]) := by
    intro w s0 H locs ls hd hP hS hl
    obtain ⟨e1, e2⟩ := m_s_e hd
    refine W.widen (k := 0) (n := 0) (Nat.le_of_ble_eq_true rfl) (Nat.le_of_ble_eq_true rfl) ?_
    exact W.iret hx hb hr (fun t ht hW => ⟨⟨_, w, rfl, ⟨e1, e2⟩, by show mP _ _ t.heap; rw [ht]; exact hP⟩, hS.F ht⟩) hS.2.2 dX1_rightOf_23
  have J22 : ∀ (w : mW) (H : Heap) (locs : List Loc) (ls : Array Slot), e_X1_rightOf_22 w = some (r, w') → mP G w H → va_S (fun q => G.1 ≤ q) s.heap H locs → lv_has ls 2 [] → W p l e ({ frames := 0, cells := 0, slots := 0, locals := 0 } : Room) s m ([.ref (h), .int (p0)] : List Value).toArray below meth c H locs 0 0 (MQ below (m_Qi G r w') ([.ref (h), .int (p0)] : List Value).toArray s 0 0 (fun q => G.1 ≤ q)) (F0 m 22 ls []) := by
    intro w H locs ls hd hP hS hl
    refine lv_iconst (v := 0) hx hb dX1_rightOf_22 (by decide) ?_
    refine W.widen (k := 0) (n := 0) (Nat.le_of_ble_eq_true rfl) (Nat.le_of_ble_eq_true rfl) ?_
    exact J23 w 0 _ _ _ hd hP hS (lv_sub hl [] rfl)
  have hl := lv_entry ([.ref (h), .int (p0)]) (n := 2) (Nat.le_of_ble_eq_true rfl)
  rw [lg_entry_eq]
  generalize (lg_sl ([.ref (h), .int (p0)]) ++ List.replicate (2 - (lg_sl ([.ref (h), .int (p0)])).length) Slot.unset).toArray = ls at hl ⊢
  have hl : lv_has ls 2 [(0, .ref (h)), (1, .int (p0))] := hl
  refine lv_iload_n hx hb dX1_rightOf_0 rfl (lv_at hl 1 rfl) ?_
  refine lv_if_lt (tgt := 22) hx hb dX1_rightOf_1 (by decide) (fun c1 => ?_) (fun c1 => ?_)
  · have hd := m_i_t c1 hd
    refine W.widen (k := 0) (n := 0) (Nat.le_of_ble_eq_true rfl) (Nat.le_of_ble_eq_true rfl) ?_
    exact J22 w _ _ _ hd hP hS (lv_sub hl [] rfl)
  · have hd := m_i_f c1 hd
    refine lv_iload_n hx hb dX1_rightOf_4 rfl (lv_at hl 1 rfl) ?_
    refine lv_aload_n hx hb dX1_rightOf_5 rfl (lv_at hl 0 rfl) ?_
    obtain ⟨hk2, hd⟩ := m_g_e hd
    obtain ⟨r3, hr3, hd⟩ := m_o_e hd
    refine m_getR (C := RX1) (T := TX1) (N := 4) (own := RX1) (ref := RX1) hx hb hts hin4 hown hM.1 hP 4 rfl 3 (r := r3) ⟨hk2, hr3⟩ (by decide) (hts (.fieldLink RX1 22 "CellNotebook$Cell" "rights" "[I") (by decide +kernel)) (fun _ h9 => h9) dX1_rightOf_6 ?_
    obtain ⟨hg4, hd⟩ := m_g_e hd
    refine m_alen hx hb hM.1 hP hg4 dX1_rightOf_9 ?_
    refine lv_icmp_ge (tgt := 22) hx hb dX1_rightOf_10 (by decide) (fun c5 => ?_) (fun c5 => ?_)
    · have hd := m_i_t c5 hd
      refine W.widen (k := 0) (n := 0) (Nat.le_of_ble_eq_true rfl) (Nat.le_of_ble_eq_true rfl) ?_
      exact J22 w _ _ _ hd hP hS (lv_sub hl [] rfl)
    · have hd := m_i_f c5 hd
      refine lv_aload_n hx hb dX1_rightOf_13 rfl (lv_at hl 0 rfl) ?_
      obtain ⟨r6, hr6, hd⟩ := m_o_e hd
      refine m_getR (C := RX1) (T := TX1) (N := 4) (own := RX1) (ref := RX1) hx hb hts hin4 hown hM.1 hP 4 rfl 3 (r := r6) ⟨hk2, hr6⟩ (by decide) (hts (.fieldLink RX1 22 "CellNotebook$Cell" "rights" "[I") (by decide +kernel)) (fun _ h9 => h9) dX1_rightOf_14 ?_
      refine lv_iload_n hx hb dX1_rightOf_17 rfl (lv_at hl 1 rfl) ?_
      obtain ⟨hg7, hd⟩ := m_g_e hd
      refine m_iald hx hb hM.1 hP hg7 dX1_rightOf_18 ?_
      refine lv_goto (tgt := 23) hx hb dX1_rightOf_19 (by decide) ?_
      refine W.widen (k := 0) (n := 0) (Nat.le_of_ble_eq_true rfl) (Nat.le_of_ble_eq_true rfl) ?_
      exact J23 w (m_ia w r6 p0.toNatClampNeg) _ _ _ hd hP hS (lv_sub hl [] rfl)


noncomputable def e_X1_giveRight_20 (w : mW)  : Option (Unit × mW) := some ((), w)
noncomputable def e_X1_giveRight (w : mW) (h : Nat) (p0 : Int32) (p1 : Int32) : Option (Unit × mW) := if p0 < (0 : Int32) then (e_X1_giveRight_20 w) else (m_g (m_kd w h = 5) <| m_o (m_fr w 4 3 h) fun r3 => m_g (21 ≤ m_kd w r3 ∧ m_kd w r3 ≤ 25) <| if (nI (m_ln w r3)) ≤ p0 then (e_X1_giveRight_20 w) else (m_o (m_fr w 4 3 h) fun r6 => m_g (m_kd w r6 = 21 ∧ ¬ (p0 < 0 ∨ m_ln w r6 ≤ p0.toNatClampNeg)) <| m_l (m_sA w r6 (p0.toNatClampNeg) p1) fun w8 => e_X1_giveRight_20 w8))
set_option maxHeartbeats 1000000 in
set_option maxRecDepth 100000 in
theorem c_X1_giveRight (l : Launch) (G : m_G) (w w' : mW) (h : Nat) (p0 : Int32) (p1 : Int32) (r : Unit) (hd : e_X1_giveRight w h p0 p1 = some (r, w')) : Met l yX1_giveRight wsX1_giveRight ({ frames := 0, cells := 0, slots := 0, locals := 0 } : Room) (m_Pc G w [.ref (h), .int (p0), .int (p1)]) (m_Qv G r w') 0 0 (fun q => G.1 ≤ q) := by
  refine Met.ofW (cc := cX1_giveRight) (maxL := 3) (ret := none) (by decide +kernel) rfl ?_
  intro p e s m args below meth c s₁ B hml hv
  obtain ⟨rfl, hM, hP⟩ := hv
  have hx := B.exec
  have hb := B.bytes
  have hr := B.returns
  have hts := atoms_spec (ws := wsX1_giveRight) B.pre
  have hown : s.vm.findClass RX1 = some m.cls := findClass_of_methodNamed B.named
  have hlocks := B.notSynchronized
  have hin4 : ∀ w ∈ u_ws RX1 TX1 4, w ∈ wsX1_giveRight := by decide +kernel
  have hS : va_S (fun q => G.1 ≤ q) s.heap s.heap [] := va_S.rf
  have J20 : ∀ (w : mW) (H : Heap) (locs : List Loc) (ls : Array Slot), e_X1_giveRight_20 w = some (r, w') → mP G w H → va_S (fun q => G.1 ≤ q) s.heap H locs → lv_has ls 3 [] → W p l e ({ frames := 0, cells := 0, slots := 0, locals := 0 } : Room) s m ([.ref (h), .int (p0), .int (p1)] : List Value).toArray below meth c H locs 0 0 (MQ below (m_Qv G r w') ([.ref (h), .int (p0), .int (p1)] : List Value).toArray s 0 0 (fun q => G.1 ≤ q)) (F0 m 20 ls []) := by
    intro w H locs ls hd hP hS hl
    obtain ⟨e1, e2⟩ := m_s_e hd
    refine W.widen (k := 0) (n := 0) (Nat.le_of_ble_eq_true rfl) (Nat.le_of_ble_eq_true rfl) ?_
    exact W.vret hx hb hr (fun t ht hW => ⟨⟨w, rfl, e2, by show mP _ _ t.heap; rw [ht]; exact hP⟩, hS.F ht⟩) hS.2.2 dX1_giveRight_20
  have hl := lv_entry ([.ref (h), .int (p0), .int (p1)]) (n := 3) (Nat.le_of_ble_eq_true rfl)
  rw [lg_entry_eq]
  generalize (lg_sl ([.ref (h), .int (p0), .int (p1)]) ++ List.replicate (3 - (lg_sl ([.ref (h), .int (p0), .int (p1)])).length) Slot.unset).toArray = ls at hl ⊢
  have hl : lv_has ls 3 [(0, .ref (h)), (1, .int (p0)), (2, .int (p1))] := hl
  refine lv_iload_n hx hb dX1_giveRight_0 rfl (lv_at hl 1 rfl) ?_
  refine lv_if_lt (tgt := 20) hx hb dX1_giveRight_1 (by decide) (fun c1 => ?_) (fun c1 => ?_)
  · have hd := m_i_t c1 hd
    refine W.widen (k := 0) (n := 0) (Nat.le_of_ble_eq_true rfl) (Nat.le_of_ble_eq_true rfl) ?_
    exact J20 w _ _ _ hd hP hS (lv_sub hl [] rfl)
  · have hd := m_i_f c1 hd
    refine lv_iload_n hx hb dX1_giveRight_4 rfl (lv_at hl 1 rfl) ?_
    refine lv_aload_n hx hb dX1_giveRight_5 rfl (lv_at hl 0 rfl) ?_
    obtain ⟨hk2, hd⟩ := m_g_e hd
    obtain ⟨r3, hr3, hd⟩ := m_o_e hd
    refine m_getR (C := RX1) (T := TX1) (N := 4) (own := RX1) (ref := RX1) hx hb hts hin4 hown hM.1 hP 4 rfl 3 (r := r3) ⟨hk2, hr3⟩ (by decide) (hts (.fieldLink RX1 22 "CellNotebook$Cell" "rights" "[I") (by decide +kernel)) (fun _ h9 => h9) dX1_giveRight_6 ?_
    obtain ⟨hg4, hd⟩ := m_g_e hd
    refine m_alen hx hb hM.1 hP hg4 dX1_giveRight_9 ?_
    refine lv_icmp_ge (tgt := 20) hx hb dX1_giveRight_10 (by decide) (fun c5 => ?_) (fun c5 => ?_)
    · have hd := m_i_t c5 hd
      refine W.widen (k := 0) (n := 0) (Nat.le_of_ble_eq_true rfl) (Nat.le_of_ble_eq_true rfl) ?_
      exact J20 w _ _ _ hd hP hS (lv_sub hl [] rfl)
    · have hd := m_i_f c5 hd
      refine lv_aload_n hx hb dX1_giveRight_13 rfl (lv_at hl 0 rfl) ?_
      obtain ⟨r6, hr6, hd⟩ := m_o_e hd
      refine m_getR (C := RX1) (T := TX1) (N := 4) (own := RX1) (ref := RX1) hx hb hts hin4 hown hM.1 hP 4 rfl 3 (r := r6) ⟨hk2, hr6⟩ (by decide) (hts (.fieldLink RX1 22 "CellNotebook$Cell" "rights" "[I") (by decide +kernel)) (fun _ h9 => h9) dX1_giveRight_14 ?_
      refine lv_iload_n hx hb dX1_giveRight_17 rfl (lv_at hl 1 rfl) ?_
      refine lv_iload_n hx hb dX1_giveRight_18 rfl (lv_at hl 2 rfl) ?_
      obtain ⟨hg7, hd⟩ := m_g_e hd
      refine m_iast hx hb hM.1 hP hS hg7 dX1_giveRight_19 (fun H locs hP hS => ?_)
      obtain ⟨w8, ew, hd⟩ := m_l_e hd
      have hP : mP G w8 H := by rw [ew]; exact hP
      have hk2 : m_kd w8 h = 5 := by rw [ew]; exact hk2
      refine W.widen (k := 0) (n := 0) (Nat.le_of_ble_eq_true rfl) (Nat.le_of_ble_eq_true rfl) ?_
      exact J20 w8 _ _ _ hd hP hS (lv_sub hl [] rfl)


noncomputable def e_X1_allows_14 (w : mW) (s0 : Int32) : Option (Int32 × mW) := m_g (vp_nar .boolean s0 = s0) <| some (s0, w)
noncomputable def e_X1_allows (w : mW) (h : Nat) (p0 : Int32) (p1 : Int32) : Option (Int32 × mW) := m_g (m_kd w h = 5) <| m_b (e_X1_rightOf w h p0) fun r2 w3 => if r2 < p1 then (e_X1_allows_14 w3 0) else (e_X1_allows_14 w3 1)
set_option maxHeartbeats 1000000 in
set_option maxRecDepth 100000 in
theorem c_X1_allows (l : Launch) (G : m_G) (w w' : mW) (h : Nat) (p0 : Int32) (p1 : Int32) (r : Int32) (hd : e_X1_allows w h p0 p1 = some (r, w')) : Met l yX1_allows wsX1_allows ({ frames := 1, cells := 0, slots := 0, locals := 21 } : Room) (m_Pc G w [.ref (h), .int (p0), .int (p1)]) (m_Qi G r w') 0 0 (fun q => G.1 ≤ q) := by
  refine Met.ofW (cc := cX1_allows) (maxL := 3) (ret := (some .boolean)) (by decide +kernel) rfl ?_
  intro p e s m args below meth c s₁ B hml hv
  obtain ⟨rfl, hM, hP⟩ := hv
  have hx := B.exec
  have hb := B.bytes
  have hr := B.returns
  have hts := atoms_spec (ws := wsX1_allows) B.pre
  have hown : s.vm.findClass RX1 = some m.cls := findClass_of_methodNamed B.named
  have hlocks := B.notSynchronized
  have hS : va_S (fun q => G.1 ≤ q) s.heap s.heap [] := va_S.rf
  have J14 : ∀ (w : mW) (s0 : Int32) (H : Heap) (locs : List Loc) (ls : Array Slot), e_X1_allows_14 w s0 = some (r, w') → mP G w H → va_S (fun q => G.1 ≤ q) s.heap H locs → lv_has ls 3 [] → W p l e ({ frames := 1, cells := 0, slots := 0, locals := 21 } : Room) s m ([.ref (h), .int (p0), .int (p1)] : List Value).toArray below meth c H locs 0 0 (MQ below (m_Qi G r w') ([.ref (h), .int (p0), .int (p1)] : List Value).toArray s 0 0 (fun q => G.1 ≤ q)) (F0 m 14 ls [.int (s0)]) := by
    intro w s0 H locs ls hd hP hS hl
    obtain ⟨hn106, hd⟩ := m_g_e hd
    obtain ⟨e1, e2⟩ := m_s_e hd
    refine W.widen (k := 0) (n := 0) (Nat.le_of_ble_eq_true rfl) (Nat.le_of_ble_eq_true rfl) ?_
    exact W.zret hx hb hr (m_narZ hn106).1 (fun t ht hW => ⟨⟨_, w, rfl, ⟨e1, e2⟩, by show mP _ _ t.heap; rw [ht]; exact hP⟩, hS.F ht⟩) hS.2.2 dX1_allows_14
  have hl := lv_entry ([.ref (h), .int (p0), .int (p1)]) (n := 3) (Nat.le_of_ble_eq_true rfl)
  rw [lg_entry_eq]
  generalize (lg_sl ([.ref (h), .int (p0), .int (p1)]) ++ List.replicate (3 - (lg_sl ([.ref (h), .int (p0), .int (p1)])).length) Slot.unset).toArray = ls at hl ⊢
  have hl : lv_has ls 3 [(0, .ref (h)), (1, .int (p0)), (2, .int (p1))] := hl
  refine lv_aload_n hx hb dX1_allows_0 rfl (lv_at hl 0 rfl) ?_
  refine lv_iload_n hx hb dX1_allows_1 rfl (lv_at hl 1 rfl) ?_
  obtain ⟨hk1, hd⟩ := m_g_e hd
  obtain ⟨r2, w3, hc4, hd⟩ := m_b_e hd
  refine m_calli (k := 0) (n := 0) (va_runV (As := [.int (p0)]) (rest := []) ⟨hx, hb, hml, hown, hts⟩ (c_X1_rightOf l G w w3 h p0 r2 hc4) (cwV 1 hts gX1_allows_X1_rightOf rfl rfl rfl (by decide +kernel) ⟨(Nat.le_of_ble_eq_true rfl), (Nat.le_of_ble_eq_true rfl)⟩) (m_preV (C := RX1) (T := TX1) (N := 4) hM hP hS rfl (by decide) hk1) rfl rfl hl.1 rfl (lv_room (Nat.le_of_ble_eq_true rfl)) dX1_allows_2 ⟨(Nat.le_of_ble_eq_true rfl), (Nat.le_of_ble_eq_true rfl)⟩) hS ⟨(Nat.le_of_ble_eq_true rfl), (Nat.le_of_ble_eq_true rfl)⟩ (fun H locs hP hS => ?_)
  refine lv_iload_n hx hb dX1_allows_5 rfl (lv_at hl 2 rfl) ?_
  refine lv_icmp_lt (tgt := 13) hx hb dX1_allows_6 (by decide) (fun c5 => ?_) (fun c5 => ?_)
  · have hd := m_i_t c5 hd
    refine lv_iconst (v := 0) hx hb dX1_allows_13 (by decide) ?_
    refine W.widen (k := 0) (n := 0) (Nat.le_of_ble_eq_true rfl) (Nat.le_of_ble_eq_true rfl) ?_
    exact J14 w3 0 _ _ _ hd hP hS (lv_sub hl [] rfl)
  · have hd := m_i_f c5 hd
    refine lv_iconst (v := 1) hx hb dX1_allows_9 (by decide) ?_
    refine lv_goto (tgt := 14) hx hb dX1_allows_10 (by decide) ?_
    refine W.widen (k := 0) (n := 0) (Nat.le_of_ble_eq_true rfl) (Nat.le_of_ble_eq_true rfl) ?_
    exact J14 w3 1 _ _ _ hd hP hS (lv_sub hl [] rfl)


noncomputable def e_X5_letter (w : mW) (p0 : Int32) : Option (Int32 × mW) := m_g (vp_nar .char (((97 + p0).toUInt32 % 65536).toInt32) = ((97 + p0).toUInt32 % 65536).toInt32) <| some (((97 + p0).toUInt32 % 65536).toInt32, w)
set_option maxHeartbeats 1000000 in
set_option maxRecDepth 100000 in
theorem c_X5_letter (l : Launch) (G : m_G) (w w' : mW) (p0 : Int32) (r : Int32) (hd : e_X5_letter w p0 = some (r, w')) : Met l yX5_letter wsX5_letter ({ frames := 0, cells := 0, slots := 0, locals := 0 } : Room) (m_Pc G w [.int (p0)]) (m_Qi G r w') 0 0 (fun q => G.1 ≤ q) := by
  refine Met.ofW (cc := cX5_letter) (maxL := 1) (ret := (some .char)) (by decide +kernel) rfl ?_
  intro p e s m args below meth c s₁ B hml hv
  obtain ⟨rfl, hM, hP⟩ := hv
  have hx := B.exec
  have hb := B.bytes
  have hr := B.returns
  have hts := atoms_spec (ws := wsX5_letter) B.pre
  have hown : s.vm.findClass RX5 = some m.cls := findClass_of_methodNamed B.named
  have hlocks := B.notSynchronized
  have hS : va_S (fun q => G.1 ≤ q) s.heap s.heap [] := va_S.rf
  have hl := lv_entry ([.int (p0)]) (n := 1) (Nat.le_of_ble_eq_true rfl)
  rw [lg_entry_eq]
  generalize (lg_sl ([.int (p0)]) ++ List.replicate (1 - (lg_sl ([.int (p0)])).length) Slot.unset).toArray = ls at hl ⊢
  have hl : lv_has ls 1 [(0, .int (p0))] := hl
  refine lv_bipush (v := 97) hx hb dX5_letter_0 (by decide) ?_
  refine lv_iload_n hx hb dX5_letter_2 rfl (lv_at hl 0 rfl) ?_
  refine lv_iadd hx hb dX5_letter_3 ?_
  refine lv_i2c (v := ((97 + p0).toUInt32 % 65536).toInt32) hx hb dX5_letter_4 rfl ?_
  obtain ⟨hn1, hd⟩ := m_g_e hd
  obtain ⟨e1, e2⟩ := m_s_e hd
  refine W.widen (k := 0) (n := 0) (Nat.le_of_ble_eq_true rfl) (Nat.le_of_ble_eq_true rfl) ?_
  exact W.zret hx hb hr (m_narC hn1).1 (fun t ht hW => ⟨⟨_, w, rfl, ⟨e1, e2⟩, by show mP _ _ t.heap; rw [ht]; exact hP⟩, hS.F ht⟩) hS.2.2 dX5_letter_5


noncomputable def e_X5_writeOperand_29 (t0 : Nat × Nat × Nat × Nat) (w : mW)  : Option (Unit × mW) := some ((), w)
noncomputable def e_X5_writeOperand (t0 : Nat × Nat × Nat × Nat) (w : mW) (p0 : Int32) (p1 : Nat) : Option (Unit × mW) := m_b (e_X6_isName w p0) fun r1 w2 => if r1 = (0 : Int32) then (m_g (m_kd w2 p1 = 2) <| m_b (e_J4_append_bf812 t0 w2 p1 (p0 - 600)) fun r6 w7 => e_X5_writeOperand_29 t0 w7) else (m_b (e_X5_letter w2 p0) fun r9 w10 => m_g (m_kd w10 p1 = 2) <| m_b (e_J4_append_cf468 w10 p1 r9) fun r13 w14 => e_X5_writeOperand_29 t0 w14)
set_option maxHeartbeats 1000000 in
set_option maxRecDepth 100000 in
theorem c_X5_writeOperand (l : Launch) (G : m_G) (w w' : mW) (p0 : Int32) (p1 : Nat) (r : Unit) (hd : e_X5_writeOperand G.2.2.2 w p0 p1 = some (r, w')) : Met l yX5_writeOperand wsX5_writeOperand ({ frames := 6, cells := 1, slots := 150, locals := 174 } : Room) (m_Pc G w [.int (p0), .ref (p1)]) (m_Qv G r w') 1 150 (fun q => G.1 ≤ q) := by
  refine Met.ofW (cc := cX5_writeOperand) (maxL := 2) (ret := none) (by decide +kernel) rfl ?_
  intro p e s m args below meth c s₁ B hml hv
  obtain ⟨rfl, hM, hP⟩ := hv
  have hx := B.exec
  have hb := B.bytes
  have hr := B.returns
  have hts := atoms_spec (ws := wsX5_writeOperand) B.pre
  have hown : s.vm.findClass RX5 = some m.cls := findClass_of_methodNamed B.named
  have hlocks := B.notSynchronized
  have hS : va_S (fun q => G.1 ≤ q) s.heap s.heap [] := va_S.rf
  have J29 : ∀ (w : mW) (H : Heap) (locs : List Loc) (ls : Array Slot), e_X5_writeOperand_29 G.2.2.2 w = some (r, w') → mP G w H → va_S (fun q => G.1 ≤ q) s.heap H locs → lv_has ls 2 [] → W p l e ({ frames := 6, cells := 1, slots := 150, locals := 174 } : Room) s m ([.int (p0), .ref (p1)] : List Value).toArray below meth c H locs 1 150 (MQ below (m_Qv G r w') ([.int (p0), .ref (p1)] : List Value).toArray s 1 150 (fun q => G.1 ≤ q)) (F0 m 29 ls []) := by
    intro w H locs ls hd hP hS hl
    obtain ⟨e1, e2⟩ := m_s_e hd
    refine W.widen (k := 1) (n := 150) (Nat.le_of_ble_eq_true rfl) (Nat.le_of_ble_eq_true rfl) ?_
    exact W.vret hx hb hr (fun t ht hW => ⟨⟨w, rfl, e2, by show mP _ _ t.heap; rw [ht]; exact hP⟩, hS.F ht⟩) hS.2.2 dX5_writeOperand_29
  have hl := lv_entry ([.int (p0), .ref (p1)]) (n := 2) (Nat.le_of_ble_eq_true rfl)
  rw [lg_entry_eq]
  generalize (lg_sl ([.int (p0), .ref (p1)]) ++ List.replicate (2 - (lg_sl ([.int (p0), .ref (p1)])).length) Slot.unset).toArray = ls at hl ⊢
  have hl : lv_has ls 2 [(0, .int (p0)), (1, .ref (p1))] := hl
  refine lv_iload_n hx hb dX5_writeOperand_0 rfl (lv_at hl 0 rfl) ?_
  obtain ⟨r1, w2, hc3, hd⟩ := m_b_e hd
  refine m_calli (k := 0) (n := 0) (va_runSN (As := [.int (p0)]) (rest := []) ⟨hx, hb, hml, hown, hts⟩ (c_X6_isName l G w w2 p0 r1 hc3) ⟨va_cnB (host := RX6) 1 hts gX5_writeOperand_X6_isName_n44 rfl rfl rfl (hM.2.1.2.2.2.2.2.2.2 (RX5, 44, yX6_isName) (by decide +kernel)) (hts (.initialized RX6) (by decide +kernel)) (by decide +kernel) ⟨(Nat.le_of_ble_eq_true rfl), (Nat.le_of_ble_eq_true rfl)⟩, (hts (.static yX6_isName) (by decide +kernel)), trivial⟩ (m_preS hM hP hS) rfl rfl hl.1 rfl (lv_room (Nat.le_of_ble_eq_true rfl)) dX5_writeOperand_1 ⟨(Nat.le_of_ble_eq_true rfl), (Nat.le_of_ble_eq_true rfl)⟩) hS ⟨(Nat.le_of_ble_eq_true rfl), (Nat.le_of_ble_eq_true rfl)⟩ (fun H locs hP hS => ?_)
  refine lv_if_eq (tgt := 19) hx hb dX5_writeOperand_4 (by decide) (fun c4 => ?_) (fun c4 => ?_)
  · have hd := m_i_t c4 hd
    refine lv_aload_n hx hb dX5_writeOperand_19 rfl (lv_at hl 1 rfl) ?_
    refine lv_iload_n hx hb dX5_writeOperand_20 rfl (lv_at hl 0 rfl) ?_
    refine lv_sipush (v := 600) hx hb dX5_writeOperand_21 (by decide) ?_
    refine lv_isub hx hb dX5_writeOperand_24 ?_
    obtain ⟨hk5, hd⟩ := m_g_e hd
    obtain ⟨r6, w7, hc8, hd⟩ := m_b_e hd
    refine m_callr (k := 1) (n := 150) (va_runV (As := [.int (p0 - 600)]) (rest := []) ⟨hx, hb, hml, hown, hts⟩ (c_J4_append_bf812 l G w2 w7 p1 (p0 - 600) r6 hc8) (cwV 1 hts gX5_writeOperand_J4_append_bf812 rfl rfl rfl (by decide +kernel) ⟨(Nat.le_of_ble_eq_true rfl), (Nat.le_of_ble_eq_true rfl)⟩) (m_preV (C := RJ4) (T := TJ4) (N := 4) hM hP hS rfl (by decide) hk5) rfl rfl hl.1 rfl (lv_room (Nat.le_of_ble_eq_true rfl)) dX5_writeOperand_25 ⟨(Nat.le_of_ble_eq_true rfl), (Nat.le_of_ble_eq_true rfl)⟩) hS ⟨(Nat.le_of_ble_eq_true rfl), (Nat.le_of_ble_eq_true rfl)⟩ (fun H locs hP hS => ?_)
    refine lv_pop hx hb dX5_writeOperand_28 rfl ?_
    refine W.widen (k := 1) (n := 150) (Nat.le_of_ble_eq_true rfl) (Nat.le_of_ble_eq_true rfl) ?_
    exact J29 w7 _ _ _ hd hP hS (lv_sub hl [] rfl)
  · have hd := m_i_f c4 hd
    refine lv_aload_n hx hb dX5_writeOperand_7 rfl (lv_at hl 1 rfl) ?_
    refine lv_iload_n hx hb dX5_writeOperand_8 rfl (lv_at hl 0 rfl) ?_
    obtain ⟨r9, w10, hc11, hd⟩ := m_b_e hd
    refine m_calli (k := 0) (n := 0) (va_runS (As := [.int (p0)]) (rest := [.ref (p1)]) ⟨hx, hb, hml, hown, hts⟩ (c_X5_letter l G w2 w10 p0 r9 hc11) (va_cwS 1 hts gX5_writeOperand_X5_letter rfl rfl rfl (by decide +kernel) ⟨(Nat.le_of_ble_eq_true rfl), (Nat.le_of_ble_eq_true rfl)⟩) (m_preS hM hP hS) rfl rfl hl.1 rfl (lv_room (Nat.le_of_ble_eq_true rfl)) dX5_writeOperand_9 ⟨(Nat.le_of_ble_eq_true rfl), (Nat.le_of_ble_eq_true rfl)⟩) hS ⟨(Nat.le_of_ble_eq_true rfl), (Nat.le_of_ble_eq_true rfl)⟩ (fun H locs hP hS => ?_)
    obtain ⟨hk12, hd⟩ := m_g_e hd
    obtain ⟨r13, w14, hc15, hd⟩ := m_b_e hd
    refine m_callr (k := 1) (n := 150) (va_runV (As := [.int (r9)]) (rest := []) ⟨hx, hb, hml, hown, hts⟩ (c_J4_append_cf468 l G w10 w14 p1 r9 r13 hc15) (cwV 1 hts gX5_writeOperand_J4_append_cf468 rfl rfl rfl (by decide +kernel) ⟨(Nat.le_of_ble_eq_true rfl), (Nat.le_of_ble_eq_true rfl)⟩) (m_preV (C := RJ4) (T := TJ4) (N := 4) hM hP hS rfl (by decide) hk12) rfl rfl hl.1 rfl (lv_room (Nat.le_of_ble_eq_true rfl)) dX5_writeOperand_12 ⟨(Nat.le_of_ble_eq_true rfl), (Nat.le_of_ble_eq_true rfl)⟩) hS ⟨(Nat.le_of_ble_eq_true rfl), (Nat.le_of_ble_eq_true rfl)⟩ (fun H locs hP hS => ?_)
    refine lv_pop hx hb dX5_writeOperand_15 rfl ?_
    refine lv_goto (tgt := 29) hx hb dX5_writeOperand_16 (by decide) ?_
    refine W.widen (k := 1) (n := 150) (Nat.le_of_ble_eq_true rfl) (Nat.le_of_ble_eq_true rfl) ?_
    exact J29 w14 _ _ _ hd hP hS (lv_sub hl [] rfl)


noncomputable def e_X5_sign (w : mW) (h : Nat) : Option (Int32 × mW) := m_g (m_kd w h = 9) <| if (m_fi w 8 1 h) = (0 : Int32) then (m_g (vp_nar .char 43 = 43) <| some (43, w)) else (if (m_fi w 8 1 h) = (1 : Int32) then (m_g (vp_nar .char 45 = 45) <| some (45, w)) else (if (m_fi w 8 1 h) = (2 : Int32) then (m_g (vp_nar .char 42 = 42) <| some (42, w)) else (m_g (vp_nar .char 47 = 47) <| some (47, w))))
set_option maxHeartbeats 1000000 in
set_option maxRecDepth 100000 in
theorem c_X5_sign (l : Launch) (G : m_G) (w w' : mW) (h : Nat) (r : Int32) (hd : e_X5_sign w h = some (r, w')) : Met l yX5_sign wsX5_sign ({ frames := 0, cells := 0, slots := 0, locals := 0 } : Room) (m_Pc G w [.ref (h)]) (m_Qi G r w') 0 0 (fun q => G.1 ≤ q) := by
  refine Met.ofW (cc := cX5_sign) (maxL := 1) (ret := (some .char)) (by decide +kernel) rfl ?_
  intro p e s m args below meth c s₁ B hml hv
  obtain ⟨rfl, hM, hP⟩ := hv
  have hx := B.exec
  have hb := B.bytes
  have hr := B.returns
  have hts := atoms_spec (ws := wsX5_sign) B.pre
  have hown : s.vm.findClass RX5 = some m.cls := findClass_of_methodNamed B.named
  have hlocks := B.notSynchronized
  have hin8 : ∀ w ∈ u_ws RX5 TX5 4, w ∈ wsX5_sign := by decide +kernel
  have hS : va_S (fun q => G.1 ≤ q) s.heap s.heap [] := va_S.rf
  have hl := lv_entry ([.ref (h)]) (n := 1) (Nat.le_of_ble_eq_true rfl)
  rw [lg_entry_eq]
  generalize (lg_sl ([.ref (h)]) ++ List.replicate (1 - (lg_sl ([.ref (h)])).length) Slot.unset).toArray = ls at hl ⊢
  have hl : lv_has ls 1 [(0, .ref (h))] := hl
  refine lv_aload_n hx hb dX5_sign_0 rfl (lv_at hl 0 rfl) ?_
  obtain ⟨hk1, hd⟩ := m_g_e hd
  refine m_getI (C := RX5) (T := TX5) (N := 4) (own := RX5) (ref := RX5) hx hb hts hin8 hown hM.1 hP 8 rfl 1 hk1 (by decide) (hts (.fieldLink RX5 15 "CellNotebook$Statement" "operation" "I") (by decide +kernel)) (fun _ h9 => h9) dX5_sign_1 ?_
  by_cases c2 : (m_fi w 8 1 h) = (0 : Int32)
  · have hd := m_i_t c2 hd
    refine lv_tableIn (off := 28) (tgt := 32) hx hb dX5_sign_4 (by rw [c2]; decide) (by rw [c2]; decide) (by rw [c2]; rfl) (by decide) ?_
    refine lv_bipush (v := 43) hx hb dX5_sign_32 (by decide) ?_
    obtain ⟨hn3, hd⟩ := m_g_e hd
    obtain ⟨e1, e2⟩ := m_s_e hd
    refine W.widen (k := 0) (n := 0) (Nat.le_of_ble_eq_true rfl) (Nat.le_of_ble_eq_true rfl) ?_
    exact W.zret hx hb hr (m_narC hn3).1 (fun t ht hW => ⟨⟨_, w, rfl, ⟨e1, e2⟩, by show mP _ _ t.heap; rw [ht]; exact hP⟩, hS.F ht⟩) hS.2.2 dX5_sign_34
  have hd := m_i_f c2 hd
  by_cases c4 : (m_fi w 8 1 h) = (1 : Int32)
  · have hd := m_i_t c4 hd
    refine lv_tableIn (off := 31) (tgt := 35) hx hb dX5_sign_4 (by rw [c4]; decide) (by rw [c4]; decide) (by rw [c4]; rfl) (by decide) ?_
    refine lv_bipush (v := 45) hx hb dX5_sign_35 (by decide) ?_
    obtain ⟨hn5, hd⟩ := m_g_e hd
    obtain ⟨e1, e2⟩ := m_s_e hd
    refine W.widen (k := 0) (n := 0) (Nat.le_of_ble_eq_true rfl) (Nat.le_of_ble_eq_true rfl) ?_
    exact W.zret hx hb hr (m_narC hn5).1 (fun t ht hW => ⟨⟨_, w, rfl, ⟨e1, e2⟩, by show mP _ _ t.heap; rw [ht]; exact hP⟩, hS.F ht⟩) hS.2.2 dX5_sign_37
  have hd := m_i_f c4 hd
  by_cases c6 : (m_fi w 8 1 h) = (2 : Int32)
  · have hd := m_i_t c6 hd
    refine lv_tableIn (off := 34) (tgt := 38) hx hb dX5_sign_4 (by rw [c6]; decide) (by rw [c6]; decide) (by rw [c6]; rfl) (by decide) ?_
    refine lv_bipush (v := 42) hx hb dX5_sign_38 (by decide) ?_
    obtain ⟨hn7, hd⟩ := m_g_e hd
    obtain ⟨e1, e2⟩ := m_s_e hd
    refine W.widen (k := 0) (n := 0) (Nat.le_of_ble_eq_true rfl) (Nat.le_of_ble_eq_true rfl) ?_
    exact W.zret hx hb hr (m_narC hn7).1 (fun t ht hW => ⟨⟨_, w, rfl, ⟨e1, e2⟩, by show mP _ _ t.heap; rw [ht]; exact hP⟩, hS.F ht⟩) hS.2.2 dX5_sign_40
  have hd := m_i_f c6 hd
  refine lv_tableOut (tgt := 41) hx hb dX5_sign_4 (m_sw3 c2 c4 c6) (by decide) ?_
  refine lv_bipush (v := 47) hx hb dX5_sign_41 (by decide) ?_
  obtain ⟨hn8, hd⟩ := m_g_e hd
  obtain ⟨e1, e2⟩ := m_s_e hd
  refine W.widen (k := 0) (n := 0) (Nat.le_of_ble_eq_true rfl) (Nat.le_of_ble_eq_true rfl) ?_
  exact W.zret hx hb hr (m_narC hn8).1 (fun t ht hW => ⟨⟨_, w, rfl, ⟨e1, e2⟩, by show mP _ _ t.heap; rw [ht]; exact hP⟩, hS.F ht⟩) hS.2.2 dX5_sign_43


noncomputable def e_X5_writeTo (t0 : Nat × Nat × Nat × Nat) (w : mW) (h : Nat) (p0 : Nat) : Option (Unit × mW) := m_g (m_kd w h = 9) <| m_b (e_X5_letter w (m_fi w 8 0 h)) fun r2 w3 => m_g (m_kd w3 p0 = 2) <| m_b (e_J4_append_cf468 w3 p0 r2) fun r6 w7 => m_g (m_kd w7 p0 = 2) <| m_b (e_J4_append_cf468 w7 p0 61) fun r10 w11 => m_g (m_kd w11 h = 9) <| m_b (e_X5_writeOperand t0 w11 (m_fi w11 8 2 h) p0) fun r14 w15 => m_g (m_kd w15 h = 9) <| m_b (e_X5_sign w15 h) fun r18 w19 => m_g (m_kd w19 p0 = 2) <| m_b (e_J4_append_cf468 w19 p0 r18) fun r22 w23 => m_g (m_kd w23 h = 9) <| m_b (e_X5_writeOperand t0 w23 (m_fi w23 8 3 h) p0) fun r26 w27 => m_g (m_kd w27 p0 = 2) <| m_b (e_J4_append_cf468 w27 p0 10) fun r30 w31 => some ((), w31)
set_option maxHeartbeats 1000000 in
set_option maxRecDepth 100000 in
theorem c_X5_writeTo (l : Launch) (G : m_G) (w w' : mW) (h : Nat) (p0 : Nat) (r : Unit) (hd : e_X5_writeTo G.2.2.2 w h p0 = some (r, w')) : Met l yX5_writeTo wsX5_writeTo ({ frames := 7, cells := 6, slots := 900, locals := 195 } : Room) (m_Pc G w [.ref (h), .ref (p0)]) (m_Qv G r w') 6 900 (fun q => G.1 ≤ q) := by
  refine Met.ofW (cc := cX5_writeTo) (maxL := 2) (ret := none) (by decide +kernel) rfl ?_
  intro p e s m args below meth c s₁ B hml hv
  obtain ⟨rfl, hM, hP⟩ := hv
  have hx := B.exec
  have hb := B.bytes
  have hr := B.returns
  have hts := atoms_spec (ws := wsX5_writeTo) B.pre
  have hown : s.vm.findClass RX5 = some m.cls := findClass_of_methodNamed B.named
  have hlocks := B.notSynchronized
  have hin8 : ∀ w ∈ u_ws RX5 TX5 4, w ∈ wsX5_writeTo := by decide +kernel
  have hS : va_S (fun q => G.1 ≤ q) s.heap s.heap [] := va_S.rf
  have hl := lv_entry ([.ref (h), .ref (p0)]) (n := 2) (Nat.le_of_ble_eq_true rfl)
  rw [lg_entry_eq]
  generalize (lg_sl ([.ref (h), .ref (p0)]) ++ List.replicate (2 - (lg_sl ([.ref (h), .ref (p0)])).length) Slot.unset).toArray = ls at hl ⊢
  have hl : lv_has ls 2 [(0, .ref (h)), (1, .ref (p0))] := hl
  refine lv_aload_n hx hb dX5_writeTo_0 rfl (lv_at hl 1 rfl) ?_
  refine lv_aload_n hx hb dX5_writeTo_1 rfl (lv_at hl 0 rfl) ?_
  obtain ⟨hk1, hd⟩ := m_g_e hd
  refine m_getI (C := RX5) (T := TX5) (N := 4) (own := RX5) (ref := RX5) hx hb hts hin8 hown hM.1 hP 8 rfl 0 hk1 (by decide) (hts (.fieldLink RX5 9 "CellNotebook$Statement" "name" "I") (by decide +kernel)) (fun _ h9 => h9) dX5_writeTo_2 ?_
  obtain ⟨r2, w3, hc4, hd⟩ := m_b_e hd
  refine m_calli (k := 0) (n := 0) (va_runS (As := [.int (m_fi w 8 0 h)]) (rest := [.ref (p0)]) ⟨hx, hb, hml, hown, hts⟩ (c_X5_letter l G w w3 (m_fi w 8 0 h) r2 hc4) (va_cwS 1 hts gX5_writeTo_X5_letter rfl rfl rfl (by decide +kernel) ⟨(Nat.le_of_ble_eq_true rfl), (Nat.le_of_ble_eq_true rfl)⟩) (m_preS hM hP hS) rfl rfl hl.1 rfl (lv_room (Nat.le_of_ble_eq_true rfl)) dX5_writeTo_5 ⟨(Nat.le_of_ble_eq_true rfl), (Nat.le_of_ble_eq_true rfl)⟩) hS ⟨(Nat.le_of_ble_eq_true rfl), (Nat.le_of_ble_eq_true rfl)⟩ (fun H locs hP hS => ?_)
  obtain ⟨hk5, hd⟩ := m_g_e hd
  obtain ⟨r6, w7, hc8, hd⟩ := m_b_e hd
  refine m_callr (k := 1) (n := 150) (va_runV (As := [.int (r2)]) (rest := []) ⟨hx, hb, hml, hown, hts⟩ (c_J4_append_cf468 l G w3 w7 p0 r2 r6 hc8) (cwV 1 hts gX5_writeTo_J4_append_cf468 rfl rfl rfl (by decide +kernel) ⟨(Nat.le_of_ble_eq_true rfl), (Nat.le_of_ble_eq_true rfl)⟩) (m_preV (C := RJ4) (T := TJ4) (N := 4) hM hP hS rfl (by decide) hk5) rfl rfl hl.1 rfl (lv_room (Nat.le_of_ble_eq_true rfl)) dX5_writeTo_8 ⟨(Nat.le_of_ble_eq_true rfl), (Nat.le_of_ble_eq_true rfl)⟩) hS ⟨(Nat.le_of_ble_eq_true rfl), (Nat.le_of_ble_eq_true rfl)⟩ (fun H locs hP hS => ?_)
  refine lv_pop hx hb dX5_writeTo_11 rfl ?_
  refine lv_aload_n hx hb dX5_writeTo_12 rfl (lv_at hl 1 rfl) ?_
  refine lv_bipush (v := 61) hx hb dX5_writeTo_13 (by decide) ?_
  obtain ⟨hk9, hd⟩ := m_g_e hd
  obtain ⟨r10, w11, hc12, hd⟩ := m_b_e hd
  refine m_callr (k := 2) (n := 300) (va_runV (As := [.int (61)]) (rest := []) ⟨hx, hb, hml, hown, hts⟩ (c_J4_append_cf468 l G w7 w11 p0 61 r10 hc12) (cwV 1 hts gX5_writeTo_J4_append_cf468 rfl rfl rfl (by decide +kernel) ⟨(Nat.le_of_ble_eq_true rfl), (Nat.le_of_ble_eq_true rfl)⟩) (m_preV (C := RJ4) (T := TJ4) (N := 4) hM hP hS rfl (by decide) hk9) rfl rfl hl.1 rfl (lv_room (Nat.le_of_ble_eq_true rfl)) dX5_writeTo_15 ⟨(Nat.le_of_ble_eq_true rfl), (Nat.le_of_ble_eq_true rfl)⟩) hS ⟨(Nat.le_of_ble_eq_true rfl), (Nat.le_of_ble_eq_true rfl)⟩ (fun H locs hP hS => ?_)
  refine lv_pop hx hb dX5_writeTo_18 rfl ?_
  refine lv_aload_n hx hb dX5_writeTo_19 rfl (lv_at hl 0 rfl) ?_
  obtain ⟨hk13, hd⟩ := m_g_e hd
  refine m_getI (C := RX5) (T := TX5) (N := 4) (own := RX5) (ref := RX5) hx hb hts hin8 hown hM.1 hP 8 rfl 2 hk13 (by decide) (hts (.fieldLink RX5 18 "CellNotebook$Statement" "left" "I") (by decide +kernel)) (fun _ h9 => h9) dX5_writeTo_20 ?_
  refine lv_aload_n hx hb dX5_writeTo_23 rfl (lv_at hl 1 rfl) ?_
  obtain ⟨r14, w15, hc16, hd⟩ := m_b_e hd
  refine m_callv (k := 3) (n := 450) (va_runS (As := [.int (m_fi w11 8 2 h), .ref (p0)]) (rest := []) ⟨hx, hb, hml, hown, hts⟩ (c_X5_writeOperand l G w11 w15 (m_fi w11 8 2 h) p0 r14 hc16) (va_cwS 2 hts gX5_writeTo_X5_writeOperand rfl rfl rfl (by decide +kernel) ⟨(Nat.le_of_ble_eq_true rfl), (Nat.le_of_ble_eq_true rfl)⟩) (m_preS hM hP hS) rfl rfl hl.1 rfl (lv_room (Nat.le_of_ble_eq_true rfl)) dX5_writeTo_24 ⟨(Nat.le_of_ble_eq_true rfl), (Nat.le_of_ble_eq_true rfl)⟩) hS ⟨(Nat.le_of_ble_eq_true rfl), (Nat.le_of_ble_eq_true rfl)⟩ (fun H locs hP hS => ?_)
  refine lv_aload_n hx hb dX5_writeTo_27 rfl (lv_at hl 1 rfl) ?_
  refine lv_aload_n hx hb dX5_writeTo_28 rfl (lv_at hl 0 rfl) ?_
  obtain ⟨hk17, hd⟩ := m_g_e hd
  obtain ⟨r18, w19, hc20, hd⟩ := m_b_e hd
  refine m_calli (k := 3) (n := 450) (va_runV (As := []) (rest := [.ref (p0)]) ⟨hx, hb, hml, hown, hts⟩ (c_X5_sign l G w15 w19 h r18 hc20) (cwV 0 hts gX5_writeTo_X5_sign rfl rfl rfl (by decide +kernel) ⟨(Nat.le_of_ble_eq_true rfl), (Nat.le_of_ble_eq_true rfl)⟩) (m_preV (C := RX5) (T := TX5) (N := 4) hM hP hS rfl (by decide) hk17) rfl rfl hl.1 rfl (lv_room (Nat.le_of_ble_eq_true rfl)) dX5_writeTo_29 ⟨(Nat.le_of_ble_eq_true rfl), (Nat.le_of_ble_eq_true rfl)⟩) hS ⟨(Nat.le_of_ble_eq_true rfl), (Nat.le_of_ble_eq_true rfl)⟩ (fun H locs hP hS => ?_)
  obtain ⟨hk21, hd⟩ := m_g_e hd
  obtain ⟨r22, w23, hc24, hd⟩ := m_b_e hd
  refine m_callr (k := 4) (n := 600) (va_runV (As := [.int (r18)]) (rest := []) ⟨hx, hb, hml, hown, hts⟩ (c_J4_append_cf468 l G w19 w23 p0 r18 r22 hc24) (cwV 1 hts gX5_writeTo_J4_append_cf468 rfl rfl rfl (by decide +kernel) ⟨(Nat.le_of_ble_eq_true rfl), (Nat.le_of_ble_eq_true rfl)⟩) (m_preV (C := RJ4) (T := TJ4) (N := 4) hM hP hS rfl (by decide) hk21) rfl rfl hl.1 rfl (lv_room (Nat.le_of_ble_eq_true rfl)) dX5_writeTo_32 ⟨(Nat.le_of_ble_eq_true rfl), (Nat.le_of_ble_eq_true rfl)⟩) hS ⟨(Nat.le_of_ble_eq_true rfl), (Nat.le_of_ble_eq_true rfl)⟩ (fun H locs hP hS => ?_)
  refine lv_pop hx hb dX5_writeTo_35 rfl ?_
  refine lv_aload_n hx hb dX5_writeTo_36 rfl (lv_at hl 0 rfl) ?_
  obtain ⟨hk25, hd⟩ := m_g_e hd
  refine m_getI (C := RX5) (T := TX5) (N := 4) (own := RX5) (ref := RX5) hx hb hts hin8 hown hM.1 hP 8 rfl 3 hk25 (by decide) (hts (.fieldLink RX5 21 "CellNotebook$Statement" "right" "I") (by decide +kernel)) (fun _ h9 => h9) dX5_writeTo_37 ?_
  refine lv_aload_n hx hb dX5_writeTo_40 rfl (lv_at hl 1 rfl) ?_
  obtain ⟨r26, w27, hc28, hd⟩ := m_b_e hd
  refine m_callv (k := 5) (n := 750) (va_runS (As := [.int (m_fi w23 8 3 h), .ref (p0)]) (rest := []) ⟨hx, hb, hml, hown, hts⟩ (c_X5_writeOperand l G w23 w27 (m_fi w23 8 3 h) p0 r26 hc28) (va_cwS 2 hts gX5_writeTo_X5_writeOperand rfl rfl rfl (by decide +kernel) ⟨(Nat.le_of_ble_eq_true rfl), (Nat.le_of_ble_eq_true rfl)⟩) (m_preS hM hP hS) rfl rfl hl.1 rfl (lv_room (Nat.le_of_ble_eq_true rfl)) dX5_writeTo_41 ⟨(Nat.le_of_ble_eq_true rfl), (Nat.le_of_ble_eq_true rfl)⟩) hS ⟨(Nat.le_of_ble_eq_true rfl), (Nat.le_of_ble_eq_true rfl)⟩ (fun H locs hP hS => ?_)
  refine lv_aload_n hx hb dX5_writeTo_44 rfl (lv_at hl 1 rfl) ?_
  refine lv_bipush (v := 10) hx hb dX5_writeTo_45 (by decide) ?_
  obtain ⟨hk29, hd⟩ := m_g_e hd
  obtain ⟨r30, w31, hc32, hd⟩ := m_b_e hd
  refine m_callr (k := 6) (n := 900) (va_runV (As := [.int (10)]) (rest := []) ⟨hx, hb, hml, hown, hts⟩ (c_J4_append_cf468 l G w27 w31 p0 10 r30 hc32) (cwV 1 hts gX5_writeTo_J4_append_cf468 rfl rfl rfl (by decide +kernel) ⟨(Nat.le_of_ble_eq_true rfl), (Nat.le_of_ble_eq_true rfl)⟩) (m_preV (C := RJ4) (T := TJ4) (N := 4) hM hP hS rfl (by decide) hk29) rfl rfl hl.1 rfl (lv_room (Nat.le_of_ble_eq_true rfl)) dX5_writeTo_47 ⟨(Nat.le_of_ble_eq_true rfl), (Nat.le_of_ble_eq_true rfl)⟩) hS ⟨(Nat.le_of_ble_eq_true rfl), (Nat.le_of_ble_eq_true rfl)⟩ (fun H locs hP hS => ?_)
  refine lv_pop hx hb dX5_writeTo_50 rfl ?_
  obtain ⟨e1, e2⟩ := m_s_e hd
  refine W.widen (k := 6) (n := 900) (Nat.le_of_ble_eq_true rfl) (Nat.le_of_ble_eq_true rfl) ?_
  exact W.vret hx hb hr (fun t ht hW => ⟨⟨w31, rfl, e2, by show mP _ _ t.heap; rw [ht]; exact hP⟩, hS.F ht⟩) hS.2.2 dX5_writeTo_51


noncomputable def e_X1_writtenOut_10_b (t0 : Nat × Nat × Nat × Nat) (k10 : mW → Nat → Nat → Int32 → Option (Nat × mW)) (w : mW) (x0 : Nat) (x1 : Nat) (x2 : Int32) : Option (Nat × mW) := m_g (m_kd w x0 = 5) <| m_o (m_fr w 4 1 x0) fun r107 => m_g (m_kd w r107 = 3) <| m_b (e_Jx4a65c_size_8abf5 w r107) fun r109 w110 => if r109 ≤ x2 then (some (x1, w110)) else (m_g (m_kd w110 x0 = 5) <| m_o (m_fr w110 4 1 x0) fun r114 => m_g (m_kd w110 r114 = 3) <| m_b (e_Jx4a65c_get_915e3 w110 r114 x2) fun r116 w117 => m_g (m_kd w117 r116 = 9) <| m_b (e_X5_writeTo t0 w117 r116 x1) fun r120 w121 => k10 w121 x0 x1 (x2 + 1))
noncomputable def e_X1_writtenOut_10 (t0 : Nat × Nat × Nat × Nat) (n : Nat) : mW → Nat → Nat → Int32 → Option (Nat × mW) := Nat.rec (motive := fun _ => mW → Nat → Nat → Int32 → Option (Nat × mW)) (fun _ _ _ _ => none) (fun _ k => e_X1_writtenOut_10_b t0  k) n
noncomputable def e_X1_writtenOut (t0 : Nat × Nat × Nat × Nat) (w : mW) (h : Nat) : Option (Nat × mW) := m_l (m_nO w 1) fun w1 => m_b (e_J4_init_da8c8 w1 (m_nx w)) fun r3 w4 => e_X1_writtenOut_10 t0 7 w4 h (m_nx w) 0
set_option maxHeartbeats 1000000 in
set_option maxRecDepth 100000 in
theorem c_X1_writtenOut (l : Launch) (G : m_G) (w w' : mW) (h : Nat) (r : Nat) (hd : e_X1_writtenOut G.2.2.2 w h = some (r, w')) : Met l yX1_writtenOut wsX1_writtenOut ({ frames := 8, cells := 44, slots := 6320, locals := 216 } : Room) (m_Pc G w [.ref (h)]) (m_Qq G (some r) w') 44 6320 (fun q => G.1 ≤ q) := by
  refine Met.ofW (cc := cX1_writtenOut) (maxL := 3) (ret := (some (.object "java/lang/StringBuilder"))) (by decide +kernel) rfl ?_
  intro p e s m args below meth c s₁ B hml hv
  obtain ⟨rfl, hM, hP⟩ := hv
  have hx := B.exec
  have hb := B.bytes
  have hr := B.returns
  have hts := atoms_spec (ws := wsX1_writtenOut) B.pre
  have hown : s.vm.findClass RX1 = some m.cls := findClass_of_methodNamed B.named
  have hlocks := B.notSynchronized
  have hin1 : ∀ w ∈ u_ws RJ4 TJ4 4, w ∈ wsX1_writtenOut := by decide +kernel
  have hin4 : ∀ w ∈ u_ws RX1 TX1 4, w ∈ wsX1_writtenOut := by decide +kernel
  have hS : va_S (fun q => G.1 ≤ q) s.heap s.heap [] := va_S.rf
  have J10 : ∀ (n10 : Nat) (cb sb : Nat) (w : mW) (x0 : Nat) (x1 : Nat) (x2 : Int32), (cb + n10 * 6 ≤ 44) → (sb + n10 * 900 ≤ 6320) → ∀ (H : Heap) (locs : List Loc) (ls : Array Slot), e_X1_writtenOut_10 G.2.2.2 n10 w x0 x1 x2 = some (r, w') → mP G w H → va_S (fun q => G.1 ≤ q) s.heap H locs → lv_has ls 3 [(0, .ref (x0)), (1, .ref (x1)), (2, .int (x2))] → W p l e ({ frames := 8, cells := 44, slots := 6320, locals := 216 } : Room) s m ([.ref (h)] : List Value).toArray below meth c H locs cb sb (MQ below (m_Qq G (some r) w') ([.ref (h)] : List Value).toArray s 44 6320 (fun q => G.1 ≤ q)) (F0 m 10 ls []) := by
    intro n10
    induction n10 with
    | zero => intro cb sb w x0 x1 x2 hcb hsb H locs ls hd; exact absurd (show (none : Option (Nat × mW)) = some _ from hd) (fun h => nomatch h)
    | succ n10 ih10 =>
      intro cb sb w x0 x1 x2 hcb hsb H locs ls hd hP hS hl
      have hd : e_X1_writtenOut_10_b G.2.2.2 (e_X1_writtenOut_10 G.2.2.2 n10) w x0 x1 x2 = some (r, w') := hd
      refine lv_iload_n hx hb dX1_writtenOut_10 rfl (lv_at hl 2 rfl) ?_
      refine lv_aload_n hx hb dX1_writtenOut_11 rfl (lv_at hl 0 rfl) ?_
      obtain ⟨hk106, hd⟩ := m_g_e hd
      obtain ⟨r107, hr107, hd⟩ := m_o_e hd
      refine m_getR (C := RX1) (T := TX1) (N := 4) (own := RX1) (ref := RX1) hx hb hts hin4 hown hM.1 hP 4 rfl 1 (r := r107) ⟨hk106, hr107⟩ (by decide) (hts (.fieldLink RX1 12 "CellNotebook$Cell" "program" "Ljava/util/ArrayList;") (by decide +kernel)) (fun _ h9 => h9) dX1_writtenOut_12 ?_
      obtain ⟨hk108, hd⟩ := m_g_e hd
      obtain ⟨r109, w110, hc111, hd⟩ := m_b_e hd
      refine m_calli (k := cb + 0) (n := sb + 0) (va_runV (As := []) (rest := [.int (x2)]) ⟨hx, hb, hml, hown, hts⟩ (c_Jx4a65c_size_8abf5 l G w w110 r107 r109 hc111) (cwV 0 hts gX1_writtenOut_Jx4a65c_size_8abf5 rfl rfl rfl (by decide +kernel) ⟨(Nat.le_of_ble_eq_true rfl), (Nat.le_of_ble_eq_true rfl)⟩) (m_preV (C := RJx4a65c) (T := TJx4a65c) (N := 3) hM hP hS rfl (by decide) hk108) rfl rfl hl.1 rfl (lv_room (Nat.le_of_ble_eq_true rfl)) dX1_writtenOut_15 ⟨(by show cb + 0 ≤ 44; omega), (by show sb + 0 ≤ 6320; omega)⟩) hS ⟨(Nat.le_refl _), (Nat.le_refl _)⟩ (fun H locs hP hS => ?_)
      refine lv_icmp_ge (tgt := 42) hx hb dX1_writtenOut_18 (by decide) (fun c112 => ?_) (fun c112 => ?_)
      · have hd := m_i_t c112 hd
        refine lv_aload_n hx hb dX1_writtenOut_42 rfl (lv_at hl 1 rfl) ?_
        obtain ⟨e1, e2⟩ := m_s_e hd
        refine W.widen (k := 44) (n := 6320) (by omega) (by omega) ?_
        exact W.aret hx hb hr (Or.inl ⟨_, rfl⟩) (Or.inr ⟨_, rfl⟩) (fun t ht hW => ⟨⟨some x1, w110, rfl, ⟨congrArg some e1, e2⟩, by show mP _ _ t.heap; rw [ht]; exact hP⟩, hS.F ht⟩) hS.2.2 dX1_writtenOut_43
      · have hd := m_i_f c112 hd
        refine lv_aload_n hx hb dX1_writtenOut_21 rfl (lv_at hl 0 rfl) ?_
        obtain ⟨hk113, hd⟩ := m_g_e hd
        obtain ⟨r114, hr114, hd⟩ := m_o_e hd
        refine m_getR (C := RX1) (T := TX1) (N := 4) (own := RX1) (ref := RX1) hx hb hts hin4 hown hM.1 hP 4 rfl 1 (r := r114) ⟨hk113, hr114⟩ (by decide) (hts (.fieldLink RX1 12 "CellNotebook$Cell" "program" "Ljava/util/ArrayList;") (by decide +kernel)) (fun _ h9 => h9) dX1_writtenOut_22 ?_
        refine lv_iload_n hx hb dX1_writtenOut_25 rfl (lv_at hl 2 rfl) ?_
        obtain ⟨hk115, hd⟩ := m_g_e hd
        obtain ⟨r116, w117, hc118, hd⟩ := m_b_e hd
        refine m_callr (k := cb + 0) (n := sb + 0) (va_runV (As := [.int (x2)]) (rest := []) ⟨hx, hb, hml, hown, hts⟩ (c_Jx4a65c_get_915e3 l G w110 w117 r114 x2 r116 hc118) (cwV 1 hts gX1_writtenOut_Jx4a65c_get_915e3 rfl rfl rfl (by decide +kernel) ⟨(Nat.le_of_ble_eq_true rfl), (Nat.le_of_ble_eq_true rfl)⟩) (m_preV (C := RJx4a65c) (T := TJx4a65c) (N := 3) hM hP hS rfl (by decide) hk115) rfl rfl hl.1 rfl (lv_room (Nat.le_of_ble_eq_true rfl)) dX1_writtenOut_26 ⟨(by show cb + 0 ≤ 44; omega), (by show sb + 0 ≤ 6320; omega)⟩) hS ⟨(Nat.le_refl _), (Nat.le_refl _)⟩ (fun H locs hP hS => ?_)
        obtain ⟨hk119, hd⟩ := m_g_e hd
        refine va_castS (own := RX1) (nm := RX5) hx hb hown (hts (.classLink RX1 44 "CellNotebook$Statement") (by decide +kernel)) (hM.1.1 8 _ rfl).2 (m_recv hM.1 hP hk119 (by decide) rfl) dX1_writtenOut_29 ?_
        refine lv_aload_n hx hb dX1_writtenOut_32 rfl (lv_at hl 1 rfl) ?_
        obtain ⟨r120, w121, hc122, hd⟩ := m_b_e hd
        refine m_callv (k := cb + 6) (n := sb + 900) (va_runV (As := [.ref (x1)]) (rest := []) ⟨hx, hb, hml, hown, hts⟩ (c_X5_writeTo l G w117 w121 r116 x1 r120 hc122) (cwV 1 hts gX1_writtenOut_X5_writeTo rfl rfl rfl (by decide +kernel) ⟨(Nat.le_of_ble_eq_true rfl), (Nat.le_of_ble_eq_true rfl)⟩) (m_preV (C := RX5) (T := TX5) (N := 4) hM hP hS rfl (by decide) hk119) rfl rfl hl.1 rfl (lv_room (Nat.le_of_ble_eq_true rfl)) dX1_writtenOut_33 ⟨(by show cb + 6 ≤ 44; omega), (by show sb + 900 ≤ 6320; omega)⟩) hS ⟨(Nat.le_refl _), (Nat.le_refl _)⟩ (fun H locs hP hS => ?_)
        refine lv_iinc (v := x2 + 1) (lv' := [(2, .int (x2 + 1)), (0, .ref (x0)), (1, .ref (x1))]) hx hb dX1_writtenOut_36 hl (k := 2) rfl rfl (by decide) rfl (fun ls hl => ?_)
        refine lv_goto (tgt := 10) hx hb dX1_writtenOut_39 (by decide) ?_
        exact ih10 (cb + 6) (sb + 900) w121 x0 x1 (x2 + 1) (by omega) (by omega) _ _ _ hd hP hS (lv_sub hl [1, 2, 0] rfl)
  have hl := lv_entry ([.ref (h)]) (n := 3) (Nat.le_of_ble_eq_true rfl)
  rw [lg_entry_eq]
  generalize (lg_sl ([.ref (h)]) ++ List.replicate (3 - (lg_sl ([.ref (h)])).length) Slot.unset).toArray = ls at hl ⊢
  have hl : lv_has ls 3 [(0, .ref (h))] := hl
  refine m_new (C := RJ4) (T := TJ4) (N := 4) (own := RX1) hx hb hts hin1 tyJ4 tyJ4_ok hown (hts (.classLink RX1 33 RJ4) (by decide +kernel)) (hts (.instantiable RJ4 4) (by decide +kernel)) (hts (.initialized RJ4) (by decide +kernel)) hM.1 hP hS 1 rfl ⟨by decide, by decide, m_dfJ4⟩ (Nat.le_of_ble_eq_true rfl) (Nat.le_of_ble_eq_true rfl) dX1_writtenOut_0 (fun H hP hS => ?_)
  obtain ⟨w1, ew, hd⟩ := m_l_e hd
  have hP : mP G w1 H := by rw [ew]; exact hP
  have hk2 : m_kd w1 (m_nx w) = 2 := by rw [ew]; exact m_nO_new
  refine lv_dup hx hb dX1_writtenOut_3 rfl ?_
  obtain ⟨r3, w4, hc5, hd⟩ := m_b_e hd
  refine m_callv (k := 2) (n := 20) (va_runI (As := []) (rest := [.ref (m_nx w)]) ⟨hx, hb, hml, hown, hts⟩ (c_J4_init_da8c8 l G w1 w4 (m_nx w) r3 hc5) (cwI 0 hts gX1_writtenOut_J4_init_da8c8 rfl rfl rfl (hts (.initialized RJ4) (by decide +kernel)) (hts (.methodLink RX1 35 yJ4_init_da8c8) (by decide +kernel)) (hts (.instanceMethod yJ4_init_da8c8) (by decide +kernel)) rfl (by decide +kernel) ⟨(Nat.le_of_ble_eq_true rfl), (Nat.le_of_ble_eq_true rfl)⟩) (m_preS hM hP hS) rfl rfl hl.1 rfl (lv_room (Nat.le_of_ble_eq_true rfl)) dX1_writtenOut_4 ⟨(Nat.le_of_ble_eq_true rfl), (Nat.le_of_ble_eq_true rfl)⟩) hS ⟨(Nat.le_of_ble_eq_true rfl), (Nat.le_of_ble_eq_true rfl)⟩ (fun H locs hP hS => ?_)
  refine lv_astore_n (lv' := [(1, .ref (m_nx w)), (0, .ref (h))]) hx hb dX1_writtenOut_7 rfl hl (by decide) rfl (fun ls hl => ?_)
  refine lv_iconst (v := 0) hx hb dX1_writtenOut_8 (by decide) ?_
  refine lv_istore_n (lv' := [(2, .int (0)), (1, .ref (m_nx w)), (0, .ref (h))]) hx hb dX1_writtenOut_9 rfl hl (by decide) rfl (fun ls hl => ?_)
  exact J10 7 2 20 w4 h (m_nx w) 0 (Nat.le_of_ble_eq_true rfl) (Nat.le_of_ble_eq_true rfl) _ _ _ hd hP hS (lv_sub hl [2, 1, 0] rfl)

