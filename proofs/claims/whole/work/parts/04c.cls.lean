noncomputable def e_X2_howManySet_21 (k4 : mW → Nat → Int32 → Int32 → Option (Int32 × mW)) (w : mW) (x0 : Nat) (x1 : Int32) (x2 : Int32) : Option (Int32 × mW) := k4 w x0 x1 (x2 + 1)
noncomputable def e_X2_howManySet_4_b (k4 : mW → Nat → Int32 → Int32 → Option (Int32 × mW)) (w : mW) (x0 : Nat) (x1 : Int32) (x2 : Int32) : Option (Int32 × mW) := if 8 ≤ x2 then (some (x1, w)) else (m_g (m_kd w x0 = 6) <| m_b (e_X2_hold w x0 x2) fun r103 w104 => if r103 = (0 : Int32) then (e_X2_howManySet_21 k4 w104 x0 x1 x2) else (e_X2_howManySet_21 k4 w104 x0 (x1 + 1) x2))
noncomputable def e_X2_howManySet_4 (n : Nat) : mW → Nat → Int32 → Int32 → Option (Int32 × mW) := Nat.rec (motive := fun _ => mW → Nat → Int32 → Int32 → Option (Int32 × mW)) (fun _ _ _ _ => none) (fun _ k => e_X2_howManySet_4_b  k) n
noncomputable def e_X2_howManySet (w : mW) (h : Nat) : Option (Int32 × mW) := e_X2_howManySet_4 m_N w h 0 0
set_option maxHeartbeats 1000000 in
set_option maxRecDepth 100000 in
theorem c_X2_howManySet (l : Launch) (G : m_G) (w w' : mW) (h : Nat) (r : Int32) (hd : e_X2_howManySet w h = some (r, w')) : Met l yX2_howManySet wsX2_howManySet ({ frames := 2, cells := 0, slots := 0, locals := 41 } : Room) (m_Pc G w [.ref (h)]) (m_Qi G r w') 0 0 (fun q => G.1 ≤ q) := by
  refine Met.ofW (cc := cX2_howManySet) (maxL := 3) (ret := (some .int)) (by decide +kernel) rfl ?_
  intro p e s m args below meth c s₁ B hml hv
  obtain ⟨rfl, hM, hP⟩ := hv
  have hx := B.exec
  have hb := B.bytes
  have hr := B.returns
  have hts := atoms_spec (ws := wsX2_howManySet) B.pre
  have hown : s.vm.findClass RX2 = some m.cls := findClass_of_methodNamed B.named
  have hlocks := B.notSynchronized
  have hS : va_S (fun q => G.1 ≤ q) s.heap s.heap [] := va_S.rf
  have J4 : ∀ (n4 : Nat) (w : mW) (x0 : Nat) (x1 : Int32) (x2 : Int32) (H : Heap) (locs : List Loc) (ls : Array Slot), e_X2_howManySet_4 n4 w x0 x1 x2 = some (r, w') → mP G w H → va_S (fun q => G.1 ≤ q) s.heap H locs → lv_has ls 3 [(0, .ref (x0)), (1, .int (x1)), (2, .int (x2))] → W p l e ({ frames := 2, cells := 0, slots := 0, locals := 41 } : Room) s m ([.ref (h)] : List Value).toArray below meth c H locs 0 0 (MQ below (m_Qi G r w') ([.ref (h)] : List Value).toArray s 0 0 (fun q => G.1 ≤ q)) (F0 m 4 ls []) := by
    intro n4
    induction n4 with
    | zero => intro w x0 x1 x2 H locs ls hd; exact absurd (show (none : Option (Int32 × mW)) = some _ from hd) (fun h => nomatch h)
    | succ n4 ih4 =>
      have J21 : ∀ (w : mW) (x0 : Nat) (x1 : Int32) (x2 : Int32) (H : Heap) (locs : List Loc) (ls : Array Slot), e_X2_howManySet_21 (e_X2_howManySet_4 n4) w x0 x1 x2 = some (r, w') → mP G w H → va_S (fun q => G.1 ≤ q) s.heap H locs → lv_has ls 3 [(0, .ref (x0)), (1, .int (x1)), (2, .int (x2))] → W p l e ({ frames := 2, cells := 0, slots := 0, locals := 41 } : Room) s m ([.ref (h)] : List Value).toArray below meth c H locs 0 0 (MQ below (m_Qi G r w') ([.ref (h)] : List Value).toArray s 0 0 (fun q => G.1 ≤ q)) (F0 m 21 ls []) := by
        intro w x0 x1 x2 H locs ls hd hP hS hl
        refine lv_iinc (v := x2 + 1) (lv' := [(2, .int (x2 + 1)), (0, .ref (x0)), (1, .int (x1))]) hx hb dX2_howManySet_21 hl (k := 2) rfl rfl (by decide) rfl (fun ls hl => ?_)
        refine lv_goto (tgt := 4) hx hb dX2_howManySet_24 (by decide) ?_
        refine W.widen (k := 0) (n := 0) (Nat.le_of_ble_eq_true rfl) (Nat.le_of_ble_eq_true rfl) ?_
        exact ih4 w x0 x1 (x2 + 1) _ _ _ hd hP hS (lv_sub hl [1, 2, 0] rfl)
      intro w x0 x1 x2 H locs ls hd hP hS hl
      have hd : e_X2_howManySet_4_b (e_X2_howManySet_4 n4) w x0 x1 x2 = some (r, w') := hd
      refine lv_iload_n hx hb dX2_howManySet_4 rfl (lv_at hl 2 rfl) ?_
      refine lv_bipush (v := 8) hx hb dX2_howManySet_5 (by decide) ?_
      refine lv_icmp_ge (tgt := 27) hx hb dX2_howManySet_7 (by decide) (fun c101 => ?_) (fun c101 => ?_)
      · have hd := m_i_t c101 hd
        refine lv_iload_n hx hb dX2_howManySet_27 rfl (lv_at hl 1 rfl) ?_
        obtain ⟨e1, e2⟩ := m_s_e hd
        refine W.widen (k := 0) (n := 0) (Nat.le_of_ble_eq_true rfl) (Nat.le_of_ble_eq_true rfl) ?_
        exact W.iret hx hb hr (fun t ht hW => ⟨⟨_, w, rfl, ⟨e1, e2⟩, by show mP _ _ t.heap; rw [ht]; exact hP⟩, hS.F ht⟩) hS.2.2 dX2_howManySet_28
      · have hd := m_i_f c101 hd
        refine lv_aload_n hx hb dX2_howManySet_10 rfl (lv_at hl 0 rfl) ?_
        refine lv_iload_n hx hb dX2_howManySet_11 rfl (lv_at hl 2 rfl) ?_
        obtain ⟨hk102, hd⟩ := m_g_e hd
        obtain ⟨r103, w104, hc105, hd⟩ := m_b_e hd
        refine m_calli (k := 0) (n := 0) (va_runV (As := [.int (x2)]) (rest := []) ⟨hx, hb, hml, hown, hts⟩ (c_X2_hold l G w w104 x0 x2 r103 hc105) (cwV 1 hts gX2_howManySet_X2_hold rfl rfl rfl (by decide +kernel) ⟨(Nat.le_of_ble_eq_true rfl), (Nat.le_of_ble_eq_true rfl)⟩) (m_preV (C := RX2) (T := TX2) (N := 2) hM hP hS rfl (by decide) hk102) rfl rfl hl.1 rfl (lv_room (Nat.le_of_ble_eq_true rfl)) dX2_howManySet_12 ⟨(Nat.le_of_ble_eq_true rfl), (Nat.le_of_ble_eq_true rfl)⟩) hS ⟨(Nat.le_of_ble_eq_true rfl), (Nat.le_of_ble_eq_true rfl)⟩ (fun H locs hP hS => ?_)
        refine lv_if_eq (tgt := 21) hx hb dX2_howManySet_15 (by decide) (fun c106 => ?_) (fun c106 => ?_)
        · have hd := m_i_t c106 hd
          refine W.widen (k := 0) (n := 0) (Nat.le_of_ble_eq_true rfl) (Nat.le_of_ble_eq_true rfl) ?_
          exact J21 w104 x0 x1 x2 _ _ _ hd hP hS (lv_sub hl [0, 1, 2] rfl)
        · have hd := m_i_f c106 hd
          refine lv_iinc (v := x1 + 1) (lv' := [(1, .int (x1 + 1)), (0, .ref (x0)), (2, .int (x2))]) hx hb dX2_howManySet_18 hl (k := 1) rfl rfl (by decide) rfl (fun ls hl => ?_)
          refine W.widen (k := 0) (n := 0) (Nat.le_of_ble_eq_true rfl) (Nat.le_of_ble_eq_true rfl) ?_
          exact J21 w104 x0 (x1 + 1) x2 _ _ _ hd hP hS (lv_sub hl [1, 0, 2] rfl)
  have hl := lv_entry ([.ref (h)]) (n := 3) (Nat.le_of_ble_eq_true rfl)
  rw [lg_entry_eq]
  generalize (lg_sl ([.ref (h)]) ++ List.replicate (3 - (lg_sl ([.ref (h)])).length) Slot.unset).toArray = ls at hl ⊢
  have hl : lv_has ls 3 [(0, .ref (h))] := hl
  refine lv_iconst (v := 0) hx hb dX2_howManySet_0 (by decide) ?_
  refine lv_istore_n (lv' := [(1, .int (0)), (0, .ref (h))]) hx hb dX2_howManySet_1 rfl hl (by decide) rfl (fun ls hl => ?_)
  refine lv_iconst (v := 0) hx hb dX2_howManySet_2 (by decide) ?_
  refine lv_istore_n (lv' := [(2, .int (0)), (1, .int (0)), (0, .ref (h))]) hx hb dX2_howManySet_3 rfl hl (by decide) rfl (fun ls hl => ?_)
  refine W.widen (k := 0) (n := 0) (Nat.le_of_ble_eq_true rfl) (Nat.le_of_ble_eq_true rfl) ?_
  exact J4 m_N w h 0 0 _ _ _ hd hP hS (lv_sub hl [2, 1, 0] rfl)


noncomputable def e_X2_unsetAll_2_b (k2 : mW → Nat → Int32 → Option (Unit × mW)) (w : mW) (x0 : Nat) (x1 : Int32) : Option (Unit × mW) := if 8 ≤ x1 then (some ((), w)) else (m_g (m_kd w x0 = 6) <| m_b (e_X2_assign w x0 x1 0 0) fun r103 w104 => k2 w104 x0 (x1 + 1))
noncomputable def e_X2_unsetAll_2 (n : Nat) : mW → Nat → Int32 → Option (Unit × mW) := Nat.rec (motive := fun _ => mW → Nat → Int32 → Option (Unit × mW)) (fun _ _ _ => none) (fun _ k => e_X2_unsetAll_2_b  k) n
noncomputable def e_X2_unsetAll (w : mW) (h : Nat) : Option (Unit × mW) := e_X2_unsetAll_2 m_N w h 0
set_option maxHeartbeats 1000000 in
set_option maxRecDepth 100000 in
theorem c_X2_unsetAll (l : Launch) (G : m_G) (w w' : mW) (h : Nat) (r : Unit) (hd : e_X2_unsetAll w h = some (r, w')) : Met l yX2_unsetAll wsX2_unsetAll ({ frames := 2, cells := 0, slots := 0, locals := 43 } : Room) (m_Pc G w [.ref (h)]) (m_Qv G r w') 0 0 (fun q => G.1 ≤ q) := by
  refine Met.ofW (cc := cX2_unsetAll) (maxL := 2) (ret := none) (by decide +kernel) rfl ?_
  intro p e s m args below meth c s₁ B hml hv
  obtain ⟨rfl, hM, hP⟩ := hv
  have hx := B.exec
  have hb := B.bytes
  have hr := B.returns
  have hts := atoms_spec (ws := wsX2_unsetAll) B.pre
  have hown : s.vm.findClass RX2 = some m.cls := findClass_of_methodNamed B.named
  have hlocks := B.notSynchronized
  have hS : va_S (fun q => G.1 ≤ q) s.heap s.heap [] := va_S.rf
  have J2 : ∀ (n2 : Nat) (w : mW) (x0 : Nat) (x1 : Int32) (H : Heap) (locs : List Loc) (ls : Array Slot), e_X2_unsetAll_2 n2 w x0 x1 = some (r, w') → mP G w H → va_S (fun q => G.1 ≤ q) s.heap H locs → lv_has ls 2 [(0, .ref (x0)), (1, .int (x1))] → W p l e ({ frames := 2, cells := 0, slots := 0, locals := 43 } : Room) s m ([.ref (h)] : List Value).toArray below meth c H locs 0 0 (MQ below (m_Qv G r w') ([.ref (h)] : List Value).toArray s 0 0 (fun q => G.1 ≤ q)) (F0 m 2 ls []) := by
    intro n2
    induction n2 with
    | zero => intro w x0 x1 H locs ls hd; exact absurd (show (none : Option (Unit × mW)) = some _ from hd) (fun h => nomatch h)
    | succ n2 ih2 =>
      intro w x0 x1 H locs ls hd hP hS hl
      have hd : e_X2_unsetAll_2_b (e_X2_unsetAll_2 n2) w x0 x1 = some (r, w') := hd
      refine lv_iload_n hx hb dX2_unsetAll_2 rfl (lv_at hl 1 rfl) ?_
      refine lv_bipush (v := 8) hx hb dX2_unsetAll_3 (by decide) ?_
      refine lv_icmp_ge (tgt := 21) hx hb dX2_unsetAll_5 (by decide) (fun c101 => ?_) (fun c101 => ?_)
      · have hd := m_i_t c101 hd
        obtain ⟨e1, e2⟩ := m_s_e hd
        refine W.widen (k := 0) (n := 0) (Nat.le_of_ble_eq_true rfl) (Nat.le_of_ble_eq_true rfl) ?_
        exact W.vret hx hb hr (fun t ht hW => ⟨⟨w, rfl, e2, by show mP _ _ t.heap; rw [ht]; exact hP⟩, hS.F ht⟩) hS.2.2 dX2_unsetAll_21
      · have hd := m_i_f c101 hd
        refine lv_aload_n hx hb dX2_unsetAll_8 rfl (lv_at hl 0 rfl) ?_
        refine lv_iload_n hx hb dX2_unsetAll_9 rfl (lv_at hl 1 rfl) ?_
        refine lv_iconst (v := 0) hx hb dX2_unsetAll_10 (by decide) ?_
        refine lv_iconst (v := 0) hx hb dX2_unsetAll_11 (by decide) ?_
        obtain ⟨hk102, hd⟩ := m_g_e hd
        obtain ⟨r103, w104, hc105, hd⟩ := m_b_e hd
        refine m_callv (k := 0) (n := 0) (va_runV (As := [.int (x1), .int (0), .int (0)]) (rest := []) ⟨hx, hb, hml, hown, hts⟩ (c_X2_assign l G w w104 x0 x1 0 0 r103 hc105) (cwV 3 hts gX2_unsetAll_X2_assign rfl rfl rfl (by decide +kernel) ⟨(Nat.le_of_ble_eq_true rfl), (Nat.le_of_ble_eq_true rfl)⟩) (m_preV (C := RX2) (T := TX2) (N := 2) hM hP hS rfl (by decide) hk102) rfl rfl hl.1 rfl (lv_room (Nat.le_of_ble_eq_true rfl)) dX2_unsetAll_12 ⟨(Nat.le_of_ble_eq_true rfl), (Nat.le_of_ble_eq_true rfl)⟩) hS ⟨(Nat.le_of_ble_eq_true rfl), (Nat.le_of_ble_eq_true rfl)⟩ (fun H locs hP hS => ?_)
        refine lv_iinc (v := x1 + 1) (lv' := [(1, .int (x1 + 1)), (0, .ref (x0))]) hx hb dX2_unsetAll_15 hl (k := 1) rfl rfl (by decide) rfl (fun ls hl => ?_)
        refine lv_goto (tgt := 2) hx hb dX2_unsetAll_18 (by decide) ?_
        refine W.widen (k := 0) (n := 0) (Nat.le_of_ble_eq_true rfl) (Nat.le_of_ble_eq_true rfl) ?_
        exact ih2 w104 x0 (x1 + 1) _ _ _ hd hP hS (lv_sub hl [1, 0] rfl)
  have hl := lv_entry ([.ref (h)]) (n := 2) (Nat.le_of_ble_eq_true rfl)
  rw [lg_entry_eq]
  generalize (lg_sl ([.ref (h)]) ++ List.replicate (2 - (lg_sl ([.ref (h)])).length) Slot.unset).toArray = ls at hl ⊢
  have hl : lv_has ls 2 [(0, .ref (h))] := hl
  refine lv_iconst (v := 0) hx hb dX2_unsetAll_0 (by decide) ?_
  refine lv_istore_n (lv' := [(1, .int (0)), (0, .ref (h))]) hx hb dX2_unsetAll_1 rfl hl (by decide) rfl (fun ls hl => ?_)
  refine W.widen (k := 0) (n := 0) (Nat.le_of_ble_eq_true rfl) (Nat.le_of_ble_eq_true rfl) ?_
  exact J2 m_N w h 0 _ _ _ hd hP hS (lv_sub hl [1, 0] rfl)


noncomputable def e_X3_init_57_b (k57 : mW → Nat → Nat → Int32 → Option (Unit × mW)) (w : mW) (x0 : Nat) (x4 : Nat) (x5 : Int32) : Option (Unit × mW) := if 8 ≤ x5 then (some ((), w)) else (m_g (m_kd w x0 = 7) <| m_o (m_fr w 6 6 x0) fun r116 => m_g (m_kd w x4 = 4) <| m_b (e_X0_stampSeen w x4 x5) fun r118 w119 => m_g (m_kd w119 r116 = 21 ∧ ¬ (x5 < 0 ∨ m_ln w119 r116 ≤ x5.toNatClampNeg)) <| m_l (m_sA w119 r116 (x5.toNatClampNeg) r118) fun w122 => k57 w122 x0 x4 (x5 + 1))
noncomputable def e_X3_init_57 (n : Nat) : mW → Nat → Nat → Int32 → Option (Unit × mW) := Nat.rec (motive := fun _ => mW → Nat → Nat → Int32 → Option (Unit × mW)) (fun _ _ _ _ => none) (fun _ k => e_X3_init_57_b  k) n
noncomputable def e_X3_init (w : mW) (h : Nat) (p0 : Int32) (p1 : Nat) (p2 : Int32) (p3 : Nat) : Option (Unit × mW) := m_g (¬ 8 < (0 : Int32) ∧ (8 : Int32).toNatClampNeg ≤ 8 ∧ 8 ≤ 4000) <| m_l (m_nA w 21 (8 : Int32).toNatClampNeg) fun w2 => m_g (m_kd w2 h = 7) <| m_l (m_sR w2 6 6 h (some (m_nx w))) fun w5 => m_l (m_sI w5 6 0 h p0) fun w6 => m_l (m_sR w6 6 1 h (some p1)) fun w7 => m_l (m_sI w7 6 2 h p2) fun w8 => m_g (m_kd w8 p3 = 4) <| m_g (vp_nar .boolean (m_fi w8 3 1 p3) = m_fi w8 3 1 p3) <| m_l (m_sI w8 6 3 h (m_fi w8 3 1 p3)) fun w11 => m_l (m_sI w11 6 4 h (m_fi w11 3 2 p3)) fun w12 => m_l (m_sI w12 6 5 h (m_fi w12 3 3 p3)) fun w13 => e_X3_init_57 m_N w13 h p3 0
set_option maxHeartbeats 1000000 in
set_option maxRecDepth 100000 in
theorem c_X3_init (l : Launch) (G : m_G) (w w' : mW) (h : Nat) (p0 : Int32) (p1 : Nat) (p2 : Int32) (p3 : Nat) (r : Unit) (hd : e_X3_init w h p0 p1 p2 p3 = some (r, w')) : Met l yX3_init wsX3_init ({ frames := 2, cells := 1, slots := 8, locals := 41 } : Room) (m_Pc G w [.ref (h), .int (p0), .ref (p1), .int (p2), .ref (p3)]) (m_Qv G r w') 1 8 (fun q => G.1 ≤ q) := by
  refine Met.ofW (cc := cX3_init) (maxL := 6) (ret := none) (by decide +kernel) rfl ?_
  intro p e s m args below meth c s₁ B hml hv
  obtain ⟨rfl, hM, hP⟩ := hv
  have hx := B.exec
  have hb := B.bytes
  have hr := B.returns
  have hts := atoms_spec (ws := wsX3_init) B.pre
  have hown : s.vm.findClass RX3 = some m.cls := findClass_of_methodNamed B.named
  have hlocks := B.notSynchronized
  have hin : meth.name = "<init>" := (name_of_methodNamed B.named B.method).1
  have hin3 : ∀ w ∈ u_ws RX0 TX0 7, w ∈ wsX3_init := by decide +kernel
  have hin6 : ∀ w ∈ u_ws RX3 TX3 7, w ∈ wsX3_init := by decide +kernel
  have hS : va_S (fun q => G.1 ≤ q) s.heap s.heap [] := va_S.rf
  have J57 : ∀ (n57 : Nat) (w : mW) (x0 : Nat) (x4 : Nat) (x5 : Int32) (H : Heap) (locs : List Loc) (ls : Array Slot), e_X3_init_57 n57 w x0 x4 x5 = some (r, w') → mP G w H → va_S (fun q => G.1 ≤ q) s.heap H locs → lv_has ls 6 [(0, .ref (x0)), (4, .ref (x4)), (5, .int (x5))] → W p l e ({ frames := 2, cells := 1, slots := 8, locals := 41 } : Room) s m ([.ref (h), .int (p0), .ref (p1), .int (p2), .ref (p3)] : List Value).toArray below meth c H locs 1 8 (MQ below (m_Qv G r w') ([.ref (h), .int (p0), .ref (p1), .int (p2), .ref (p3)] : List Value).toArray s 1 8 (fun q => G.1 ≤ q)) (F0 m 57 ls []) := by
    intro n57
    induction n57 with
    | zero => intro w x0 x4 x5 H locs ls hd; exact absurd (show (none : Option (Unit × mW)) = some _ from hd) (fun h => nomatch h)
    | succ n57 ih57 =>
      intro w x0 x4 x5 H locs ls hd hP hS hl
      have hd : e_X3_init_57_b (e_X3_init_57 n57) w x0 x4 x5 = some (r, w') := hd
      refine lv_iload hx hb dX3_init_57 (lv_at hl 2 rfl) ?_
      refine lv_bipush (v := 8) hx hb dX3_init_59 (by decide) ?_
      refine lv_icmp_ge (tgt := 84) hx hb dX3_init_61 (by decide) (fun c114 => ?_) (fun c114 => ?_)
      · have hd := m_i_t c114 hd
        obtain ⟨e1, e2⟩ := m_s_e hd
        refine W.widen (k := 1) (n := 8) (Nat.le_of_ble_eq_true rfl) (Nat.le_of_ble_eq_true rfl) ?_
        exact W.vret hx hb hr (fun t ht hW => ⟨⟨w, rfl, e2, by show mP _ _ t.heap; rw [ht]; exact hP⟩, hS.F ht⟩) hS.2.2 dX3_init_84
      · have hd := m_i_f c114 hd
        refine lv_aload_n hx hb dX3_init_64 rfl (lv_at hl 0 rfl) ?_
        obtain ⟨hk115, hd⟩ := m_g_e hd
        obtain ⟨r116, hr116, hd⟩ := m_o_e hd
        refine m_getR (C := RX3) (T := TX3) (N := 7) (own := RX3) (ref := RX3) hx hb hts hin6 hown hM.1 hP 6 rfl 6 (r := r116) ⟨hk115, hr116⟩ (by decide) (hts (.fieldLink RX3 9 "CellNotebook$Run" "stampsSeen" "[I") (by decide +kernel)) (fun _ h9 => h9) dX3_init_65 ?_
        refine lv_iload hx hb dX3_init_68 (lv_at hl 2 rfl) ?_
        refine lv_aload hx hb dX3_init_70 (lv_at hl 1 rfl) ?_
        refine lv_iload hx hb dX3_init_72 (lv_at hl 2 rfl) ?_
        obtain ⟨hk117, hd⟩ := m_g_e hd
        obtain ⟨r118, w119, hc120, hd⟩ := m_b_e hd
        refine m_calli (k := 1) (n := 8) (va_runV (As := [.int (x5)]) (rest := [.int (x5), .ref (r116)]) ⟨hx, hb, hml, hown, hts⟩ (c_X0_stampSeen l G w w119 x4 x5 r118 hc120) (cwV 1 hts gX3_init_X0_stampSeen rfl rfl rfl (by decide +kernel) ⟨(Nat.le_of_ble_eq_true rfl), (Nat.le_of_ble_eq_true rfl)⟩) (m_preV (C := RX0) (T := TX0) (N := 7) hM hP hS rfl (by decide) hk117) rfl rfl hl.1 rfl (lv_room (Nat.le_of_ble_eq_true rfl)) dX3_init_74 ⟨(Nat.le_of_ble_eq_true rfl), (Nat.le_of_ble_eq_true rfl)⟩) hS ⟨(Nat.le_of_ble_eq_true rfl), (Nat.le_of_ble_eq_true rfl)⟩ (fun H locs hP hS => ?_)
        obtain ⟨hg121, hd⟩ := m_g_e hd
        refine m_iast hx hb hM.1 hP hS hg121 dX3_init_77 (fun H locs hP hS => ?_)
        obtain ⟨w122, ew, hd⟩ := m_l_e hd
        have hP : mP G w122 H := by rw [ew]; exact hP
        refine lv_iinc (v := x5 + 1) (lv' := [(5, .int (x5 + 1)), (0, .ref (x0)), (4, .ref (x4))]) hx hb dX3_init_78 hl (k := 2) rfl rfl (by decide) rfl (fun ls hl => ?_)
        refine lv_goto (tgt := 57) hx hb dX3_init_81 (by decide) ?_
        refine W.widen (k := 1) (n := 8) (Nat.le_of_ble_eq_true rfl) (Nat.le_of_ble_eq_true rfl) ?_
        exact ih57 w122 x0 x4 (x5 + 1) _ _ _ hd hP hS (lv_sub hl [1, 2, 0] rfl)
  have hl := lv_entry ([.ref (h), .int (p0), .ref (p1), .int (p2), .ref (p3)]) (n := 6) (Nat.le_of_ble_eq_true rfl)
  rw [lg_entry_eq]
  generalize (lg_sl ([.ref (h), .int (p0), .ref (p1), .int (p2), .ref (p3)]) ++ List.replicate (6 - (lg_sl ([.ref (h), .int (p0), .ref (p1), .int (p2), .ref (p3)])).length) Slot.unset).toArray = ls at hl ⊢
  have hl : lv_has ls 6 [(0, .ref (h)), (1, .int (p0)), (2, .ref (p1)), (3, .int (p2)), (4, .ref (p3))] := hl
  refine lv_aload_n hx hb dX3_init_0 rfl (lv_at hl 0 rfl) ?_
  refine W.objInit hx hb hown (hts (.methodLink RX3 3 objectInit) (by decide +kernel)) (hts (.instanceMethod objectInit) (by decide +kernel)) (hts (.code objectInit ⟨#[0xb1]⟩ 1 none) (by decide +kernel)) rfl (by rw [hml]; exact hl.1) rfl dX3_init_1 (Nat.le_of_ble_eq_true rfl) (Nat.le_of_ble_eq_true rfl) ?_
  refine W.eq (g2 := F0 m 4 ls []) rfl ?_
  refine lv_aload_n hx hb dX3_init_4 rfl (lv_at hl 0 rfl) ?_
  refine lv_bipush (v := 8) hx hb dX3_init_5 (by decide) ?_
  obtain ⟨hg1, hd⟩ := m_g_e hd
  refine m_newA (atype := .int) 21 hx hb (hts (.arrayClass .int) (by decide +kernel)) rfl hM.1 hP hS (t0 := 0) rfl m_naint hg1 (Nat.le_of_ble_eq_true rfl) (Nat.le_of_ble_eq_true rfl) dX3_init_7 (fun H hP hS => ?_)
  obtain ⟨w2, ew, hd⟩ := m_l_e hd
  have hP : mP G w2 H := by rw [ew]; exact hP
  have hk3 : m_kd w2 (m_nx w) = 21 := by rw [ew]; exact m_nA_new
  obtain ⟨hk4, hd⟩ := m_g_e hd
  refine m_putR (C := RX3) (T := TX3) (N := 7) (own := RX3) (ref := RX3) hx hb hts hin6 tyX3 tyX3_ok nmX3 hown hM.1 hP hS 6 rfl 6 hk4 (by decide) (hts (.fieldLink RX3 9 "CellNotebook$Run" "stampsSeen" "[I") (by decide +kernel)) (fun _ h9 => h9) (Or.inr ⟨rfl, hin, rfl⟩) (ty := .array .int) (by decide +kernel) ⟨rfl, rfl⟩ dX3_init_9 (fun H locs hP hS => ?_)
  obtain ⟨w5, ew, hd⟩ := m_l_e hd
  have hP : mP G w5 H := by rw [ew]; exact hP
  have hk3 : m_kd w5 (m_nx w) = 21 := by rw [ew]; exact hk3
  have hk4 : m_kd w5 h = 7 := by rw [ew]; exact hk4
  refine lv_aload_n hx hb dX3_init_12 rfl (lv_at hl 0 rfl) ?_
  refine lv_iload_n hx hb dX3_init_13 rfl (lv_at hl 1 rfl) ?_
  refine m_putI (C := RX3) (T := TX3) (N := 7) (own := RX3) (ref := RX3) hx hb hts hin6 tyX3 tyX3_ok nmX3 hown hM.1 hP hS 6 rfl 0 hk4 (by decide) (hts (.fieldLink RX3 15 "CellNotebook$Run" "number" "I") (by decide +kernel)) (fun _ h9 => h9) (Or.inr ⟨rfl, hin, rfl⟩) (ty := .int) rfl ⟨rfl, rfl⟩ dX3_init_14 (fun H locs hP hS => ?_)
  obtain ⟨w6, ew, hd⟩ := m_l_e hd
  have hP : mP G w6 H := by rw [ew]; exact hP
  have hk3 : m_kd w6 (m_nx w) = 21 := by rw [ew]; exact hk3
  have hk4 : m_kd w6 h = 7 := by rw [ew]; exact hk4
  refine lv_aload_n hx hb dX3_init_17 rfl (lv_at hl 0 rfl) ?_
  refine lv_aload_n hx hb dX3_init_18 rfl (lv_at hl 2 rfl) ?_
  refine m_putR (C := RX3) (T := TX3) (N := 7) (own := RX3) (ref := RX3) hx hb hts hin6 tyX3 tyX3_ok nmX3 hown hM.1 hP hS 6 rfl 1 hk4 (by decide) (hts (.fieldLink RX3 19 "CellNotebook$Run" "cell" "LCellNotebook$Cell;") (by decide +kernel)) (fun _ h9 => h9) (Or.inr ⟨rfl, hin, rfl⟩) (ty := .object "CellNotebook$Cell") (by decide +kernel) ⟨rfl, rfl⟩ dX3_init_19 (fun H locs hP hS => ?_)
  obtain ⟨w7, ew, hd⟩ := m_l_e hd
  have hP : mP G w7 H := by rw [ew]; exact hP
  have hk3 : m_kd w7 (m_nx w) = 21 := by rw [ew]; exact hk3
  have hk4 : m_kd w7 h = 7 := by rw [ew]; exact hk4
  refine lv_aload_n hx hb dX3_init_22 rfl (lv_at hl 0 rfl) ?_
  refine lv_iload_n hx hb dX3_init_23 rfl (lv_at hl 3 rfl) ?_
  refine m_putI (C := RX3) (T := TX3) (N := 7) (own := RX3) (ref := RX3) hx hb hts hin6 tyX3 tyX3_ok nmX3 hown hM.1 hP hS 6 rfl 2 hk4 (by decide) (hts (.fieldLink RX3 23 "CellNotebook$Run" "user" "I") (by decide +kernel)) (fun _ h9 => h9) (Or.inr ⟨rfl, hin, rfl⟩) (ty := .int) rfl ⟨rfl, rfl⟩ dX3_init_24 (fun H locs hP hS => ?_)
  obtain ⟨w8, ew, hd⟩ := m_l_e hd
  have hP : mP G w8 H := by rw [ew]; exact hP
  have hk3 : m_kd w8 (m_nx w) = 21 := by rw [ew]; exact hk3
  have hk4 : m_kd w8 h = 7 := by rw [ew]; exact hk4
  refine lv_aload_n hx hb dX3_init_27 rfl (lv_at hl 0 rfl) ?_
  refine lv_aload hx hb dX3_init_28 (lv_at hl 4 rfl) ?_
  obtain ⟨hk9, hd⟩ := m_g_e hd
  refine m_getI (C := RX0) (T := TX0) (N := 7) (own := RX3) (ref := RX0) hx hb hts hin3 hown hM.1 hP 3 rfl 1 hk9 (by decide) (hts (.fieldLink RX3 26 "CellNotebook$Attempt" "hasOutcome" "Z") (by decide +kernel)) (fun _ h9 => h9) dX3_init_30 ?_
  obtain ⟨hn10, hd⟩ := m_g_e hd
  refine m_putI (C := RX3) (T := TX3) (N := 7) (own := RX3) (ref := RX3) hx hb hts hin6 tyX3 tyX3_ok nmX3 hown hM.1 hP hS 6 rfl 3 hk4 (by decide) (hts (.fieldLink RX3 32 "CellNotebook$Run" "hasOutcome" "Z") (by decide +kernel)) (fun _ h9 => h9) (Or.inr ⟨rfl, hin, rfl⟩) (ty := .boolean) rfl (m_narZ hn10) dX3_init_33 (fun H locs hP hS => ?_)
  obtain ⟨w11, ew, hd⟩ := m_l_e hd
  have hP : mP G w11 H := by rw [ew]; exact hP
  have hk3 : m_kd w11 (m_nx w) = 21 := by rw [ew]; exact hk3
  have hk4 : m_kd w11 h = 7 := by rw [ew]; exact hk4
  have hk9 : m_kd w11 p3 = 4 := by rw [ew]; exact hk9
  refine lv_aload_n hx hb dX3_init_36 rfl (lv_at hl 0 rfl) ?_
  refine lv_aload hx hb dX3_init_37 (lv_at hl 4 rfl) ?_
  refine m_getI (C := RX0) (T := TX0) (N := 7) (own := RX3) (ref := RX0) hx hb hts hin3 hown hM.1 hP 3 rfl 2 hk9 (by decide) (hts (.fieldLink RX3 33 "CellNotebook$Attempt" "outcome" "I") (by decide +kernel)) (fun _ h9 => h9) dX3_init_39 ?_
  refine m_putI (C := RX3) (T := TX3) (N := 7) (own := RX3) (ref := RX3) hx hb hts hin6 tyX3 tyX3_ok nmX3 hown hM.1 hP hS 6 rfl 4 hk4 (by decide) (hts (.fieldLink RX3 36 "CellNotebook$Run" "outcome" "I") (by decide +kernel)) (fun _ h9 => h9) (Or.inr ⟨rfl, hin, rfl⟩) (ty := .int) rfl ⟨rfl, rfl⟩ dX3_init_42 (fun H locs hP hS => ?_)
  obtain ⟨w12, ew, hd⟩ := m_l_e hd
  have hP : mP G w12 H := by rw [ew]; exact hP
  have hk3 : m_kd w12 (m_nx w) = 21 := by rw [ew]; exact hk3
  have hk4 : m_kd w12 h = 7 := by rw [ew]; exact hk4
  have hk9 : m_kd w12 p3 = 4 := by rw [ew]; exact hk9
  refine lv_aload_n hx hb dX3_init_45 rfl (lv_at hl 0 rfl) ?_
  refine lv_aload hx hb dX3_init_46 (lv_at hl 4 rfl) ?_
  refine m_getI (C := RX0) (T := TX0) (N := 7) (own := RX3) (ref := RX0) hx hb hts hin3 hown hM.1 hP 3 rfl 3 hk9 (by decide) (hts (.fieldLink RX3 37 "CellNotebook$Attempt" "namesSeen" "I") (by decide +kernel)) (fun _ h9 => h9) dX3_init_48 ?_
  refine m_putI (C := RX3) (T := TX3) (N := 7) (own := RX3) (ref := RX3) hx hb hts hin6 tyX3 tyX3_ok nmX3 hown hM.1 hP hS 6 rfl 5 hk4 (by decide) (hts (.fieldLink RX3 40 "CellNotebook$Run" "namesSeen" "I") (by decide +kernel)) (fun _ h9 => h9) (Or.inr ⟨rfl, hin, rfl⟩) (ty := .int) rfl ⟨rfl, rfl⟩ dX3_init_51 (fun H locs hP hS => ?_)
  obtain ⟨w13, ew, hd⟩ := m_l_e hd
  have hP : mP G w13 H := by rw [ew]; exact hP
  have hk3 : m_kd w13 (m_nx w) = 21 := by rw [ew]; exact hk3
  have hk4 : m_kd w13 h = 7 := by rw [ew]; exact hk4
  have hk9 : m_kd w13 p3 = 4 := by rw [ew]; exact hk9
  refine lv_iconst (v := 0) hx hb dX3_init_54 (by decide) ?_
  refine lv_istore (lv' := [(5, .int (0)), (0, .ref (h)), (1, .int (p0)), (2, .ref (p1)), (3, .int (p2)), (4, .ref (p3))]) hx hb dX3_init_55 hl (by decide) rfl (fun ls hl => ?_)
  refine W.widen (k := 1) (n := 8) (Nat.le_of_ble_eq_true rfl) (Nat.le_of_ble_eq_true rfl) ?_
  exact J57 m_N w13 h p3 0 _ _ _ hd hP hS (lv_sub hl [1, 5, 0] rfl)


noncomputable def e_X3_sawName_23 (w : mW) (s0 : Int32) : Option (Int32 × mW) := m_g (vp_nar .boolean s0 = s0) <| some (s0, w)
noncomputable def e_X3_sawName_22 (w : mW)  : Option (Int32 × mW) := e_X3_sawName_23 w 0
noncomputable def e_X3_sawName (w : mW) (h : Nat) (p0 : Int32) : Option (Int32 × mW) := m_b (e_X6_isName w p0) fun r1 w2 => if r1 = (0 : Int32) then (e_X3_sawName_22 w2) else (m_g (m_kd w2 h = 7) <| if ((m_fi w2 6 5 h) &&& (1 <<< (p0 &&& 31))) = (0 : Int32) then (e_X3_sawName_22 w2) else (e_X3_sawName_23 w2 1))
set_option maxHeartbeats 1000000 in
set_option maxRecDepth 100000 in
theorem c_X3_sawName (l : Launch) (G : m_G) (w w' : mW) (h : Nat) (p0 : Int32) (r : Int32) (hd : e_X3_sawName w h p0 = some (r, w')) : Met l yX3_sawName wsX3_sawName ({ frames := 1, cells := 0, slots := 0, locals := 20 } : Room) (m_Pc G w [.ref (h), .int (p0)]) (m_Qi G r w') 0 0 (fun q => G.1 ≤ q) := by
  refine Met.ofW (cc := cX3_sawName) (maxL := 2) (ret := (some .boolean)) (by decide +kernel) rfl ?_
  intro p e s m args below meth c s₁ B hml hv
  obtain ⟨rfl, hM, hP⟩ := hv
  have hx := B.exec
  have hb := B.bytes
  have hr := B.returns
  have hts := atoms_spec (ws := wsX3_sawName) B.pre
  have hown : s.vm.findClass RX3 = some m.cls := findClass_of_methodNamed B.named
  have hlocks := B.notSynchronized
  have hin6 : ∀ w ∈ u_ws RX3 TX3 7, w ∈ wsX3_sawName := by decide +kernel
  have hS : va_S (fun q => G.1 ≤ q) s.heap s.heap [] := va_S.rf
  have J23 : ∀ (w : mW) (s0 : Int32) (H : Heap) (locs : List Loc) (ls : Array Slot), e_X3_sawName_23 w s0 = some (r, w') → mP G w H → va_S (fun q => G.1 ≤ q) s.heap H locs → lv_has ls 2 [] → W p l e ({ frames := 1, cells := 0, slots := 0, locals := 20 } : Room) s m ([.ref (h), .int (p0)] : List Value).toArray below meth c H locs 0 0 (MQ below (m_Qi G r w') ([.ref (h), .int (p0)] : List Value).toArray s 0 0 (fun q => G.1 ≤ q)) (F0 m 23 ls [.int (s0)]) := by
    intro w s0 H locs ls hd hP hS hl
    obtain ⟨hn207, hd⟩ := m_g_e hd
    obtain ⟨e1, e2⟩ := m_s_e hd
    refine W.widen (k := 0) (n := 0) (Nat.le_of_ble_eq_true rfl) (Nat.le_of_ble_eq_true rfl) ?_
    exact W.zret hx hb hr (m_narZ hn207).1 (fun t ht hW => ⟨⟨_, w, rfl, ⟨e1, e2⟩, by show mP _ _ t.heap; rw [ht]; exact hP⟩, hS.F ht⟩) hS.2.2 dX3_sawName_23
  have J22 : ∀ (w : mW) (H : Heap) (locs : List Loc) (ls : Array Slot), e_X3_sawName_22 w = some (r, w') → mP G w H → va_S (fun q => G.1 ≤ q) s.heap H locs → lv_has ls 2 [] → W p l e ({ frames := 1, cells := 0, slots := 0, locals := 20 } : Room) s m ([.ref (h), .int (p0)] : List Value).toArray below meth c H locs 0 0 (MQ below (m_Qi G r w') ([.ref (h), .int (p0)] : List Value).toArray s 0 0 (fun q => G.1 ≤ q)) (F0 m 22 ls []) := by
    intro w H locs ls hd hP hS hl
    refine lv_iconst (v := 0) hx hb dX3_sawName_22 (by decide) ?_
    refine W.widen (k := 0) (n := 0) (Nat.le_of_ble_eq_true rfl) (Nat.le_of_ble_eq_true rfl) ?_
    exact J23 w 0 _ _ _ hd hP hS (lv_sub hl [] rfl)
  have hl := lv_entry ([.ref (h), .int (p0)]) (n := 2) (Nat.le_of_ble_eq_true rfl)
  rw [lg_entry_eq]
  generalize (lg_sl ([.ref (h), .int (p0)]) ++ List.replicate (2 - (lg_sl ([.ref (h), .int (p0)])).length) Slot.unset).toArray = ls at hl ⊢
  have hl : lv_has ls 2 [(0, .ref (h)), (1, .int (p0))] := hl
  refine lv_iload_n hx hb dX3_sawName_0 rfl (lv_at hl 1 rfl) ?_
  obtain ⟨r1, w2, hc3, hd⟩ := m_b_e hd
  refine m_calli (k := 0) (n := 0) (va_runSN (As := [.int (p0)]) (rest := []) ⟨hx, hb, hml, hown, hts⟩ (c_X6_isName l G w w2 p0 r1 hc3) ⟨va_cnB (host := RX6) 1 hts gX3_sawName_X6_isName_n45 rfl rfl rfl (hM.2.1.2.2.2.2.2.2.2 (RX3, 45, yX6_isName) (by decide +kernel)) (hts (.initialized RX6) (by decide +kernel)) (by decide +kernel) ⟨(Nat.le_of_ble_eq_true rfl), (Nat.le_of_ble_eq_true rfl)⟩, (hts (.static yX6_isName) (by decide +kernel)), trivial⟩ (m_preS hM hP hS) rfl rfl hl.1 rfl (lv_room (Nat.le_of_ble_eq_true rfl)) dX3_sawName_1 ⟨(Nat.le_of_ble_eq_true rfl), (Nat.le_of_ble_eq_true rfl)⟩) hS ⟨(Nat.le_of_ble_eq_true rfl), (Nat.le_of_ble_eq_true rfl)⟩ (fun H locs hP hS => ?_)
  refine lv_if_eq (tgt := 22) hx hb dX3_sawName_4 (by decide) (fun c4 => ?_) (fun c4 => ?_)
  · have hd := m_i_t c4 hd
    refine W.widen (k := 0) (n := 0) (Nat.le_of_ble_eq_true rfl) (Nat.le_of_ble_eq_true rfl) ?_
    exact J22 w2 _ _ _ hd hP hS (lv_sub hl [] rfl)
  · have hd := m_i_f c4 hd
    refine lv_aload_n hx hb dX3_sawName_7 rfl (lv_at hl 0 rfl) ?_
    obtain ⟨hk5, hd⟩ := m_g_e hd
    refine m_getI (C := RX3) (T := TX3) (N := 7) (own := RX3) (ref := RX3) hx hb hts hin6 hown hM.1 hP 6 rfl 5 hk5 (by decide) (hts (.fieldLink RX3 40 "CellNotebook$Run" "namesSeen" "I") (by decide +kernel)) (fun _ h9 => h9) dX3_sawName_8 ?_
    refine lv_iconst (v := 1) hx hb dX3_sawName_11 (by decide) ?_
    refine lv_iload_n hx hb dX3_sawName_12 rfl (lv_at hl 1 rfl) ?_
    refine lv_ishl hx hb dX3_sawName_13 ?_
    refine lv_iand hx hb dX3_sawName_14 ?_
    refine lv_if_eq (tgt := 22) hx hb dX3_sawName_15 (by decide) (fun c6 => ?_) (fun c6 => ?_)
    · have hd := m_i_t c6 hd
      refine W.widen (k := 0) (n := 0) (Nat.le_of_ble_eq_true rfl) (Nat.le_of_ble_eq_true rfl) ?_
      exact J22 w2 _ _ _ hd hP hS (lv_sub hl [] rfl)
    · have hd := m_i_f c6 hd
      refine lv_iconst (v := 1) hx hb dX3_sawName_18 (by decide) ?_
      refine lv_goto (tgt := 23) hx hb dX3_sawName_19 (by decide) ?_
      refine W.widen (k := 0) (n := 0) (Nat.le_of_ble_eq_true rfl) (Nat.le_of_ble_eq_true rfl) ?_
      exact J23 w2 1 _ _ _ hd hP hS (lv_sub hl [] rfl)


noncomputable def e_X3_stampSeen_17 (w : mW) (s0 : Int32) : Option (Int32 × mW) := some (s0, w)
noncomputable def e_X3_stampSeen (w : mW) (h : Nat) (p0 : Int32) : Option (Int32 × mW) := m_b (e_X6_isName w p0) fun r1 w2 => if r1 = (0 : Int32) then (e_X3_stampSeen_17 w2 0) else (m_g (m_kd w2 h = 7) <| m_o (m_fr w2 6 6 h) fun r6 => m_g (m_kd w2 r6 = 21 ∧ ¬ (p0 < 0 ∨ m_ln w2 r6 ≤ p0.toNatClampNeg)) <| e_X3_stampSeen_17 w2 (m_ia w2 r6 p0.toNatClampNeg))
set_option maxHeartbeats 1000000 in
set_option maxRecDepth 100000 in
theorem c_X3_stampSeen (l : Launch) (G : m_G) (w w' : mW) (h : Nat) (p0 : Int32) (r : Int32) (hd : e_X3_stampSeen w h p0 = some (r, w')) : Met l yX3_stampSeen wsX3_stampSeen ({ frames := 1, cells := 0, slots := 0, locals := 20 } : Room) (m_Pc G w [.ref (h), .int (p0)]) (m_Qi G r w') 0 0 (fun q => G.1 ≤ q) := by
  refine Met.ofW (cc := cX3_stampSeen) (maxL := 2) (ret := (some .int)) (by decide +kernel) rfl ?_
  intro p e s m args below meth c s₁ B hml hv
  obtain ⟨rfl, hM, hP⟩ := hv
  have hx := B.exec
  have hb := B.bytes
  have hr := B.returns
  have hts := atoms_spec (ws := wsX3_stampSeen) B.pre
  have hown : s.vm.findClass RX3 = some m.cls := findClass_of_methodNamed B.named
  have hlocks := B.notSynchronized
  have hin6 : ∀ w ∈ u_ws RX3 TX3 7, w ∈ wsX3_stampSeen := by decide +kernel
  have hS : va_S (fun q => G.1 ≤ q) s.heap s.heap [] := va_S.rf
  have J17 : ∀ (w : mW) (s0 : Int32) (H : Heap) (locs : List Loc) (ls : Array Slot), e_X3_stampSeen_17 w s0 = some (r, w') → mP G w H → va_S (fun q => G.1 ≤ q) s.heap H locs → lv_has ls 2 [] → W p l e ({ frames := 1, cells := 0, slots := 0, locals := 20 } : Room) s m ([.ref (h), .int (p0)] : List Value).toArray below meth c H locs 0 0 (MQ below (m_Qi G r w') ([.ref (h), .int (p0)] : List Value).toArray s 0 0 (fun q => G.1 ≤ q)) (F0 m 17 ls [.int (s0)]) := by
    intro w s0 H locs ls hd hP hS hl
    obtain ⟨e1, e2⟩ := m_s_e hd
    refine W.widen (k := 0) (n := 0) (Nat.le_of_ble_eq_true rfl) (Nat.le_of_ble_eq_true rfl) ?_
    exact W.iret hx hb hr (fun t ht hW => ⟨⟨_, w, rfl, ⟨e1, e2⟩, by show mP _ _ t.heap; rw [ht]; exact hP⟩, hS.F ht⟩) hS.2.2 dX3_stampSeen_17
  have hl := lv_entry ([.ref (h), .int (p0)]) (n := 2) (Nat.le_of_ble_eq_true rfl)
  rw [lg_entry_eq]
  generalize (lg_sl ([.ref (h), .int (p0)]) ++ List.replicate (2 - (lg_sl ([.ref (h), .int (p0)])).length) Slot.unset).toArray = ls at hl ⊢
  have hl : lv_has ls 2 [(0, .ref (h)), (1, .int (p0))] := hl
  refine lv_iload_n hx hb dX3_stampSeen_0 rfl (lv_at hl 1 rfl) ?_
  obtain ⟨r1, w2, hc3, hd⟩ := m_b_e hd
  refine m_calli (k := 0) (n := 0) (va_runSN (As := [.int (p0)]) (rest := []) ⟨hx, hb, hml, hown, hts⟩ (c_X6_isName l G w w2 p0 r1 hc3) ⟨va_cnB (host := RX6) 1 hts gX3_stampSeen_X6_isName_n45 rfl rfl rfl (hM.2.1.2.2.2.2.2.2.2 (RX3, 45, yX6_isName) (by decide +kernel)) (hts (.initialized RX6) (by decide +kernel)) (by decide +kernel) ⟨(Nat.le_of_ble_eq_true rfl), (Nat.le_of_ble_eq_true rfl)⟩, (hts (.static yX6_isName) (by decide +kernel)), trivial⟩ (m_preS hM hP hS) rfl rfl hl.1 rfl (lv_room (Nat.le_of_ble_eq_true rfl)) dX3_stampSeen_1 ⟨(Nat.le_of_ble_eq_true rfl), (Nat.le_of_ble_eq_true rfl)⟩) hS ⟨(Nat.le_of_ble_eq_true rfl), (Nat.le_of_ble_eq_true rfl)⟩ (fun H locs hP hS => ?_)
  refine lv_if_eq (tgt := 16) hx hb dX3_stampSeen_4 (by decide) (fun c4 => ?_) (fun c4 => ?_)
  · have hd := m_i_t c4 hd
    refine lv_iconst (v := 0) hx hb dX3_stampSeen_16 (by decide) ?_
    refine W.widen (k := 0) (n := 0) (Nat.le_of_ble_eq_true rfl) (Nat.le_of_ble_eq_true rfl) ?_
    exact J17 w2 0 _ _ _ hd hP hS (lv_sub hl [] rfl)
  · have hd := m_i_f c4 hd
    refine lv_aload_n hx hb dX3_stampSeen_7 rfl (lv_at hl 0 rfl) ?_
    obtain ⟨hk5, hd⟩ := m_g_e hd
    obtain ⟨r6, hr6, hd⟩ := m_o_e hd
    refine m_getR (C := RX3) (T := TX3) (N := 7) (own := RX3) (ref := RX3) hx hb hts hin6 hown hM.1 hP 6 rfl 6 (r := r6) ⟨hk5, hr6⟩ (by decide) (hts (.fieldLink RX3 9 "CellNotebook$Run" "stampsSeen" "[I") (by decide +kernel)) (fun _ h9 => h9) dX3_stampSeen_8 ?_
    refine lv_iload_n hx hb dX3_stampSeen_11 rfl (lv_at hl 1 rfl) ?_
    obtain ⟨hg7, hd⟩ := m_g_e hd
    refine m_iald hx hb hM.1 hP hg7 dX3_stampSeen_12 ?_
    refine lv_goto (tgt := 17) hx hb dX3_stampSeen_13 (by decide) ?_
    refine W.widen (k := 0) (n := 0) (Nat.le_of_ble_eq_true rfl) (Nat.le_of_ble_eq_true rfl) ?_
    exact J17 w2 (m_ia w2 r6 p0.toNatClampNeg) _ _ _ hd hP hS (lv_sub hl [] rfl)


noncomputable def e_X4_init (w : mW) (h : Nat) : Option (Unit × mW) := m_l (m_nO w 5) fun w1 => m_b (e_X2_init w1 (m_nx w)) fun r3 w4 => m_g (m_kd w4 h = 8) <| m_l (m_sR w4 7 0 h (some (m_nx w))) fun w7 => m_g (¬ 16 < (0 : Int32) ∧ (16 : Int32).toNatClampNeg ≤ 16 ∧ 16 ≤ 4000) <| m_l (m_nA w7 21 (16 : Int32).toNatClampNeg) fun w9 => m_l (m_sR w9 7 1 h (some (m_nx w7))) fun w11 => some ((), w11)
set_option maxHeartbeats 1000000 in
set_option maxRecDepth 100000 in
theorem c_X4_init (l : Launch) (G : m_G) (w w' : mW) (h : Nat) (r : Unit) (hd : e_X4_init w h = some (r, w')) : Met l yX4_init wsX4_init ({ frames := 2, cells := 4, slots := 34, locals := 60 } : Room) (m_Pc G w [.ref (h)]) (m_Qv G r w') 4 34 (fun q => G.1 ≤ q) := by
  refine Met.ofW (cc := cX4_init) (maxL := 1) (ret := none) (by decide +kernel) rfl ?_
  intro p e s m args below meth c s₁ B hml hv
  obtain ⟨rfl, hM, hP⟩ := hv
  have hx := B.exec
  have hb := B.bytes
  have hr := B.returns
  have hts := atoms_spec (ws := wsX4_init) B.pre
  have hown : s.vm.findClass RX4 = some m.cls := findClass_of_methodNamed B.named
  have hlocks := B.notSynchronized
  have hin : meth.name = "<init>" := (name_of_methodNamed B.named B.method).1
  have hin5 : ∀ w ∈ u_ws RX2 TX2 2, w ∈ wsX4_init := by decide +kernel
  have hin7 : ∀ w ∈ u_ws RX4 TX4 2, w ∈ wsX4_init := by decide +kernel
  have hS : va_S (fun q => G.1 ≤ q) s.heap s.heap [] := va_S.rf
  have hl := lv_entry ([.ref (h)]) (n := 1) (Nat.le_of_ble_eq_true rfl)
  rw [lg_entry_eq]
  generalize (lg_sl ([.ref (h)]) ++ List.replicate (1 - (lg_sl ([.ref (h)])).length) Slot.unset).toArray = ls at hl ⊢
  have hl : lv_has ls 1 [(0, .ref (h))] := hl
  refine lv_aload_n hx hb dX4_init_0 rfl (lv_at hl 0 rfl) ?_
  refine W.objInit hx hb hown (hts (.methodLink RX4 3 objectInit) (by decide +kernel)) (hts (.instanceMethod objectInit) (by decide +kernel)) (hts (.code objectInit ⟨#[0xb1]⟩ 1 none) (by decide +kernel)) rfl (by rw [hml]; exact hl.1) rfl dX4_init_1 (Nat.le_of_ble_eq_true rfl) (Nat.le_of_ble_eq_true rfl) ?_
  refine W.eq (g2 := F0 m 4 ls []) rfl ?_
  refine lv_aload_n hx hb dX4_init_4 rfl (lv_at hl 0 rfl) ?_
  refine m_new (C := RX2) (T := TX2) (N := 2) (own := RX4) hx hb hts hin5 tyX2 tyX2_ok hown (hts (.classLink RX4 9 RX2) (by decide +kernel)) (hts (.instantiable RX2 2) (by decide +kernel)) (hts (.initialized RX2) (by decide +kernel)) hM.1 hP hS 5 rfl ⟨by decide, by decide, m_dfX2⟩ (Nat.le_of_ble_eq_true rfl) (Nat.le_of_ble_eq_true rfl) dX4_init_5 (fun H hP hS => ?_)
  obtain ⟨w1, ew, hd⟩ := m_l_e hd
  have hP : mP G w1 H := by rw [ew]; exact hP
  have hk2 : m_kd w1 (m_nx w) = 6 := by rw [ew]; exact m_nO_new
  refine lv_dup hx hb dX4_init_8 rfl ?_
  obtain ⟨r3, w4, hc5, hd⟩ := m_b_e hd
  refine m_callv (k := 3) (n := 18) (va_runIN (As := []) (rest := [.ref (m_nx w), .ref (h)]) ⟨hx, hb, hml, hown, hts⟩ (c_X2_init l G w1 w4 (m_nx w) r3 hc5) ⟨va_cnB (host := RX6) 0 hts gX4_init_X2_init_n11 rfl rfl rfl (hM.2.1.2.2.2.2.2.2.2 (RX4, 11, yX2_init) (by decide +kernel)) (hts (.initialized RX2) (by decide +kernel)) (by decide +kernel) ⟨(Nat.le_of_ble_eq_true rfl), (Nat.le_of_ble_eq_true rfl)⟩, rfl, (hts (.instanceMethod yX2_init) (by decide +kernel))⟩ (m_preS hM hP hS) rfl rfl hl.1 rfl (lv_room (Nat.le_of_ble_eq_true rfl)) dX4_init_9 ⟨(Nat.le_of_ble_eq_true rfl), (Nat.le_of_ble_eq_true rfl)⟩) hS ⟨(Nat.le_of_ble_eq_true rfl), (Nat.le_of_ble_eq_true rfl)⟩ (fun H locs hP hS => ?_)
  obtain ⟨hk6, hd⟩ := m_g_e hd
  refine m_putR (C := RX4) (T := TX4) (N := 2) (own := RX4) (ref := RX4) hx hb hts hin7 tyX4 tyX4_ok nmX4 hown hM.1 hP hS 7 rfl 0 hk6 (by decide) (hts (.fieldLink RX4 12 "CellNotebook$Session" "names" "LCellNotebook$Names;") (by decide +kernel)) (fun _ h9 => h9) (Or.inr ⟨rfl, hin, rfl⟩) (ty := .object "CellNotebook$Names") (by decide +kernel) ⟨rfl, rfl⟩ dX4_init_12 (fun H locs hP hS => ?_)
  obtain ⟨w7, ew, hd⟩ := m_l_e hd
  have hP : mP G w7 H := by rw [ew]; exact hP
  have hk6 : m_kd w7 h = 8 := by rw [ew]; exact hk6
  refine lv_aload_n hx hb dX4_init_15 rfl (lv_at hl 0 rfl) ?_
  refine lv_bipush (v := 16) hx hb dX4_init_16 (by decide) ?_
  obtain ⟨hg8, hd⟩ := m_g_e hd
  have hne0 : h ≠ m_nx w7 := m_ne hP hk6 (by decide)
  refine m_newA (atype := .int) 21 hx hb (hts (.arrayClass .int) (by decide +kernel)) rfl hM.1 hP hS (t0 := 0) rfl m_naint hg8 (Nat.le_of_ble_eq_true rfl) (Nat.le_of_ble_eq_true rfl) dX4_init_18 (fun H hP hS => ?_)
  obtain ⟨w9, ew, hd⟩ := m_l_e hd
  have hP : mP G w9 H := by rw [ew]; exact hP
  have hk6 : m_kd w9 h = 8 := by rw [ew]; exact m_nA_old hk6 hne0
  have hk10 : m_kd w9 (m_nx w7) = 21 := by rw [ew]; exact m_nA_new
  refine m_putR (C := RX4) (T := TX4) (N := 2) (own := RX4) (ref := RX4) hx hb hts hin7 tyX4 tyX4_ok nmX4 hown hM.1 hP hS 7 rfl 1 hk6 (by decide) (hts (.fieldLink RX4 18 "CellNotebook$Session" "lastRuns" "[I") (by decide +kernel)) (fun _ h9 => h9) (Or.inr ⟨rfl, hin, rfl⟩) (ty := .array .int) (by decide +kernel) ⟨rfl, rfl⟩ dX4_init_20 (fun H locs hP hS => ?_)
  obtain ⟨w11, ew, hd⟩ := m_l_e hd
  have hP : mP G w11 H := by rw [ew]; exact hP
  have hk6 : m_kd w11 h = 8 := by rw [ew]; exact hk6
  have hk10 : m_kd w11 (m_nx w7) = 21 := by rw [ew]; exact hk10
  obtain ⟨e1, e2⟩ := m_s_e hd
  refine W.widen (k := 4) (n := 34) (Nat.le_of_ble_eq_true rfl) (Nat.le_of_ble_eq_true rfl) ?_
  exact W.vret hx hb hr (fun t ht hW => ⟨⟨w11, rfl, e2, by show mP _ _ t.heap; rw [ht]; exact hP⟩, hS.F ht⟩) hS.2.2 dX4_init_23


noncomputable def e_X4_lastRunOf_23 (w : mW) (s0 : Int32) : Option (Int32 × mW) := some (s0, w)
noncomputable def e_X4_lastRunOf_22 (w : mW)  : Option (Int32 × mW) := e_X4_lastRunOf_23 w 0
noncomputable def e_X4_lastRunOf (w : mW) (h : Nat) (p0 : Int32) : Option (Int32 × mW) := if p0 < (0 : Int32) then (e_X4_lastRunOf_22 w) else (m_g (m_kd w h = 8) <| m_o (m_fr w 7 1 h) fun r3 => m_g (21 ≤ m_kd w r3 ∧ m_kd w r3 ≤ 25) <| if (nI (m_ln w r3)) ≤ p0 then (e_X4_lastRunOf_22 w) else (m_o (m_fr w 7 1 h) fun r6 => m_g (m_kd w r6 = 21 ∧ ¬ (p0 < 0 ∨ m_ln w r6 ≤ p0.toNatClampNeg)) <| e_X4_lastRunOf_23 w (m_ia w r6 p0.toNatClampNeg)))
set_option maxHeartbeats 1000000 in
set_option maxRecDepth 100000 in
theorem c_X4_lastRunOf (l : Launch) (G : m_G) (w w' : mW) (h : Nat) (p0 : Int32) (r : Int32) (hd : e_X4_lastRunOf w h p0 = some (r, w')) : Met l yX4_lastRunOf wsX4_lastRunOf ({ frames := 0, cells := 0, slots := 0, locals := 0 } : Room) (m_Pc G w [.ref (h), .int (p0)]) (m_Qi G r w') 0 0 (fun q => G.1 ≤ q) := by
  refine Met.ofW (cc := cX4_lastRunOf) (maxL := 2) (ret := (some .int)) (by decide +kernel) rfl ?_
  intro p e s m args below meth c s₁ B hml hv
  obtain ⟨rfl, hM, hP⟩ := hv
  have hx := B.exec
  have hb := B.bytes
  have hr := B.returns
  have hts := atoms_spec (ws := wsX4_lastRunOf) B.pre
  have hown : s.vm.findClass RX4 = some m.cls := findClass_of_methodNamed B.named
  have hlocks := B.notSynchronized
  have hin7 : ∀ w ∈ u_ws RX4 TX4 2, w ∈ wsX4_lastRunOf := by decide +kernel
  have hS : va_S (fun q => G.1 ≤ q) s.heap s.heap [] := va_S.rf
  have J23 : ∀ (w : mW) (s0 : Int32) (H : Heap) (locs : List Loc) (ls : Array Slot), e_X4_lastRunOf_23 w s0 = some (r, w') → mP G w H → va_S (fun q => G.1 ≤ q) s.heap H locs → lv_has ls 2 [] → W p l e ({ frames := 0, cells := 0, slots := 0, locals := 0 } : Room) s m ([.ref (h), .int (p0)] : List Value).toArray below meth c H locs 0 0 (MQ below (m_Qi G r w') ([.ref (h), .int (p0)] : List Value).toArray s 0 0 (fun q => G.1 ≤ q)) (F0 m 23 ls [.int (s0)]) := by
    intro w s0 H locs ls hd hP hS hl
    obtain ⟨e1, e2⟩ := m_s_e hd
    refine W.widen (k := 0) (n := 0) (Nat.le_of_ble_eq_true rfl) (Nat.le_of_ble_eq_true rfl) ?_
    exact W.iret hx hb hr (fun t ht hW => ⟨⟨_, w, rfl, ⟨e1, e2⟩, by show mP _ _ t.heap; rw [ht]; exact hP⟩, hS.F ht⟩) hS.2.2 dX4_lastRunOf_23
  have J22 : ∀ (w : mW) (H : Heap) (locs : List Loc) (ls : Array Slot), e_X4_lastRunOf_22 w = some (r, w') → mP G w H → va_S (fun q => G.1 ≤ q) s.heap H locs → lv_has ls 2 [] → W p l e ({ frames := 0, cells := 0, slots := 0, locals := 0 } : Room) s m ([.ref (h), .int (p0)] : List Value).toArray below meth c H locs 0 0 (MQ below (m_Qi G r w') ([.ref (h), .int (p0)] : List Value).toArray s 0 0 (fun q => G.1 ≤ q)) (F0 m 22 ls []) := by
    intro w H locs ls hd hP hS hl
    refine lv_iconst (v := 0) hx hb dX4_lastRunOf_22 (by decide) ?_
    refine W.widen (k := 0) (n := 0) (Nat.le_of_ble_eq_true rfl) (Nat.le_of_ble_eq_true rfl) ?_
    exact J23 w 0 _ _ _ hd hP hS (lv_sub hl [] rfl)
  have hl := lv_entry ([.ref (h), .int (p0)]) (n := 2) (Nat.le_of_ble_eq_true rfl)
  rw [lg_entry_eq]
  generalize (lg_sl ([.ref (h), .int (p0)]) ++ List.replicate (2 - (lg_sl ([.ref (h), .int (p0)])).length) Slot.unset).toArray = ls at hl ⊢
  have hl : lv_has ls 2 [(0, .ref (h)), (1, .int (p0))] := hl
  refine lv_iload_n hx hb dX4_lastRunOf_0 rfl (lv_at hl 1 rfl) ?_
  refine lv_if_lt (tgt := 22) hx hb dX4_lastRunOf_1 (by decide) (fun c1 => ?_) (fun c1 => ?_)
  · have hd := m_i_t c1 hd
    refine W.widen (k := 0) (n := 0) (Nat.le_of_ble_eq_true rfl) (Nat.le_of_ble_eq_true rfl) ?_
    exact J22 w _ _ _ hd hP hS (lv_sub hl [] rfl)
  · have hd := m_i_f c1 hd
    refine lv_iload_n hx hb dX4_lastRunOf_4 rfl (lv_at hl 1 rfl) ?_
    refine lv_aload_n hx hb dX4_lastRunOf_5 rfl (lv_at hl 0 rfl) ?_
    obtain ⟨hk2, hd⟩ := m_g_e hd
    obtain ⟨r3, hr3, hd⟩ := m_o_e hd
    refine m_getR (C := RX4) (T := TX4) (N := 2) (own := RX4) (ref := RX4) hx hb hts hin7 hown hM.1 hP 7 rfl 1 (r := r3) ⟨hk2, hr3⟩ (by decide) (hts (.fieldLink RX4 18 "CellNotebook$Session" "lastRuns" "[I") (by decide +kernel)) (fun _ h9 => h9) dX4_lastRunOf_6 ?_
    obtain ⟨hg4, hd⟩ := m_g_e hd
    refine m_alen hx hb hM.1 hP hg4 dX4_lastRunOf_9 ?_
    refine lv_icmp_ge (tgt := 22) hx hb dX4_lastRunOf_10 (by decide) (fun c5 => ?_) (fun c5 => ?_)
    · have hd := m_i_t c5 hd
      refine W.widen (k := 0) (n := 0) (Nat.le_of_ble_eq_true rfl) (Nat.le_of_ble_eq_true rfl) ?_
      exact J22 w _ _ _ hd hP hS (lv_sub hl [] rfl)
    · have hd := m_i_f c5 hd
      refine lv_aload_n hx hb dX4_lastRunOf_13 rfl (lv_at hl 0 rfl) ?_
      obtain ⟨r6, hr6, hd⟩ := m_o_e hd
      refine m_getR (C := RX4) (T := TX4) (N := 2) (own := RX4) (ref := RX4) hx hb hts hin7 hown hM.1 hP 7 rfl 1 (r := r6) ⟨hk2, hr6⟩ (by decide) (hts (.fieldLink RX4 18 "CellNotebook$Session" "lastRuns" "[I") (by decide +kernel)) (fun _ h9 => h9) dX4_lastRunOf_14 ?_
      refine lv_iload_n hx hb dX4_lastRunOf_17 rfl (lv_at hl 1 rfl) ?_
      obtain ⟨hg7, hd⟩ := m_g_e hd
      refine m_iald hx hb hM.1 hP hg7 dX4_lastRunOf_18 ?_
      refine lv_goto (tgt := 23) hx hb dX4_lastRunOf_19 (by decide) ?_
      refine W.widen (k := 0) (n := 0) (Nat.le_of_ble_eq_true rfl) (Nat.le_of_ble_eq_true rfl) ?_
      exact J23 w (m_ia w r6 p0.toNatClampNeg) _ _ _ hd hP hS (lv_sub hl [] rfl)


noncomputable def e_X4_setLastRun_20 (w : mW)  : Option (Unit × mW) := some ((), w)
noncomputable def e_X4_setLastRun (w : mW) (h : Nat) (p0 : Int32) (p1 : Int32) : Option (Unit × mW) := if p0 < (0 : Int32) then (e_X4_setLastRun_20 w) else (m_g (m_kd w h = 8) <| m_o (m_fr w 7 1 h) fun r3 => m_g (21 ≤ m_kd w r3 ∧ m_kd w r3 ≤ 25) <| if (nI (m_ln w r3)) ≤ p0 then (e_X4_setLastRun_20 w) else (m_o (m_fr w 7 1 h) fun r6 => m_g (m_kd w r6 = 21 ∧ ¬ (p0 < 0 ∨ m_ln w r6 ≤ p0.toNatClampNeg)) <| m_l (m_sA w r6 (p0.toNatClampNeg) p1) fun w8 => e_X4_setLastRun_20 w8))
set_option maxHeartbeats 1000000 in
set_option maxRecDepth 100000 in
theorem c_X4_setLastRun (l : Launch) (G : m_G) (w w' : mW) (h : Nat) (p0 : Int32) (p1 : Int32) (r : Unit) (hd : e_X4_setLastRun w h p0 p1 = some (r, w')) : Met l yX4_setLastRun wsX4_setLastRun ({ frames := 0, cells := 0, slots := 0, locals := 0 } : Room) (m_Pc G w [.ref (h), .int (p0), .int (p1)]) (m_Qv G r w') 0 0 (fun q => G.1 ≤ q) := by
  refine Met.ofW (cc := cX4_setLastRun) (maxL := 3) (ret := none) (by decide +kernel) rfl ?_
  intro p e s m args below meth c s₁ B hml hv
  obtain ⟨rfl, hM, hP⟩ := hv
  have hx := B.exec
  have hb := B.bytes
  have hr := B.returns
  have hts := atoms_spec (ws := wsX4_setLastRun) B.pre
  have hown : s.vm.findClass RX4 = some m.cls := findClass_of_methodNamed B.named
  have hlocks := B.notSynchronized
  have hin7 : ∀ w ∈ u_ws RX4 TX4 2, w ∈ wsX4_setLastRun := by decide +kernel
  have hS : va_S (fun q => G.1 ≤ q) s.heap s.heap [] := va_S.rf
  have J20 : ∀ (w : mW) (H : Heap) (locs : List Loc) (ls : Array Slot), e_X4_setLastRun_20 w = some (r, w') → mP G w H → va_S (fun q => G.1 ≤ q) s.heap H locs → lv_has ls 3 [] → W p l e ({ frames := 0, cells := 0, slots := 0, locals := 0 } : Room) s m ([.ref (h), .int (p0), .int (p1)] : List Value).toArray below meth c H locs 0 0 (MQ below (m_Qv G r w') ([.ref (h), .int (p0), .int (p1)] : List Value).toArray s 0 0 (fun q => G.1 ≤ q)) (F0 m 20 ls []) := by
    intro w H locs ls hd hP hS hl
    obtain ⟨e1, e2⟩ := m_s_e hd
    refine W.widen (k := 0) (n := 0) (Nat.le_of_ble_eq_true rfl) (Nat.le_of_ble_eq_true rfl) ?_
    exact W.vret hx hb hr (fun t ht hW => ⟨⟨w, rfl, e2, by show mP _ _ t.heap; rw [ht]; exact hP⟩, hS.F ht⟩) hS.2.2 dX4_setLastRun_20
  have hl := lv_entry ([.ref (h), .int (p0), .int (p1)]) (n := 3) (Nat.le_of_ble_eq_true rfl)
  rw [lg_entry_eq]
  generalize (lg_sl ([.ref (h), .int (p0), .int (p1)]) ++ List.replicate (3 - (lg_sl ([.ref (h), .int (p0), .int (p1)])).length) Slot.unset).toArray = ls at hl ⊢
  have hl : lv_has ls 3 [(0, .ref (h)), (1, .int (p0)), (2, .int (p1))] := hl
  refine lv_iload_n hx hb dX4_setLastRun_0 rfl (lv_at hl 1 rfl) ?_
  refine lv_if_lt (tgt := 20) hx hb dX4_setLastRun_1 (by decide) (fun c1 => ?_) (fun c1 => ?_)
  · have hd := m_i_t c1 hd
    refine W.widen (k := 0) (n := 0) (Nat.le_of_ble_eq_true rfl) (Nat.le_of_ble_eq_true rfl) ?_
    exact J20 w _ _ _ hd hP hS (lv_sub hl [] rfl)
  · have hd := m_i_f c1 hd
    refine lv_iload_n hx hb dX4_setLastRun_4 rfl (lv_at hl 1 rfl) ?_
    refine lv_aload_n hx hb dX4_setLastRun_5 rfl (lv_at hl 0 rfl) ?_
    obtain ⟨hk2, hd⟩ := m_g_e hd
    obtain ⟨r3, hr3, hd⟩ := m_o_e hd
    refine m_getR (C := RX4) (T := TX4) (N := 2) (own := RX4) (ref := RX4) hx hb hts hin7 hown hM.1 hP 7 rfl 1 (r := r3) ⟨hk2, hr3⟩ (by decide) (hts (.fieldLink RX4 18 "CellNotebook$Session" "lastRuns" "[I") (by decide +kernel)) (fun _ h9 => h9) dX4_setLastRun_6 ?_
    obtain ⟨hg4, hd⟩ := m_g_e hd
    refine m_alen hx hb hM.1 hP hg4 dX4_setLastRun_9 ?_
    refine lv_icmp_ge (tgt := 20) hx hb dX4_setLastRun_10 (by decide) (fun c5 => ?_) (fun c5 => ?_)
    · have hd := m_i_t c5 hd
      refine W.widen (k := 0) (n := 0) (Nat.le_of_ble_eq_true rfl) (Nat.le_of_ble_eq_true rfl) ?_
      exact J20 w _ _ _ hd hP hS (lv_sub hl [] rfl)
    · have hd := m_i_f c5 hd
      refine lv_aload_n hx hb dX4_setLastRun_13 rfl (lv_at hl 0 rfl) ?_
      obtain ⟨r6, hr6, hd⟩ := m_o_e hd
      refine m_getR (C := RX4) (T := TX4) (N := 2) (own := RX4) (ref := RX4) hx hb hts hin7 hown hM.1 hP 7 rfl 1 (r := r6) ⟨hk2, hr6⟩ (by decide) (hts (.fieldLink RX4 18 "CellNotebook$Session" "lastRuns" "[I") (by decide +kernel)) (fun _ h9 => h9) dX4_setLastRun_14 ?_
      refine lv_iload_n hx hb dX4_setLastRun_17 rfl (lv_at hl 1 rfl) ?_
      refine lv_iload_n hx hb dX4_setLastRun_18 rfl (lv_at hl 2 rfl) ?_
      obtain ⟨hg7, hd⟩ := m_g_e hd
      refine m_iast hx hb hM.1 hP hS hg7 dX4_setLastRun_19 (fun H locs hP hS => ?_)
      obtain ⟨w8, ew, hd⟩ := m_l_e hd
      have hP : mP G w8 H := by rw [ew]; exact hP
      have hk2 : m_kd w8 h = 8 := by rw [ew]; exact hk2
      refine W.widen (k := 0) (n := 0) (Nat.le_of_ble_eq_true rfl) (Nat.le_of_ble_eq_true rfl) ?_
      exact J20 w8 _ _ _ hd hP hS (lv_sub hl [] rfl)


noncomputable def e_X4_becomeLike_13_b (k13 : mW → Nat → Nat → Int32 → Option (Unit × mW)) (w : mW) (x0 : Nat) (x1 : Nat) (x2 : Int32) : Option (Unit × mW) := if 16 ≤ x2 then (some ((), w)) else (m_g (m_kd w x1 = 8) <| m_b (e_X4_lastRunOf w x1 x2) fun r111 w112 => m_g (m_kd w112 x0 = 8) <| m_b (e_X4_setLastRun w112 x0 x2 r111) fun r115 w116 => k13 w116 x0 x1 (x2 + 1))
noncomputable def e_X4_becomeLike_13 (n : Nat) : mW → Nat → Nat → Int32 → Option (Unit × mW) := Nat.rec (motive := fun _ => mW → Nat → Nat → Int32 → Option (Unit × mW)) (fun _ _ _ _ => none) (fun _ k => e_X4_becomeLike_13_b  k) n
noncomputable def e_X4_becomeLike (w : mW) (h : Nat) (p0 : Nat) : Option (Unit × mW) := m_g (m_kd w h = 8) <| m_o (m_fr w 7 0 h) fun r2 => m_g (m_kd w p0 = 8) <| m_o (m_fr w 7 0 p0) fun r4 => m_g (m_kd w r2 = 6) <| m_b (e_X2_becomeLike w r2 r4) fun r6 w7 => e_X4_becomeLike_13 m_N w7 h p0 0
set_option maxHeartbeats 1000000 in
set_option maxRecDepth 100000 in
theorem c_X4_becomeLike (l : Launch) (G : m_G) (w w' : mW) (h : Nat) (p0 : Nat) (r : Unit) (hd : e_X4_becomeLike w h p0 = some (r, w')) : Met l yX4_becomeLike wsX4_becomeLike ({ frames := 3, cells := 0, slots := 0, locals := 65 } : Room) (m_Pc G w [.ref (h), .ref (p0)]) (m_Qv G r w') 0 0 (fun q => G.1 ≤ q) := by
  refine Met.ofW (cc := cX4_becomeLike) (maxL := 3) (ret := none) (by decide +kernel) rfl ?_
  intro p e s m args below meth c s₁ B hml hv
  obtain ⟨rfl, hM, hP⟩ := hv
  have hx := B.exec
  have hb := B.bytes
  have hr := B.returns
  have hts := atoms_spec (ws := wsX4_becomeLike) B.pre
  have hown : s.vm.findClass RX4 = some m.cls := findClass_of_methodNamed B.named
  have hlocks := B.notSynchronized
  have hin7 : ∀ w ∈ u_ws RX4 TX4 2, w ∈ wsX4_becomeLike := by decide +kernel
  have hS : va_S (fun q => G.1 ≤ q) s.heap s.heap [] := va_S.rf
  have J13 : ∀ (n13 : Nat) (w : mW) (x0 : Nat) (x1 : Nat) (x2 : Int32) (H : Heap) (locs : List Loc) (ls : Array Slot), e_X4_becomeLike_13 n13 w x0 x1 x2 = some (r, w') → mP G w H → va_S (fun q => G.1 ≤ q) s.heap H locs → lv_has ls 3 [(0, .ref (x0)), (1, .ref (x1)), (2, .int (x2))] → W p l e ({ frames := 3, cells := 0, slots := 0, locals := 65 } : Room) s m ([.ref (h), .ref (p0)] : List Value).toArray below meth c H locs 0 0 (MQ below (m_Qv G r w') ([.ref (h), .ref (p0)] : List Value).toArray s 0 0 (fun q => G.1 ≤ q)) (F0 m 13 ls []) := by
    intro n13
    induction n13 with
    | zero => intro w x0 x1 x2 H locs ls hd; exact absurd (show (none : Option (Unit × mW)) = some _ from hd) (fun h => nomatch h)
    | succ n13 ih13 =>
      intro w x0 x1 x2 H locs ls hd hP hS hl
      have hd : e_X4_becomeLike_13_b (e_X4_becomeLike_13 n13) w x0 x1 x2 = some (r, w') := hd
      refine lv_iload_n hx hb dX4_becomeLike_13 rfl (lv_at hl 2 rfl) ?_
      refine lv_bipush (v := 16) hx hb dX4_becomeLike_14 (by decide) ?_
      refine lv_icmp_ge (tgt := 35) hx hb dX4_becomeLike_16 (by decide) (fun c109 => ?_) (fun c109 => ?_)
      · have hd := m_i_t c109 hd
        obtain ⟨e1, e2⟩ := m_s_e hd
        refine W.widen (k := 0) (n := 0) (Nat.le_of_ble_eq_true rfl) (Nat.le_of_ble_eq_true rfl) ?_
        exact W.vret hx hb hr (fun t ht hW => ⟨⟨w, rfl, e2, by show mP _ _ t.heap; rw [ht]; exact hP⟩, hS.F ht⟩) hS.2.2 dX4_becomeLike_35
      · have hd := m_i_f c109 hd
        refine lv_aload_n hx hb dX4_becomeLike_19 rfl (lv_at hl 0 rfl) ?_
        refine lv_iload_n hx hb dX4_becomeLike_20 rfl (lv_at hl 2 rfl) ?_
        refine lv_aload_n hx hb dX4_becomeLike_21 rfl (lv_at hl 1 rfl) ?_
        refine lv_iload_n hx hb dX4_becomeLike_22 rfl (lv_at hl 2 rfl) ?_
        obtain ⟨hk110, hd⟩ := m_g_e hd
        obtain ⟨r111, w112, hc113, hd⟩ := m_b_e hd
        refine m_calli (k := 0) (n := 0) (va_runV (As := [.int (x2)]) (rest := [.int (x2), .ref (x0)]) ⟨hx, hb, hml, hown, hts⟩ (c_X4_lastRunOf l G w w112 x1 x2 r111 hc113) (cwV 1 hts gX4_becomeLike_X4_lastRunOf rfl rfl rfl (by decide +kernel) ⟨(Nat.le_of_ble_eq_true rfl), (Nat.le_of_ble_eq_true rfl)⟩) (m_preV (C := RX4) (T := TX4) (N := 2) hM hP hS rfl (by decide) hk110) rfl rfl hl.1 rfl (lv_room (Nat.le_of_ble_eq_true rfl)) dX4_becomeLike_23 ⟨(Nat.le_of_ble_eq_true rfl), (Nat.le_of_ble_eq_true rfl)⟩) hS ⟨(Nat.le_of_ble_eq_true rfl), (Nat.le_of_ble_eq_true rfl)⟩ (fun H locs hP hS => ?_)
        obtain ⟨hk114, hd⟩ := m_g_e hd
        obtain ⟨r115, w116, hc117, hd⟩ := m_b_e hd
        refine m_callv (k := 0) (n := 0) (va_runV (As := [.int (x2), .int (r111)]) (rest := []) ⟨hx, hb, hml, hown, hts⟩ (c_X4_setLastRun l G w112 w116 x0 x2 r111 r115 hc117) (cwV 2 hts gX4_becomeLike_X4_setLastRun rfl rfl rfl (by decide +kernel) ⟨(Nat.le_of_ble_eq_true rfl), (Nat.le_of_ble_eq_true rfl)⟩) (m_preV (C := RX4) (T := TX4) (N := 2) hM hP hS rfl (by decide) hk114) rfl rfl hl.1 rfl (lv_room (Nat.le_of_ble_eq_true rfl)) dX4_becomeLike_26 ⟨(Nat.le_of_ble_eq_true rfl), (Nat.le_of_ble_eq_true rfl)⟩) hS ⟨(Nat.le_of_ble_eq_true rfl), (Nat.le_of_ble_eq_true rfl)⟩ (fun H locs hP hS => ?_)
        refine lv_iinc (v := x2 + 1) (lv' := [(2, .int (x2 + 1)), (0, .ref (x0)), (1, .ref (x1))]) hx hb dX4_becomeLike_29 hl (k := 2) rfl rfl (by decide) rfl (fun ls hl => ?_)
        refine lv_goto (tgt := 13) hx hb dX4_becomeLike_32 (by decide) ?_
        refine W.widen (k := 0) (n := 0) (Nat.le_of_ble_eq_true rfl) (Nat.le_of_ble_eq_true rfl) ?_
        exact ih13 w116 x0 x1 (x2 + 1) _ _ _ hd hP hS (lv_sub hl [1, 2, 0] rfl)
  have hl := lv_entry ([.ref (h), .ref (p0)]) (n := 3) (Nat.le_of_ble_eq_true rfl)
  rw [lg_entry_eq]
  generalize (lg_sl ([.ref (h), .ref (p0)]) ++ List.replicate (3 - (lg_sl ([.ref (h), .ref (p0)])).length) Slot.unset).toArray = ls at hl ⊢
  have hl : lv_has ls 3 [(0, .ref (h)), (1, .ref (p0))] := hl
  refine lv_aload_n hx hb dX4_becomeLike_0 rfl (lv_at hl 0 rfl) ?_
  obtain ⟨hk1, hd⟩ := m_g_e hd
  obtain ⟨r2, hr2, hd⟩ := m_o_e hd
  refine m_getR (C := RX4) (T := TX4) (N := 2) (own := RX4) (ref := RX4) hx hb hts hin7 hown hM.1 hP 7 rfl 0 (r := r2) ⟨hk1, hr2⟩ (by decide) (hts (.fieldLink RX4 12 "CellNotebook$Session" "names" "LCellNotebook$Names;") (by decide +kernel)) (fun _ h9 => h9) dX4_becomeLike_1 ?_
  refine lv_aload_n hx hb dX4_becomeLike_4 rfl (lv_at hl 1 rfl) ?_
  obtain ⟨hk3, hd⟩ := m_g_e hd
  obtain ⟨r4, hr4, hd⟩ := m_o_e hd
  refine m_getR (C := RX4) (T := TX4) (N := 2) (own := RX4) (ref := RX4) hx hb hts hin7 hown hM.1 hP 7 rfl 0 (r := r4) ⟨hk3, hr4⟩ (by decide) (hts (.fieldLink RX4 12 "CellNotebook$Session" "names" "LCellNotebook$Names;") (by decide +kernel)) (fun _ h9 => h9) dX4_becomeLike_5 ?_
  obtain ⟨hk5, hd⟩ := m_g_e hd
  obtain ⟨r6, w7, hc8, hd⟩ := m_b_e hd
  refine m_callv (k := 0) (n := 0) (va_runV (As := [.ref (r4)]) (rest := []) ⟨hx, hb, hml, hown, hts⟩ (c_X2_becomeLike l G w w7 r2 r4 r6 hc8) (cwV 1 hts gX4_becomeLike_X2_becomeLike rfl rfl rfl (by decide +kernel) ⟨(Nat.le_of_ble_eq_true rfl), (Nat.le_of_ble_eq_true rfl)⟩) (m_preV (C := RX2) (T := TX2) (N := 2) hM hP hS rfl (by decide) hk5) rfl rfl hl.1 rfl (lv_room (Nat.le_of_ble_eq_true rfl)) dX4_becomeLike_8 ⟨(Nat.le_of_ble_eq_true rfl), (Nat.le_of_ble_eq_true rfl)⟩) hS ⟨(Nat.le_of_ble_eq_true rfl), (Nat.le_of_ble_eq_true rfl)⟩ (fun H locs hP hS => ?_)
  refine lv_iconst (v := 0) hx hb dX4_becomeLike_11 (by decide) ?_
  refine lv_istore_n (lv' := [(2, .int (0)), (0, .ref (h)), (1, .ref (p0))]) hx hb dX4_becomeLike_12 rfl hl (by decide) rfl (fun ls hl => ?_)
  refine W.widen (k := 0) (n := 0) (Nat.le_of_ble_eq_true rfl) (Nat.le_of_ble_eq_true rfl) ?_
  exact J13 m_N w7 h p0 0 _ _ _ hd hP hS (lv_sub hl [1, 2, 0] rfl)


noncomputable def e_X5_init (w : mW) (h : Nat) (p0 : Int32) (p1 : Int32) (p2 : Int32) (p3 : Int32) : Option (Unit × mW) := m_g (m_kd w h = 9) <| m_l (m_sI w 8 0 h p0) fun w2 => m_l (m_sI w2 8 1 h p1) fun w3 => m_l (m_sI w3 8 2 h p2) fun w4 => m_l (m_sI w4 8 3 h p3) fun w5 => some ((), w5)
set_option maxHeartbeats 1000000 in
set_option maxRecDepth 100000 in
theorem c_X5_init (l : Launch) (G : m_G) (w w' : mW) (h : Nat) (p0 : Int32) (p1 : Int32) (p2 : Int32) (p3 : Int32) (r : Unit) (hd : e_X5_init w h p0 p1 p2 p3 = some (r, w')) : Met l yX5_init wsX5_init ({ frames := 1, cells := 0, slots := 0, locals := 24 } : Room) (m_Pc G w [.ref (h), .int (p0), .int (p1), .int (p2), .int (p3)]) (m_Qv G r w') 0 0 (fun q => G.1 ≤ q) := by
  refine Met.ofW (cc := cX5_init) (maxL := 5) (ret := none) (by decide +kernel) rfl ?_
  intro p e s m args below meth c s₁ B hml hv
  obtain ⟨rfl, hM, hP⟩ := hv
  have hx := B.exec
  have hb := B.bytes
  have hr := B.returns
  have hts := atoms_spec (ws := wsX5_init) B.pre
  have hown : s.vm.findClass RX5 = some m.cls := findClass_of_methodNamed B.named
  have hlocks := B.notSynchronized
  have hin : meth.name = "<init>" := (name_of_methodNamed B.named B.method).1
  have hin8 : ∀ w ∈ u_ws RX5 TX5 4, w ∈ wsX5_init := by decide +kernel
  have hS : va_S (fun q => G.1 ≤ q) s.heap s.heap [] := va_S.rf
  have hl := lv_entry ([.ref (h), .int (p0), .int (p1), .int (p2), .int (p3)]) (n := 5) (Nat.le_of_ble_eq_true rfl)
  rw [lg_entry_eq]
  generalize (lg_sl ([.ref (h), .int (p0), .int (p1), .int (p2), .int (p3)]) ++ List.replicate (5 - (lg_sl ([.ref (h), .int (p0), .int (p1), .int (p2), .int (p3)])).length) Slot.unset).toArray = ls at hl ⊢
  have hl : lv_has ls 5 [(0, .ref (h)), (1, .int (p0)), (2, .int (p1)), (3, .int (p2)), (4, .int (p3))] := hl
  refine lv_aload_n hx hb dX5_init_0 rfl (lv_at hl 0 rfl) ?_
  refine W.objInit hx hb hown (hts (.methodLink RX5 3 objectInit) (by decide +kernel)) (hts (.instanceMethod objectInit) (by decide +kernel)) (hts (.code objectInit ⟨#[0xb1]⟩ 1 none) (by decide +kernel)) rfl (by rw [hml]; exact hl.1) rfl dX5_init_1 (Nat.le_of_ble_eq_true rfl) (Nat.le_of_ble_eq_true rfl) ?_
  refine W.eq (g2 := F0 m 4 ls []) rfl ?_
  refine lv_aload_n hx hb dX5_init_4 rfl (lv_at hl 0 rfl) ?_
  refine lv_iload_n hx hb dX5_init_5 rfl (lv_at hl 1 rfl) ?_
  obtain ⟨hk1, hd⟩ := m_g_e hd
  refine m_putI (C := RX5) (T := TX5) (N := 4) (own := RX5) (ref := RX5) hx hb hts hin8 tyX5 tyX5_ok nmX5 hown hM.1 hP hS 8 rfl 0 hk1 (by decide) (hts (.fieldLink RX5 9 "CellNotebook$Statement" "name" "I") (by decide +kernel)) (fun _ h9 => h9) (Or.inr ⟨rfl, hin, rfl⟩) (ty := .int) rfl ⟨rfl, rfl⟩ dX5_init_6 (fun H locs hP hS => ?_)
  obtain ⟨w2, ew, hd⟩ := m_l_e hd
  have hP : mP G w2 H := by rw [ew]; exact hP
  have hk1 : m_kd w2 h = 9 := by rw [ew]; exact hk1
  refine lv_aload_n hx hb dX5_init_9 rfl (lv_at hl 0 rfl) ?_
  refine lv_iload_n hx hb dX5_init_10 rfl (lv_at hl 2 rfl) ?_
  refine m_putI (C := RX5) (T := TX5) (N := 4) (own := RX5) (ref := RX5) hx hb hts hin8 tyX5 tyX5_ok nmX5 hown hM.1 hP hS 8 rfl 1 hk1 (by decide) (hts (.fieldLink RX5 15 "CellNotebook$Statement" "operation" "I") (by decide +kernel)) (fun _ h9 => h9) (Or.inr ⟨rfl, hin, rfl⟩) (ty := .int) rfl ⟨rfl, rfl⟩ dX5_init_11 (fun H locs hP hS => ?_)
  obtain ⟨w3, ew, hd⟩ := m_l_e hd
  have hP : mP G w3 H := by rw [ew]; exact hP
  have hk1 : m_kd w3 h = 9 := by rw [ew]; exact hk1
  refine lv_aload_n hx hb dX5_init_14 rfl (lv_at hl 0 rfl) ?_
  refine lv_iload_n hx hb dX5_init_15 rfl (lv_at hl 3 rfl) ?_
  refine m_putI (C := RX5) (T := TX5) (N := 4) (own := RX5) (ref := RX5) hx hb hts hin8 tyX5 tyX5_ok nmX5 hown hM.1 hP hS 8 rfl 2 hk1 (by decide) (hts (.fieldLink RX5 18 "CellNotebook$Statement" "left" "I") (by decide +kernel)) (fun _ h9 => h9) (Or.inr ⟨rfl, hin, rfl⟩) (ty := .int) rfl ⟨rfl, rfl⟩ dX5_init_16 (fun H locs hP hS => ?_)
  obtain ⟨w4, ew, hd⟩ := m_l_e hd
  have hP : mP G w4 H := by rw [ew]; exact hP
  have hk1 : m_kd w4 h = 9 := by rw [ew]; exact hk1
  refine lv_aload_n hx hb dX5_init_19 rfl (lv_at hl 0 rfl) ?_
  refine lv_iload hx hb dX5_init_20 (lv_at hl 4 rfl) ?_
  refine m_putI (C := RX5) (T := TX5) (N := 4) (own := RX5) (ref := RX5) hx hb hts hin8 tyX5 tyX5_ok nmX5 hown hM.1 hP hS 8 rfl 3 hk1 (by decide) (hts (.fieldLink RX5 21 "CellNotebook$Statement" "right" "I") (by decide +kernel)) (fun _ h9 => h9) (Or.inr ⟨rfl, hin, rfl⟩) (ty := .int) rfl ⟨rfl, rfl⟩ dX5_init_22 (fun H locs hP hS => ?_)
  obtain ⟨w5, ew, hd⟩ := m_l_e hd
  have hP : mP G w5 H := by rw [ew]; exact hP
  have hk1 : m_kd w5 h = 9 := by rw [ew]; exact hk1
  obtain ⟨e1, e2⟩ := m_s_e hd
  refine W.widen (k := 0) (n := 0) (Nat.le_of_ble_eq_true rfl) (Nat.le_of_ble_eq_true rfl) ?_
  exact W.vret hx hb hr (fun t ht hW => ⟨⟨w5, rfl, e2, by show mP _ _ t.heap; rw [ht]; exact hP⟩, hS.F ht⟩) hS.2.2 dX5_init_25


noncomputable def e_X6_init (t0 : Nat × Nat × Nat × Nat) (w : mW) (h : Nat) : Option (Unit × mW) := m_l (m_nO w 2) fun w1 => m_b (e_Jx4a65c_init_da8c8 t0 w1 (m_nx w)) fun r3 w4 => m_g (m_kd w4 h = 10) <| m_l (m_sR w4 9 0 h (some (m_nx w))) fun w7 => m_l (m_nO w7 2) fun w8 => m_b (e_Jx4a65c_init_da8c8 t0 w8 (m_nx w7)) fun r10 w11 => m_g (m_kd w11 h = 10) <| m_l (m_sR w11 9 1 h (some (m_nx w7))) fun w14 => m_l (m_nO w14 2) fun w15 => m_b (e_Jx4a65c_init_da8c8 t0 w15 (m_nx w14)) fun r17 w18 => m_g (m_kd w18 h = 10) <| m_l (m_sR w18 9 2 h (some (m_nx w14))) fun w21 => m_l (m_nO w21 2) fun w22 => m_b (e_Jx4a65c_init_da8c8 t0 w22 (m_nx w21)) fun r24 w25 => m_g (m_kd w25 h = 10) <| m_l (m_sR w25 9 3 h (some (m_nx w21))) fun w28 => m_l (m_nO w28 2) fun w29 => m_b (e_Jx4a65c_init_da8c8 t0 w29 (m_nx w28)) fun r31 w32 => m_g (m_kd w32 h = 10) <| m_l (m_sR w32 9 4 h (some (m_nx w28))) fun w35 => m_l (m_nO w35 7) fun w36 => m_b (e_X4_init w36 (m_nx w35)) fun r38 w39 => m_g (m_kd w39 h = 10) <| m_l (m_sR w39 9 5 h (some (m_nx w35))) fun w42 => m_l (m_nO w42 5) fun w43 => m_b (e_X2_init w43 (m_nx w42)) fun r45 w46 => m_g (m_kd w46 h = 10) <| m_l (m_sR w46 9 6 h (some (m_nx w42))) fun w49 => m_l (m_nO w49 3) fun w50 => m_b (e_X0_init w50 (m_nx w49)) fun r52 w53 => m_g (m_kd w53 h = 10) <| m_l (m_sR w53 9 7 h (some (m_nx w49))) fun w56 => some ((), w56)
set_option maxHeartbeats 1000000 in
set_option maxRecDepth 100000 in
theorem c_X6_init (l : Launch) (G : m_G) (w w' : mW) (h : Nat) (r : Unit) (hd : e_X6_init G.2.2.2 w h = some (r, w')) : Met l yX6_init wsX6_init ({ frames := 4, cells := 18, slots := 102, locals := 84 } : Room) (m_Pc G w [.ref (h)]) (m_Qv G r w') 18 102 (fun q => G.1 ≤ q) := by
  refine Met.ofW (cc := cX6_init) (maxL := 1) (ret := none) (by decide +kernel) rfl ?_
  intro p e s m args below meth c s₁ B hml hv
  obtain ⟨rfl, hM, hP⟩ := hv
  have hx := B.exec
  have hb := B.bytes
  have hr := B.returns
  have hts := atoms_spec (ws := wsX6_init) B.pre
  have hown : s.vm.findClass RX6 = some m.cls := findClass_of_methodNamed B.named
  have hlocks := B.notSynchronized
  have hin : meth.name = "<init>" := (name_of_methodNamed B.named B.method).1
  have hin2 : ∀ w ∈ u_ws RJx4a65c TJx4a65c 3, w ∈ wsX6_init := by decide +kernel
  have hin3 : ∀ w ∈ u_ws RX0 TX0 7, w ∈ wsX6_init := by decide +kernel
  have hin5 : ∀ w ∈ u_ws RX2 TX2 2, w ∈ wsX6_init := by decide +kernel
  have hin7 : ∀ w ∈ u_ws RX4 TX4 2, w ∈ wsX6_init := by decide +kernel
  have hin9 : ∀ w ∈ u_ws RX6 TX6 8, w ∈ wsX6_init := by decide +kernel
  have hS : va_S (fun q => G.1 ≤ q) s.heap s.heap [] := va_S.rf
  have hl := lv_entry ([.ref (h)]) (n := 1) (Nat.le_of_ble_eq_true rfl)
  rw [lg_entry_eq]
  generalize (lg_sl ([.ref (h)]) ++ List.replicate (1 - (lg_sl ([.ref (h)])).length) Slot.unset).toArray = ls at hl ⊢
  have hl : lv_has ls 1 [(0, .ref (h))] := hl
  refine lv_aload_n hx hb dX6_init_0 rfl (lv_at hl 0 rfl) ?_
  refine W.objInit hx hb hown (hts (.methodLink RX6 1 objectInit) (by decide +kernel)) (hts (.instanceMethod objectInit) (by decide +kernel)) (hts (.code objectInit ⟨#[0xb1]⟩ 1 none) (by decide +kernel)) rfl (by rw [hml]; exact hl.1) rfl dX6_init_1 (Nat.le_of_ble_eq_true rfl) (Nat.le_of_ble_eq_true rfl) ?_
  refine W.eq (g2 := F0 m 4 ls []) rfl ?_
  refine lv_aload_n hx hb dX6_init_4 rfl (lv_at hl 0 rfl) ?_
  refine m_new (C := RJx4a65c) (T := TJx4a65c) (N := 3) (own := RX6) hx hb hts hin2 tyJx4a65c tyJx4a65c_ok hown (hts (.classLink RX6 7 RJx4a65c) (by decide +kernel)) (hts (.instantiable RJx4a65c 3) (by decide +kernel)) (hts (.initialized RJx4a65c) (by decide +kernel)) hM.1 hP hS 2 rfl ⟨by decide, by decide, m_dfJx4a65c⟩ (Nat.le_of_ble_eq_true rfl) (Nat.le_of_ble_eq_true rfl) dX6_init_5 (fun H hP hS => ?_)
  obtain ⟨w1, ew, hd⟩ := m_l_e hd
  have hP : mP G w1 H := by rw [ew]; exact hP
  have hk2 : m_kd w1 (m_nx w) = 3 := by rw [ew]; exact m_nO_new
  refine lv_dup hx hb dX6_init_8 rfl ?_
  obtain ⟨r3, w4, hc5, hd⟩ := m_b_e hd
  refine m_callv (k := 1) (n := 3) (va_runI (As := []) (rest := [.ref (m_nx w), .ref (h)]) ⟨hx, hb, hml, hown, hts⟩ (c_Jx4a65c_init_da8c8 l G w1 w4 (m_nx w) r3 hc5) (cwI 0 hts gX6_init_Jx4a65c_init_da8c8 rfl rfl rfl (hts (.initialized RJx4a65c) (by decide +kernel)) (hts (.methodLink RX6 9 yJx4a65c_init_da8c8) (by decide +kernel)) (hts (.instanceMethod yJx4a65c_init_da8c8) (by decide +kernel)) rfl (by decide +kernel) ⟨(Nat.le_of_ble_eq_true rfl), (Nat.le_of_ble_eq_true rfl)⟩) (m_preS hM hP hS) rfl rfl hl.1 rfl (lv_room (Nat.le_of_ble_eq_true rfl)) dX6_init_9 ⟨(Nat.le_of_ble_eq_true rfl), (Nat.le_of_ble_eq_true rfl)⟩) hS ⟨(Nat.le_of_ble_eq_true rfl), (Nat.le_of_ble_eq_true rfl)⟩ (fun H locs hP hS => ?_)
  obtain ⟨hk6, hd⟩ := m_g_e hd
  refine m_putR (C := RX6) (T := TX6) (N := 8) (own := RX6) (ref := RX6) hx hb hts hin9 tyX6 tyX6_ok nmX6 hown hM.1 hP hS 9 rfl 0 hk6 (by decide) (hts (.fieldLink RX6 10 "CellNotebook" "cells" "Ljava/util/ArrayList;") (by decide +kernel)) (fun _ h9 => h9) (Or.inr ⟨rfl, hin, rfl⟩) (ty := .object "java/util/ArrayList") (by decide +kernel) ⟨rfl, rfl⟩ dX6_init_12 (fun H locs hP hS => ?_)
  obtain ⟨w7, ew, hd⟩ := m_l_e hd
  have hP : mP G w7 H := by rw [ew]; exact hP
  have hk6 : m_kd w7 h = 10 := by rw [ew]; exact hk6
  refine lv_aload_n hx hb dX6_init_15 rfl (lv_at hl 0 rfl) ?_
  have hne0 : h ≠ m_nx w7 := m_ne hP hk6 (by decide)
  refine m_new (C := RJx4a65c) (T := TJx4a65c) (N := 3) (own := RX6) hx hb hts hin2 tyJx4a65c tyJx4a65c_ok hown (hts (.classLink RX6 7 RJx4a65c) (by decide +kernel)) (hts (.instantiable RJx4a65c 3) (by decide +kernel)) (hts (.initialized RJx4a65c) (by decide +kernel)) hM.1 hP hS 2 rfl ⟨by decide, by decide, m_dfJx4a65c⟩ (Nat.le_of_ble_eq_true rfl) (Nat.le_of_ble_eq_true rfl) dX6_init_16 (fun H hP hS => ?_)
  obtain ⟨w8, ew, hd⟩ := m_l_e hd
  have hP : mP G w8 H := by rw [ew]; exact hP
  have hk6 : m_kd w8 h = 10 := by rw [ew]; exact m_nO_old hk6 hne0
  have hk9 : m_kd w8 (m_nx w7) = 3 := by rw [ew]; exact m_nO_new
  refine lv_dup hx hb dX6_init_19 rfl ?_
  obtain ⟨r10, w11, hc12, hd⟩ := m_b_e hd
  refine m_callv (k := 2) (n := 6) (va_runI (As := []) (rest := [.ref (m_nx w7), .ref (h)]) ⟨hx, hb, hml, hown, hts⟩ (c_Jx4a65c_init_da8c8 l G w8 w11 (m_nx w7) r10 hc12) (cwI 0 hts gX6_init_Jx4a65c_init_da8c8 rfl rfl rfl (hts (.initialized RJx4a65c) (by decide +kernel)) (hts (.methodLink RX6 9 yJx4a65c_init_da8c8) (by decide +kernel)) (hts (.instanceMethod yJx4a65c_init_da8c8) (by decide +kernel)) rfl (by decide +kernel) ⟨(Nat.le_of_ble_eq_true rfl), (Nat.le_of_ble_eq_true rfl)⟩) (m_preS hM hP hS) rfl rfl hl.1 rfl (lv_room (Nat.le_of_ble_eq_true rfl)) dX6_init_20 ⟨(Nat.le_of_ble_eq_true rfl), (Nat.le_of_ble_eq_true rfl)⟩) hS ⟨(Nat.le_of_ble_eq_true rfl), (Nat.le_of_ble_eq_true rfl)⟩ (fun H locs hP hS => ?_)
  obtain ⟨hk13, hd⟩ := m_g_e hd
  refine m_putR (C := RX6) (T := TX6) (N := 8) (own := RX6) (ref := RX6) hx hb hts hin9 tyX6 tyX6_ok nmX6 hown hM.1 hP hS 9 rfl 1 hk13 (by decide) (hts (.fieldLink RX6 16 "CellNotebook" "order" "Ljava/util/ArrayList;") (by decide +kernel)) (fun _ h9 => h9) (Or.inr ⟨rfl, hin, rfl⟩) (ty := .object "java/util/ArrayList") (by decide +kernel) ⟨rfl, rfl⟩ dX6_init_23 (fun H locs hP hS => ?_)
  obtain ⟨w14, ew, hd⟩ := m_l_e hd
  have hP : mP G w14 H := by rw [ew]; exact hP
  have hk13 : m_kd w14 h = 10 := by rw [ew]; exact hk13
  refine lv_aload_n hx hb dX6_init_26 rfl (lv_at hl 0 rfl) ?_
  have hne0 : h ≠ m_nx w14 := m_ne hP hk13 (by decide)
  refine m_new (C := RJx4a65c) (T := TJx4a65c) (N := 3) (own := RX6) hx hb hts hin2 tyJx4a65c tyJx4a65c_ok hown (hts (.classLink RX6 7 RJx4a65c) (by decide +kernel)) (hts (.instantiable RJx4a65c 3) (by decide +kernel)) (hts (.initialized RJx4a65c) (by decide +kernel)) hM.1 hP hS 2 rfl ⟨by decide, by decide, m_dfJx4a65c⟩ (Nat.le_of_ble_eq_true rfl) (Nat.le_of_ble_eq_true rfl) dX6_init_27 (fun H hP hS => ?_)
  obtain ⟨w15, ew, hd⟩ := m_l_e hd
  have hP : mP G w15 H := by rw [ew]; exact hP
  have hk13 : m_kd w15 h = 10 := by rw [ew]; exact m_nO_old hk13 hne0
  have hk16 : m_kd w15 (m_nx w14) = 3 := by rw [ew]; exact m_nO_new
  refine lv_dup hx hb dX6_init_30 rfl ?_
  obtain ⟨r17, w18, hc19, hd⟩ := m_b_e hd
  refine m_callv (k := 3) (n := 9) (va_runI (As := []) (rest := [.ref (m_nx w14), .ref (h)]) ⟨hx, hb, hml, hown, hts⟩ (c_Jx4a65c_init_da8c8 l G w15 w18 (m_nx w14) r17 hc19) (cwI 0 hts gX6_init_Jx4a65c_init_da8c8 rfl rfl rfl (hts (.initialized RJx4a65c) (by decide +kernel)) (hts (.methodLink RX6 9 yJx4a65c_init_da8c8) (by decide +kernel)) (hts (.instanceMethod yJx4a65c_init_da8c8) (by decide +kernel)) rfl (by decide +kernel) ⟨(Nat.le_of_ble_eq_true rfl), (Nat.le_of_ble_eq_true rfl)⟩) (m_preS hM hP hS) rfl rfl hl.1 rfl (lv_room (Nat.le_of_ble_eq_true rfl)) dX6_init_31 ⟨(Nat.le_of_ble_eq_true rfl), (Nat.le_of_ble_eq_true rfl)⟩) hS ⟨(Nat.le_of_ble_eq_true rfl), (Nat.le_of_ble_eq_true rfl)⟩ (fun H locs hP hS => ?_)
  obtain ⟨hk20, hd⟩ := m_g_e hd
  refine m_putR (C := RX6) (T := TX6) (N := 8) (own := RX6) (ref := RX6) hx hb hts hin9 tyX6 tyX6_ok nmX6 hown hM.1 hP hS 9 rfl 2 hk20 (by decide) (hts (.fieldLink RX6 19 "CellNotebook" "allRuns" "Ljava/util/ArrayList;") (by decide +kernel)) (fun _ h9 => h9) (Or.inr ⟨rfl, hin, rfl⟩) (ty := .object "java/util/ArrayList") (by decide +kernel) ⟨rfl, rfl⟩ dX6_init_34 (fun H locs hP hS => ?_)
  obtain ⟨w21, ew, hd⟩ := m_l_e hd
  have hP : mP G w21 H := by rw [ew]; exact hP
  have hk20 : m_kd w21 h = 10 := by rw [ew]; exact hk20
  refine lv_aload_n hx hb dX6_init_37 rfl (lv_at hl 0 rfl) ?_
  have hne0 : h ≠ m_nx w21 := m_ne hP hk20 (by decide)
  refine m_new (C := RJx4a65c) (T := TJx4a65c) (N := 3) (own := RX6) hx hb hts hin2 tyJx4a65c tyJx4a65c_ok hown (hts (.classLink RX6 7 RJx4a65c) (by decide +kernel)) (hts (.instantiable RJx4a65c 3) (by decide +kernel)) (hts (.initialized RJx4a65c) (by decide +kernel)) hM.1 hP hS 2 rfl ⟨by decide, by decide, m_dfJx4a65c⟩ (Nat.le_of_ble_eq_true rfl) (Nat.le_of_ble_eq_true rfl) dX6_init_38 (fun H hP hS => ?_)
  obtain ⟨w22, ew, hd⟩ := m_l_e hd
  have hP : mP G w22 H := by rw [ew]; exact hP
  have hk20 : m_kd w22 h = 10 := by rw [ew]; exact m_nO_old hk20 hne0
  have hk23 : m_kd w22 (m_nx w21) = 3 := by rw [ew]; exact m_nO_new
  refine lv_dup hx hb dX6_init_41 rfl ?_
  obtain ⟨r24, w25, hc26, hd⟩ := m_b_e hd
  refine m_callv (k := 4) (n := 12) (va_runI (As := []) (rest := [.ref (m_nx w21), .ref (h)]) ⟨hx, hb, hml, hown, hts⟩ (c_Jx4a65c_init_da8c8 l G w22 w25 (m_nx w21) r24 hc26) (cwI 0 hts gX6_init_Jx4a65c_init_da8c8 rfl rfl rfl (hts (.initialized RJx4a65c) (by decide +kernel)) (hts (.methodLink RX6 9 yJx4a65c_init_da8c8) (by decide +kernel)) (hts (.instanceMethod yJx4a65c_init_da8c8) (by decide +kernel)) rfl (by decide +kernel) ⟨(Nat.le_of_ble_eq_true rfl), (Nat.le_of_ble_eq_true rfl)⟩) (m_preS hM hP hS) rfl rfl hl.1 rfl (lv_room (Nat.le_of_ble_eq_true rfl)) dX6_init_42 ⟨(Nat.le_of_ble_eq_true rfl), (Nat.le_of_ble_eq_true rfl)⟩) hS ⟨(Nat.le_of_ble_eq_true rfl), (Nat.le_of_ble_eq_true rfl)⟩ (fun H locs hP hS => ?_)
  obtain ⟨hk27, hd⟩ := m_g_e hd
  refine m_putR (C := RX6) (T := TX6) (N := 8) (own := RX6) (ref := RX6) hx hb hts hin9 tyX6 tyX6_ok nmX6 hown hM.1 hP hS 9 rfl 3 hk27 (by decide) (hts (.fieldLink RX6 22 "CellNotebook" "log" "Ljava/util/ArrayList;") (by decide +kernel)) (fun _ h9 => h9) (Or.inr ⟨rfl, hin, rfl⟩) (ty := .object "java/util/ArrayList") (by decide +kernel) ⟨rfl, rfl⟩ dX6_init_45 (fun H locs hP hS => ?_)
  obtain ⟨w28, ew, hd⟩ := m_l_e hd
  have hP : mP G w28 H := by rw [ew]; exact hP
  have hk27 : m_kd w28 h = 10 := by rw [ew]; exact hk27
  refine lv_aload_n hx hb dX6_init_48 rfl (lv_at hl 0 rfl) ?_
  have hne0 : h ≠ m_nx w28 := m_ne hP hk27 (by decide)
  refine m_new (C := RJx4a65c) (T := TJx4a65c) (N := 3) (own := RX6) hx hb hts hin2 tyJx4a65c tyJx4a65c_ok hown (hts (.classLink RX6 7 RJx4a65c) (by decide +kernel)) (hts (.instantiable RJx4a65c 3) (by decide +kernel)) (hts (.initialized RJx4a65c) (by decide +kernel)) hM.1 hP hS 2 rfl ⟨by decide, by decide, m_dfJx4a65c⟩ (Nat.le_of_ble_eq_true rfl) (Nat.le_of_ble_eq_true rfl) dX6_init_49 (fun H hP hS => ?_)
  obtain ⟨w29, ew, hd⟩ := m_l_e hd
  have hP : mP G w29 H := by rw [ew]; exact hP
  have hk27 : m_kd w29 h = 10 := by rw [ew]; exact m_nO_old hk27 hne0
  have hk30 : m_kd w29 (m_nx w28) = 3 := by rw [ew]; exact m_nO_new
  refine lv_dup hx hb dX6_init_52 rfl ?_
  obtain ⟨r31, w32, hc33, hd⟩ := m_b_e hd
  refine m_callv (k := 5) (n := 15) (va_runI (As := []) (rest := [.ref (m_nx w28), .ref (h)]) ⟨hx, hb, hml, hown, hts⟩ (c_Jx4a65c_init_da8c8 l G w29 w32 (m_nx w28) r31 hc33) (cwI 0 hts gX6_init_Jx4a65c_init_da8c8 rfl rfl rfl (hts (.initialized RJx4a65c) (by decide +kernel)) (hts (.methodLink RX6 9 yJx4a65c_init_da8c8) (by decide +kernel)) (hts (.instanceMethod yJx4a65c_init_da8c8) (by decide +kernel)) rfl (by decide +kernel) ⟨(Nat.le_of_ble_eq_true rfl), (Nat.le_of_ble_eq_true rfl)⟩) (m_preS hM hP hS) rfl rfl hl.1 rfl (lv_room (Nat.le_of_ble_eq_true rfl)) dX6_init_53 ⟨(Nat.le_of_ble_eq_true rfl), (Nat.le_of_ble_eq_true rfl)⟩) hS ⟨(Nat.le_of_ble_eq_true rfl), (Nat.le_of_ble_eq_true rfl)⟩ (fun H locs hP hS => ?_)
  obtain ⟨hk34, hd⟩ := m_g_e hd
  refine m_putR (C := RX6) (T := TX6) (N := 8) (own := RX6) (ref := RX6) hx hb hts hin9 tyX6 tyX6_ok nmX6 hown hM.1 hP hS 9 rfl 4 hk34 (by decide) (hts (.fieldLink RX6 25 "CellNotebook" "images" "Ljava/util/ArrayList;") (by decide +kernel)) (fun _ h9 => h9) (Or.inr ⟨rfl, hin, rfl⟩) (ty := .object "java/util/ArrayList") (by decide +kernel) ⟨rfl, rfl⟩ dX6_init_56 (fun H locs hP hS => ?_)
  obtain ⟨w35, ew, hd⟩ := m_l_e hd
  have hP : mP G w35 H := by rw [ew]; exact hP
  have hk34 : m_kd w35 h = 10 := by rw [ew]; exact hk34
  refine lv_aload_n hx hb dX6_init_59 rfl (lv_at hl 0 rfl) ?_
  have hne0 : h ≠ m_nx w35 := m_ne hP hk34 (by decide)
  refine m_new (C := RX4) (T := TX4) (N := 2) (own := RX6) hx hb hts hin7 tyX4 tyX4_ok hown (hts (.classLink RX6 28 RX4) (by decide +kernel)) (hts (.instantiable RX4 2) (by decide +kernel)) (hts (.initialized RX4) (by decide +kernel)) hM.1 hP hS 7 rfl ⟨by decide, by decide, m_dfX4⟩ (Nat.le_of_ble_eq_true rfl) (Nat.le_of_ble_eq_true rfl) dX6_init_60 (fun H hP hS => ?_)
  obtain ⟨w36, ew, hd⟩ := m_l_e hd
  have hP : mP G w36 H := by rw [ew]; exact hP
  have hk34 : m_kd w36 h = 10 := by rw [ew]; exact m_nO_old hk34 hne0
  have hk37 : m_kd w36 (m_nx w35) = 8 := by rw [ew]; exact m_nO_new
  refine lv_dup hx hb dX6_init_63 rfl ?_
  obtain ⟨r38, w39, hc40, hd⟩ := m_b_e hd
  refine m_callv (k := 10) (n := 51) (va_runIN (As := []) (rest := [.ref (m_nx w35), .ref (h)]) ⟨hx, hb, hml, hown, hts⟩ (c_X4_init l G w36 w39 (m_nx w35) r38 hc40) ⟨va_cnB (host := RX6) 0 hts gX6_init_X4_init_n30 rfl rfl rfl (hM.2.1.2.2.2.2.2.2.2 (RX6, 30, yX4_init) (by decide +kernel)) (hts (.initialized RX4) (by decide +kernel)) (by decide +kernel) ⟨(Nat.le_of_ble_eq_true rfl), (Nat.le_of_ble_eq_true rfl)⟩, rfl, (hts (.instanceMethod yX4_init) (by decide +kernel))⟩ (m_preS hM hP hS) rfl rfl hl.1 rfl (lv_room (Nat.le_of_ble_eq_true rfl)) dX6_init_64 ⟨(Nat.le_of_ble_eq_true rfl), (Nat.le_of_ble_eq_true rfl)⟩) hS ⟨(Nat.le_of_ble_eq_true rfl), (Nat.le_of_ble_eq_true rfl)⟩ (fun H locs hP hS => ?_)
  obtain ⟨hk41, hd⟩ := m_g_e hd
  refine m_putR (C := RX6) (T := TX6) (N := 8) (own := RX6) (ref := RX6) hx hb hts hin9 tyX6 tyX6_ok nmX6 hown hM.1 hP hS 9 rfl 5 hk41 (by decide) (hts (.fieldLink RX6 31 "CellNotebook" "now" "LCellNotebook$Session;") (by decide +kernel)) (fun _ h9 => h9) (Or.inr ⟨rfl, hin, rfl⟩) (ty := .object "CellNotebook$Session") (by decide +kernel) ⟨rfl, rfl⟩ dX6_init_67 (fun H locs hP hS => ?_)
  obtain ⟨w42, ew, hd⟩ := m_l_e hd
  have hP : mP G w42 H := by rw [ew]; exact hP
  have hk41 : m_kd w42 h = 10 := by rw [ew]; exact hk41
  refine lv_aload_n hx hb dX6_init_70 rfl (lv_at hl 0 rfl) ?_
  have hne0 : h ≠ m_nx w42 := m_ne hP hk41 (by decide)
  refine m_new (C := RX2) (T := TX2) (N := 2) (own := RX6) hx hb hts hin5 tyX2 tyX2_ok hown (hts (.classLink RX6 35 RX2) (by decide +kernel)) (hts (.instantiable RX2 2) (by decide +kernel)) (hts (.initialized RX2) (by decide +kernel)) hM.1 hP hS 5 rfl ⟨by decide, by decide, m_dfX2⟩ (Nat.le_of_ble_eq_true rfl) (Nat.le_of_ble_eq_true rfl) dX6_init_71 (fun H hP hS => ?_)
  obtain ⟨w43, ew, hd⟩ := m_l_e hd
  have hP : mP G w43 H := by rw [ew]; exact hP
  have hk41 : m_kd w43 h = 10 := by rw [ew]; exact m_nO_old hk41 hne0
  have hk44 : m_kd w43 (m_nx w42) = 6 := by rw [ew]; exact m_nO_new
  refine lv_dup hx hb dX6_init_74 rfl ?_
  obtain ⟨r45, w46, hc47, hd⟩ := m_b_e hd
  refine m_callv (k := 13) (n := 69) (va_runIN (As := []) (rest := [.ref (m_nx w42), .ref (h)]) ⟨hx, hb, hml, hown, hts⟩ (c_X2_init l G w43 w46 (m_nx w42) r45 hc47) ⟨va_cnB (host := RX6) 0 hts gX6_init_X2_init_n37 rfl rfl rfl (hM.2.1.2.2.2.2.2.2.2 (RX6, 37, yX2_init) (by decide +kernel)) (hts (.initialized RX2) (by decide +kernel)) (by decide +kernel) ⟨(Nat.le_of_ble_eq_true rfl), (Nat.le_of_ble_eq_true rfl)⟩, rfl, (hts (.instanceMethod yX2_init) (by decide +kernel))⟩ (m_preS hM hP hS) rfl rfl hl.1 rfl (lv_room (Nat.le_of_ble_eq_true rfl)) dX6_init_75 ⟨(Nat.le_of_ble_eq_true rfl), (Nat.le_of_ble_eq_true rfl)⟩) hS ⟨(Nat.le_of_ble_eq_true rfl), (Nat.le_of_ble_eq_true rfl)⟩ (fun H locs hP hS => ?_)
  obtain ⟨hk48, hd⟩ := m_g_e hd
  refine m_putR (C := RX6) (T := TX6) (N := 8) (own := RX6) (ref := RX6) hx hb hts hin9 tyX6 tyX6_ok nmX6 hown hM.1 hP hS 9 rfl 6 hk48 (by decide) (hts (.fieldLink RX6 38 "CellNotebook" "inOrder" "LCellNotebook$Names;") (by decide +kernel)) (fun _ h9 => h9) (Or.inr ⟨rfl, hin, rfl⟩) (ty := .object "CellNotebook$Names") (by decide +kernel) ⟨rfl, rfl⟩ dX6_init_78 (fun H locs hP hS => ?_)
  obtain ⟨w49, ew, hd⟩ := m_l_e hd
  have hP : mP G w49 H := by rw [ew]; exact hP
  have hk48 : m_kd w49 h = 10 := by rw [ew]; exact hk48
  refine lv_aload_n hx hb dX6_init_81 rfl (lv_at hl 0 rfl) ?_
  have hne0 : h ≠ m_nx w49 := m_ne hP hk48 (by decide)
  refine m_new (C := RX0) (T := TX0) (N := 7) (own := RX6) hx hb hts hin3 tyX0 tyX0_ok hown (hts (.classLink RX6 42 RX0) (by decide +kernel)) (hts (.instantiable RX0 7) (by decide +kernel)) (hts (.initialized RX0) (by decide +kernel)) hM.1 hP hS 3 rfl ⟨by decide, by decide, m_dfX0⟩ (Nat.le_of_ble_eq_true rfl) (Nat.le_of_ble_eq_true rfl) dX6_init_82 (fun H hP hS => ?_)
  obtain ⟨w50, ew, hd⟩ := m_l_e hd
  have hP : mP G w50 H := by rw [ew]; exact hP
  have hk48 : m_kd w50 h = 10 := by rw [ew]; exact m_nO_old hk48 hne0
  have hk51 : m_kd w50 (m_nx w49) = 4 := by rw [ew]; exact m_nO_new
  refine lv_dup hx hb dX6_init_85 rfl ?_
  obtain ⟨r52, w53, hc54, hd⟩ := m_b_e hd
  refine m_callv (k := 18) (n := 102) (va_runIN (As := []) (rest := [.ref (m_nx w49), .ref (h)]) ⟨hx, hb, hml, hown, hts⟩ (c_X0_init l G w50 w53 (m_nx w49) r52 hc54) ⟨va_cnB (host := RX6) 0 hts gX6_init_X0_init_n44 rfl rfl rfl (hM.2.1.2.2.2.2.2.2.2 (RX6, 44, yX0_init) (by decide +kernel)) (hts (.initialized RX0) (by decide +kernel)) (by decide +kernel) ⟨(Nat.le_of_ble_eq_true rfl), (Nat.le_of_ble_eq_true rfl)⟩, rfl, (hts (.instanceMethod yX0_init) (by decide +kernel))⟩ (m_preS hM hP hS) rfl rfl hl.1 rfl (lv_room (Nat.le_of_ble_eq_true rfl)) dX6_init_86 ⟨(Nat.le_of_ble_eq_true rfl), (Nat.le_of_ble_eq_true rfl)⟩) hS ⟨(Nat.le_of_ble_eq_true rfl), (Nat.le_of_ble_eq_true rfl)⟩ (fun H locs hP hS => ?_)
  obtain ⟨hk55, hd⟩ := m_g_e hd
  refine m_putR (C := RX6) (T := TX6) (N := 8) (own := RX6) (ref := RX6) hx hb hts hin9 tyX6 tyX6_ok nmX6 hown hM.1 hP hS 9 rfl 7 hk55 (by decide) (hts (.fieldLink RX6 45 "CellNotebook" "attempt" "LCellNotebook$Attempt;") (by decide +kernel)) (fun _ h9 => h9) (Or.inr ⟨rfl, hin, rfl⟩) (ty := .object "CellNotebook$Attempt") (by decide +kernel) ⟨rfl, rfl⟩ dX6_init_89 (fun H locs hP hS => ?_)
  obtain ⟨w56, ew, hd⟩ := m_l_e hd
  have hP : mP G w56 H := by rw [ew]; exact hP
  have hk55 : m_kd w56 h = 10 := by rw [ew]; exact hk55
  obtain ⟨e1, e2⟩ := m_s_e hd
  refine W.widen (k := 18) (n := 102) (Nat.le_of_ble_eq_true rfl) (Nat.le_of_ble_eq_true rfl) ?_
  exact W.vret hx hb hr (fun t ht hW => ⟨⟨w56, rfl, e2, by show mP _ _ t.heap; rw [ht]; exact hP⟩, hS.F ht⟩) hS.2.2 dX6_init_92


noncomputable def e_X6_addCell (t0 : Nat × Nat × Nat × Nat) (w : mW) (h : Nat) : Option ((Int32 ⊕ String) × mW) := m_g (m_kd w h = 10) <| m_o (m_fr w 9 0 h) fun r2 => m_g (m_kd w r2 = 3) <| m_b (e_Jx4a65c_size_8abf5 w r2) fun r4 w5 => if r4 < 16 then (m_l (m_nO w5 4) fun w8 => m_b (e_X1_init t0 w8 (m_nx w5) r4) fun r10 w11 => m_g (m_kd w11 h = 10) <| m_o (m_fr w11 9 0 h) fun r14 => m_g (m_kd w11 r14 = 3) <| m_b (e_Jx4a65c_add_9ea2d t0 w11 r14 (m_nx w5)) fun r16 w17 => m_g (m_kd w17 h = 10) <| m_o (m_fr w17 9 1 h) fun r20 => m_g (m_kd w17 r20 = 3) <| m_b (e_Jx4a65c_add_9ea2d t0 w17 r20 (m_nx w5)) fun r22 w23 => some (.inl r4, w23)) else (some (.inr "java/lang/IllegalStateException", w5))
set_option maxHeartbeats 1000000 in
set_option maxRecDepth 100000 in
theorem c_X6_addCell (l : Launch) (hst : l.stackTraces = false) (G : m_G) (w w' : mW) (h : Nat) (o : Int32 ⊕ String) (hd : e_X6_addCell G.2.2.2 w h = some (o, w')) : vx_Met l yX6_addCell wsX6_addCell ({ frames := 8, cells := 5, slots := 1212, locals := 211 } : Room) (m_Pc G w [.ref (h)]) (m_Xi G o w') (m_XC G o w') 5 1212 (fun q => G.1 ≤ q) := by
  refine vx_ofW (cc := cX6_addCell) (maxL := 3) (ret := (some .int)) (by decide +kernel) rfl ?_
  intro p e s m args below meth c s₁ B hml hout hv
  obtain ⟨rfl, hM, hP⟩ := hv
  have hx := B.exec
  have hb := B.bytes
  have hr := B.returns
  have hts := atoms_spec (ws := wsX6_addCell) B.pre
  have hown : s.vm.findClass RX6 = some m.cls := findClass_of_methodNamed B.named
  have hlocks := B.notSynchronized
  have hin4 : ∀ w ∈ u_ws RX1 TX1 4, w ∈ wsX6_addCell := by decide +kernel
  have hin9 : ∀ w ∈ u_ws RX6 TX6 8, w ∈ wsX6_addCell := by decide +kernel
  have hS : va_S (fun q => G.1 ≤ q) s.heap s.heap [] := va_S.rf
  have hl := lv_entry ([.ref (h)]) (n := 3) (Nat.le_of_ble_eq_true rfl)
  rw [lg_entry_eq]
  generalize (lg_sl ([.ref (h)]) ++ List.replicate (3 - (lg_sl ([.ref (h)])).length) Slot.unset).toArray = ls at hl ⊢
  have hl : lv_has ls 3 [(0, .ref (h))] := hl
  refine lv_aload_n hx hb dX6_addCell_0 rfl (lv_at hl 0 rfl) ?_
  obtain ⟨hk1, hd⟩ := m_g_e hd
  obtain ⟨r2, hr2, hd⟩ := m_o_e hd
  refine m_getR (C := RX6) (T := TX6) (N := 8) (own := RX6) (ref := RX6) hx hb hts hin9 hown hM.1 hP 9 rfl 0 (r := r2) ⟨hk1, hr2⟩ (by decide) (hts (.fieldLink RX6 10 "CellNotebook" "cells" "Ljava/util/ArrayList;") (by decide +kernel)) (fun _ h9 => h9) dX6_addCell_1 ?_
  obtain ⟨hk3, hd⟩ := m_g_e hd
  obtain ⟨r4, w5, hc6, hd⟩ := m_b_e hd
  refine m_calli (k := 0) (n := 0) (va_runV (As := []) (rest := []) ⟨hx, hb, hml, hown, hts⟩ (c_Jx4a65c_size_8abf5 l G w w5 r2 r4 hc6) (cwV 0 hts gX6_addCell_Jx4a65c_size_8abf5 rfl rfl rfl (by decide +kernel) ⟨(Nat.le_of_ble_eq_true rfl), (Nat.le_of_ble_eq_true rfl)⟩) (m_preV (C := RJx4a65c) (T := TJx4a65c) (N := 3) hM hP hS rfl (by decide) hk3) rfl rfl hl.1 rfl (lv_room (Nat.le_of_ble_eq_true rfl)) dX6_addCell_4 ⟨(Nat.le_of_ble_eq_true rfl), (Nat.le_of_ble_eq_true rfl)⟩) hS ⟨(Nat.le_of_ble_eq_true rfl), (Nat.le_of_ble_eq_true rfl)⟩ (fun H locs hP hS => ?_)
  refine lv_istore_n (lv' := [(1, .int (r4)), (0, .ref (h))]) hx hb dX6_addCell_7 rfl hl (by decide) rfl (fun ls hl => ?_)
  refine lv_iload_n hx hb dX6_addCell_8 rfl (lv_at hl 0 rfl) ?_
  refine lv_bipush (v := 16) hx hb dX6_addCell_9 (by decide) ?_
  refine lv_icmp_lt (tgt := 24) hx hb dX6_addCell_11 (by decide) (fun c7 => ?_) (fun c7 => ?_)
  · have hd := m_i_t c7 hd
    refine m_new (C := RX1) (T := TX1) (N := 4) (own := RX6) hx hb hts hin4 tyX1 tyX1_ok hown (hts (.classLink RX6 60 RX1) (by decide +kernel)) (hts (.instantiable RX1 4) (by decide +kernel)) (hts (.initialized RX1) (by decide +kernel)) hM.1 hP hS 4 rfl ⟨by decide, by decide, m_dfX1⟩ (Nat.le_of_ble_eq_true rfl) (Nat.le_of_ble_eq_true rfl) dX6_addCell_24 (fun H hP hS => ?_)
    obtain ⟨w8, ew, hd⟩ := m_l_e hd
    have hP : mP G w8 H := by rw [ew]; exact hP
    have hk9 : m_kd w8 (m_nx w5) = 5 := by rw [ew]; exact m_nO_new
    refine lv_dup hx hb dX6_addCell_27 rfl ?_
    refine lv_iload_n hx hb dX6_addCell_28 rfl (lv_at hl 0 rfl) ?_
    obtain ⟨r10, w11, hc12, hd⟩ := m_b_e hd
    refine m_callv (k := 3) (n := 12) (va_runI (As := [.int (r4)]) (rest := [.ref (m_nx w5)]) ⟨hx, hb, hml, hown, hts⟩ (c_X1_init l G w8 w11 (m_nx w5) r4 r10 hc12) (cwI 1 hts gX6_addCell_X1_init rfl rfl rfl (hts (.initialized RX1) (by decide +kernel)) (hts (.methodLink RX6 62 yX1_init) (by decide +kernel)) (hts (.instanceMethod yX1_init) (by decide +kernel)) rfl (by decide +kernel) ⟨(Nat.le_of_ble_eq_true rfl), (Nat.le_of_ble_eq_true rfl)⟩) (m_preS hM hP hS) rfl rfl hl.1 rfl (lv_room (Nat.le_of_ble_eq_true rfl)) dX6_addCell_29 ⟨(Nat.le_of_ble_eq_true rfl), (Nat.le_of_ble_eq_true rfl)⟩) hS ⟨(Nat.le_of_ble_eq_true rfl), (Nat.le_of_ble_eq_true rfl)⟩ (fun H locs hP hS => ?_)
    refine lv_astore_n (lv' := [(2, .ref (m_nx w5)), (1, .int (r4)), (0, .ref (h))]) hx hb dX6_addCell_32 rfl hl (by decide) rfl (fun ls hl => ?_)
    refine lv_aload_n hx hb dX6_addCell_33 rfl (lv_at hl 2 rfl) ?_
    obtain ⟨hk13, hd⟩ := m_g_e hd
    obtain ⟨r14, hr14, hd⟩ := m_o_e hd
    refine m_getR (C := RX6) (T := TX6) (N := 8) (own := RX6) (ref := RX6) hx hb hts hin9 hown hM.1 hP 9 rfl 0 (r := r14) ⟨hk13, hr14⟩ (by decide) (hts (.fieldLink RX6 10 "CellNotebook" "cells" "Ljava/util/ArrayList;") (by decide +kernel)) (fun _ h9 => h9) dX6_addCell_34 ?_
    refine lv_aload_n hx hb dX6_addCell_37 rfl (lv_at hl 0 rfl) ?_
    obtain ⟨hk15, hd⟩ := m_g_e hd
    obtain ⟨r16, w17, hc18, hd⟩ := m_b_e hd
    refine m_calli (k := 4) (n := 612) (va_runV (As := [.ref (m_nx w5)]) (rest := []) ⟨hx, hb, hml, hown, hts⟩ (c_Jx4a65c_add_9ea2d l G w11 w17 r14 (m_nx w5) r16 hc18) (cwV 1 hts gX6_addCell_Jx4a65c_add_9ea2d rfl rfl rfl (by decide +kernel) ⟨(Nat.le_of_ble_eq_true rfl), (Nat.le_of_ble_eq_true rfl)⟩) (m_preV (C := RJx4a65c) (T := TJx4a65c) (N := 3) hM hP hS rfl (by decide) hk15) rfl rfl hl.1 rfl (lv_room (Nat.le_of_ble_eq_true rfl)) dX6_addCell_38 ⟨(Nat.le_of_ble_eq_true rfl), (Nat.le_of_ble_eq_true rfl)⟩) hS ⟨(Nat.le_of_ble_eq_true rfl), (Nat.le_of_ble_eq_true rfl)⟩ (fun H locs hP hS => ?_)
    refine lv_pop hx hb dX6_addCell_41 rfl ?_
    refine lv_aload_n hx hb dX6_addCell_42 rfl (lv_at hl 2 rfl) ?_
    obtain ⟨hk19, hd⟩ := m_g_e hd
    obtain ⟨r20, hr20, hd⟩ := m_o_e hd
    refine m_getR (C := RX6) (T := TX6) (N := 8) (own := RX6) (ref := RX6) hx hb hts hin9 hown hM.1 hP 9 rfl 1 (r := r20) ⟨hk19, hr20⟩ (by decide) (hts (.fieldLink RX6 16 "CellNotebook" "order" "Ljava/util/ArrayList;") (by decide +kernel)) (fun _ h9 => h9) dX6_addCell_43 ?_
    refine lv_aload_n hx hb dX6_addCell_46 rfl (lv_at hl 0 rfl) ?_
    obtain ⟨hk21, hd⟩ := m_g_e hd
    obtain ⟨r22, w23, hc24, hd⟩ := m_b_e hd
    refine m_calli (k := 5) (n := 1212) (va_runV (As := [.ref (m_nx w5)]) (rest := []) ⟨hx, hb, hml, hown, hts⟩ (c_Jx4a65c_add_9ea2d l G w17 w23 r20 (m_nx w5) r22 hc24) (cwV 1 hts gX6_addCell_Jx4a65c_add_9ea2d rfl rfl rfl (by decide +kernel) ⟨(Nat.le_of_ble_eq_true rfl), (Nat.le_of_ble_eq_true rfl)⟩) (m_preV (C := RJx4a65c) (T := TJx4a65c) (N := 3) hM hP hS rfl (by decide) hk21) rfl rfl hl.1 rfl (lv_room (Nat.le_of_ble_eq_true rfl)) dX6_addCell_47 ⟨(Nat.le_of_ble_eq_true rfl), (Nat.le_of_ble_eq_true rfl)⟩) hS ⟨(Nat.le_of_ble_eq_true rfl), (Nat.le_of_ble_eq_true rfl)⟩ (fun H locs hP hS => ?_)
    refine lv_pop hx hb dX6_addCell_50 rfl ?_
    refine lv_iload_n hx hb dX6_addCell_51 rfl (lv_at hl 1 rfl) ?_
    obtain ⟨e1, e2⟩ := m_s_e hd
    refine vx_ret ?_
    refine W.widen (k := 5) (n := 1212) (Nat.le_of_ble_eq_true rfl) (Nat.le_of_ble_eq_true rfl) ?_
    exact W.iret hx hb hr (fun t ht hW => ⟨⟨_, w23, rfl, ⟨e1, e2⟩, by show mP _ _ t.heap; rw [ht]; exact hP⟩, hS.F ht⟩) hS.2.2 dX6_addCell_52
  · have hd := m_i_f c7 hd
    obtain ⟨e1, e2⟩ := m_s_e hd
    exact m_throwS (own := RX6) (E := "java/lang/IllegalStateException") (ik := 53) (is := 55) (ic := 57) (text := "there are 16 cells") (w := w5) hx hb hst hown (hts (.classLink RX6 53 "java/lang/IllegalStateException") (by decide +kernel)) (hts (.initialized "java/lang/IllegalStateException") (by decide +kernel)) (m_hat (E := "java/lang/IllegalStateException") (fun w h => hts w ((by decide +kernel : ∀ w ∈ (vx_atS RX6 57 "java/lang/IllegalStateException" ["java/lang/RuntimeException", "java/lang/Exception"]).filter goodWord, w ∈ wsX6_addCell) w h)) (by decide +kernel) hM.2.1.2.1 (by decide)) (by decide +kernel) (by decide +kernel) (by decide) (by decide +kernel) ⟨rfl, by decide⟩ hM hP hS (hl.1.trans hml.symm) dX6_addCell_14 dX6_addCell_17 dX6_addCell_18 dX6_addCell_20 dX6_addCell_23 hout (Nat.le_of_ble_eq_true rfl) (Nat.le_of_ble_eq_true rfl) (Nat.le_of_ble_eq_true rfl) (Nat.le_of_ble_eq_true rfl) hlocks e1 e2 (Nat.le_of_ble_eq_true rfl) (Nat.le_of_ble_eq_true rfl)


noncomputable def e_X6_requireUser_9 (w : mW)  : Option ((Unit ⊕ String) × mW) := some (.inr "java/lang/IndexOutOfBoundsException", w)
noncomputable def e_X6_requireUser (w : mW) (p0 : Int32) : Option ((Unit ⊕ String) × mW) := if p0 < (0 : Int32) then (e_X6_requireUser_9 w) else (if p0 < 5 then (some (.inl (), w)) else (e_X6_requireUser_9 w))
set_option maxHeartbeats 1000000 in
set_option maxRecDepth 100000 in
theorem c_X6_requireUser (l : Launch) (hst : l.stackTraces = false) (G : m_G) (w w' : mW) (p0 : Int32) (o : Unit ⊕ String) (hd : e_X6_requireUser w p0 = some (o, w')) : vx_Met l yX6_requireUser wsX6_requireUser ({ frames := 8, cells := 1, slots := 6, locals := 140 } : Room) (m_Pc G w [.int (p0)]) (m_Xv G o w') (m_XC G o w') 1 6 (fun q => G.1 ≤ q) := by
  refine vx_ofW (cc := cX6_requireUser) (maxL := 1) (ret := none) (by decide +kernel) rfl ?_
  intro p e s m args below meth c s₁ B hml hout hv
  obtain ⟨rfl, hM, hP⟩ := hv
  have hx := B.exec
  have hb := B.bytes
  have hr := B.returns
  have hts := atoms_spec (ws := wsX6_requireUser) B.pre
  have hown : s.vm.findClass RX6 = some m.cls := findClass_of_methodNamed B.named
  have hlocks := B.notSynchronized
  have hS : va_S (fun q => G.1 ≤ q) s.heap s.heap [] := va_S.rf
  have J9 : ∀ (w : mW) (H : Heap) (locs : List Loc) (ls : Array Slot), e_X6_requireUser_9 w = some (o, w') → mP G w H → va_S (fun q => G.1 ≤ q) s.heap H locs → lv_has ls 1 [] → W p l e ({ frames := 8, cells := 1, slots := 6, locals := 140 } : Room) s m ([.int (p0)] : List Value).toArray below meth c H locs 0 0 (vx_MQ below (m_Xv G o w') (m_XC G o w') ([.int (p0)] : List Value).toArray s 1 6 (fun q => G.1 ≤ q)) (F0 m 9 ls []) := by
    intro w H locs ls hd hP hS hl
    obtain ⟨e1, e2⟩ := m_s_e hd
    exact m_throwS (own := RX6) (E := "java/lang/IndexOutOfBoundsException") (ik := 140) (is := 255) (ic := 144) (text := "no such user") (w := w) hx hb hst hown (hts (.classLink RX6 140 "java/lang/IndexOutOfBoundsException") (by decide +kernel)) (hts (.initialized "java/lang/IndexOutOfBoundsException") (by decide +kernel)) (m_hat (E := "java/lang/IndexOutOfBoundsException") (fun w h => hts w ((by decide +kernel : ∀ w ∈ (vx_atS RX6 144 "java/lang/IndexOutOfBoundsException" ["java/lang/RuntimeException", "java/lang/Exception"]).filter goodWord, w ∈ wsX6_requireUser) w h)) (by decide +kernel) hM.2.1.2.1 (by decide)) (by decide +kernel) (by decide +kernel) (by decide) (by decide +kernel) ⟨rfl, by decide⟩ hM hP hS (hl.1.trans hml.symm) dX6_requireUser_9 dX6_requireUser_12 dX6_requireUser_13 dX6_requireUser_15 dX6_requireUser_18 hout (Nat.le_of_ble_eq_true rfl) (Nat.le_of_ble_eq_true rfl) (Nat.le_of_ble_eq_true rfl) (Nat.le_of_ble_eq_true rfl) hlocks e1 e2 (Nat.le_of_ble_eq_true rfl) (Nat.le_of_ble_eq_true rfl)
  have hl := lv_entry ([.int (p0)]) (n := 1) (Nat.le_of_ble_eq_true rfl)
  rw [lg_entry_eq]
  generalize (lg_sl ([.int (p0)]) ++ List.replicate (1 - (lg_sl ([.int (p0)])).length) Slot.unset).toArray = ls at hl ⊢
  have hl : lv_has ls 1 [(0, .int (p0))] := hl
  refine lv_iload_n hx hb dX6_requireUser_0 rfl (lv_at hl 0 rfl) ?_
  refine lv_if_lt (tgt := 9) hx hb dX6_requireUser_1 (by decide) (fun c1 => ?_) (fun c1 => ?_)
  · have hd := m_i_t c1 hd
    refine W.widen (k := 0) (n := 0) (Nat.le_of_ble_eq_true rfl) (Nat.le_of_ble_eq_true rfl) ?_
    exact J9 w _ _ _ hd hP hS (lv_sub hl [] rfl)
  · have hd := m_i_f c1 hd
    refine lv_iload_n hx hb dX6_requireUser_4 rfl (lv_at hl 0 rfl) ?_
    refine lv_iconst (v := 5) hx hb dX6_requireUser_5 (by decide) ?_
    refine lv_icmp_lt (tgt := 19) hx hb dX6_requireUser_6 (by decide) (fun c2 => ?_) (fun c2 => ?_)
    · have hd := m_i_t c2 hd
      obtain ⟨e1, e2⟩ := m_s_e hd
      refine vx_ret ?_
      refine W.widen (k := 1) (n := 6) (Nat.le_of_ble_eq_true rfl) (Nat.le_of_ble_eq_true rfl) ?_
      exact W.vret hx hb hr (fun t ht hW => ⟨⟨w, rfl, ⟨e1, e2⟩, by show mP _ _ t.heap; rw [ht]; exact hP⟩, hS.F ht⟩) hS.2.2 dX6_requireUser_19
    · have hd := m_i_f c2 hd
      refine W.widen (k := 0) (n := 0) (Nat.le_of_ble_eq_true rfl) (Nat.le_of_ble_eq_true rfl) ?_
      exact J9 w _ _ _ hd hP hS (lv_sub hl [] rfl)


noncomputable def e_X6_requireCell_15 (w : mW)  : Option ((Nat ⊕ String) × mW) := some (.inr "java/lang/IndexOutOfBoundsException", w)
noncomputable def e_X6_requireCell (w : mW) (h : Nat) (p0 : Int32) : Option ((Nat ⊕ String) × mW) := if p0 < (0 : Int32) then (e_X6_requireCell_15 w) else (m_g (m_kd w h = 10) <| m_o (m_fr w 9 0 h) fun r3 => m_g (m_kd w r3 = 3) <| m_b (e_Jx4a65c_size_8abf5 w r3) fun r5 w6 => if p0 < r5 then (m_g (m_kd w6 h = 10) <| m_o (m_fr w6 9 0 h) fun r10 => m_g (m_kd w6 r10 = 3) <| m_b (e_Jx4a65c_get_915e3 w6 r10 p0) fun r12 w13 => m_g (m_kd w13 r12 = 5) <| some (.inl r12, w13)) else (e_X6_requireCell_15 w6))
set_option maxHeartbeats 1000000 in
set_option maxRecDepth 100000 in
theorem c_X6_requireCell (l : Launch) (hst : l.stackTraces = false) (G : m_G) (w w' : mW) (h : Nat) (p0 : Int32) (o : Nat ⊕ String) (hd : e_X6_requireCell w h p0 = some (o, w')) : vx_Met l yX6_requireCell wsX6_requireCell ({ frames := 8, cells := 1, slots := 6, locals := 140 } : Room) (m_Pc G w [.ref (h), .int (p0)]) (m_Xq G o w') (m_XC G o w') 1 6 (fun q => G.1 ≤ q) := by
  refine vx_ofW (cc := cX6_requireCell) (maxL := 2) (ret := (some (.object "CellNotebook$Cell"))) (by decide +kernel) rfl ?_
  intro p e s m args below meth c s₁ B hml hout hv
  obtain ⟨rfl, hM, hP⟩ := hv
  have hx := B.exec
  have hb := B.bytes
  have hr := B.returns
  have hts := atoms_spec (ws := wsX6_requireCell) B.pre
  have hown : s.vm.findClass RX6 = some m.cls := findClass_of_methodNamed B.named
  have hlocks := B.notSynchronized
  have hin9 : ∀ w ∈ u_ws RX6 TX6 8, w ∈ wsX6_requireCell := by decide +kernel
  have hS : va_S (fun q => G.1 ≤ q) s.heap s.heap [] := va_S.rf
  have J15 : ∀ (w : mW) (H : Heap) (locs : List Loc) (ls : Array Slot), e_X6_requireCell_15 w = some (o, w') → mP G w H → va_S (fun q => G.1 ≤ q) s.heap H locs → lv_has ls 2 [] → W p l e ({ frames := 8, cells := 1, slots := 6, locals := 140 } : Room) s m ([.ref (h), .int (p0)] : List Value).toArray below meth c H locs 0 0 (vx_MQ below (m_Xq G o w') (m_XC G o w') ([.ref (h), .int (p0)] : List Value).toArray s 1 6 (fun q => G.1 ≤ q)) (F0 m 15 ls []) := by
    intro w H locs ls hd hP hS hl
    obtain ⟨e1, e2⟩ := m_s_e hd
    exact m_throwW (own := RX6) (E := "java/lang/IndexOutOfBoundsException") (ik := 140) (is := 262) (ic := 144) (text := "no such cell") (w := w) hx hb hst hown (hts (.classLink RX6 140 "java/lang/IndexOutOfBoundsException") (by decide +kernel)) (hts (.initialized "java/lang/IndexOutOfBoundsException") (by decide +kernel)) (m_hat (E := "java/lang/IndexOutOfBoundsException") (fun w h => hts w ((by decide +kernel : ∀ w ∈ (vx_atS RX6 144 "java/lang/IndexOutOfBoundsException" ["java/lang/RuntimeException", "java/lang/Exception"]).filter goodWord, w ∈ wsX6_requireCell) w h)) (by decide +kernel) hM.2.1.2.1 (by decide)) (by decide +kernel) (by decide +kernel) (by decide) (by decide +kernel) ⟨rfl, by decide⟩ hM hP hS (hl.1.trans hml.symm) dX6_requireCell_15 dX6_requireCell_18 dX6_requireCell_19 dX6_requireCell_22 dX6_requireCell_25 hout (Nat.le_of_ble_eq_true rfl) (Nat.le_of_ble_eq_true rfl) (Nat.le_of_ble_eq_true rfl) (Nat.le_of_ble_eq_true rfl) hlocks e1 e2 (Nat.le_of_ble_eq_true rfl) (Nat.le_of_ble_eq_true rfl)
  have hl := lv_entry ([.ref (h), .int (p0)]) (n := 2) (Nat.le_of_ble_eq_true rfl)
  rw [lg_entry_eq]
  generalize (lg_sl ([.ref (h), .int (p0)]) ++ List.replicate (2 - (lg_sl ([.ref (h), .int (p0)])).length) Slot.unset).toArray = ls at hl ⊢
  have hl : lv_has ls 2 [(0, .ref (h)), (1, .int (p0))] := hl
  refine lv_iload_n hx hb dX6_requireCell_0 rfl (lv_at hl 1 rfl) ?_
  refine lv_if_lt (tgt := 15) hx hb dX6_requireCell_1 (by decide) (fun c1 => ?_) (fun c1 => ?_)
  · have hd := m_i_t c1 hd
    refine W.widen (k := 0) (n := 0) (Nat.le_of_ble_eq_true rfl) (Nat.le_of_ble_eq_true rfl) ?_
    exact J15 w _ _ _ hd hP hS (lv_sub hl [] rfl)
  · have hd := m_i_f c1 hd
    refine lv_iload_n hx hb dX6_requireCell_4 rfl (lv_at hl 1 rfl) ?_
    refine lv_aload_n hx hb dX6_requireCell_5 rfl (lv_at hl 0 rfl) ?_
    obtain ⟨hk2, hd⟩ := m_g_e hd
    obtain ⟨r3, hr3, hd⟩ := m_o_e hd
    refine m_getR (C := RX6) (T := TX6) (N := 8) (own := RX6) (ref := RX6) hx hb hts hin9 hown hM.1 hP 9 rfl 0 (r := r3) ⟨hk2, hr3⟩ (by decide) (hts (.fieldLink RX6 10 "CellNotebook" "cells" "Ljava/util/ArrayList;") (by decide +kernel)) (fun _ h9 => h9) dX6_requireCell_6 ?_
    obtain ⟨hk4, hd⟩ := m_g_e hd
    obtain ⟨r5, w6, hc7, hd⟩ := m_b_e hd
    refine m_calli (k := 0) (n := 0) (va_runV (As := []) (rest := [.int (p0)]) ⟨hx, hb, hml, hown, hts⟩ (c_Jx4a65c_size_8abf5 l G w w6 r3 r5 hc7) (cwV 0 hts gX6_requireCell_Jx4a65c_size_8abf5 rfl rfl rfl (by decide +kernel) ⟨(Nat.le_of_ble_eq_true rfl), (Nat.le_of_ble_eq_true rfl)⟩) (m_preV (C := RJx4a65c) (T := TJx4a65c) (N := 3) hM hP hS rfl (by decide) hk4) rfl rfl hl.1 rfl (lv_room (Nat.le_of_ble_eq_true rfl)) dX6_requireCell_9 ⟨(Nat.le_of_ble_eq_true rfl), (Nat.le_of_ble_eq_true rfl)⟩) hS ⟨(Nat.le_of_ble_eq_true rfl), (Nat.le_of_ble_eq_true rfl)⟩ (fun H locs hP hS => ?_)
    refine lv_icmp_lt (tgt := 26) hx hb dX6_requireCell_12 (by decide) (fun c8 => ?_) (fun c8 => ?_)
    · have hd := m_i_t c8 hd
      refine lv_aload_n hx hb dX6_requireCell_26 rfl (lv_at hl 0 rfl) ?_
      obtain ⟨hk9, hd⟩ := m_g_e hd
      obtain ⟨r10, hr10, hd⟩ := m_o_e hd
      refine m_getR (C := RX6) (T := TX6) (N := 8) (own := RX6) (ref := RX6) hx hb hts hin9 hown hM.1 hP 9 rfl 0 (r := r10) ⟨hk9, hr10⟩ (by decide) (hts (.fieldLink RX6 10 "CellNotebook" "cells" "Ljava/util/ArrayList;") (by decide +kernel)) (fun _ h9 => h9) dX6_requireCell_27 ?_
      refine lv_iload_n hx hb dX6_requireCell_30 rfl (lv_at hl 1 rfl) ?_
      obtain ⟨hk11, hd⟩ := m_g_e hd
      obtain ⟨r12, w13, hc14, hd⟩ := m_b_e hd
      refine m_callr (k := 0) (n := 0) (va_runV (As := [.int (p0)]) (rest := []) ⟨hx, hb, hml, hown, hts⟩ (c_Jx4a65c_get_915e3 l G w6 w13 r10 p0 r12 hc14) (cwV 1 hts gX6_requireCell_Jx4a65c_get_915e3 rfl rfl rfl (by decide +kernel) ⟨(Nat.le_of_ble_eq_true rfl), (Nat.le_of_ble_eq_true rfl)⟩) (m_preV (C := RJx4a65c) (T := TJx4a65c) (N := 3) hM hP hS rfl (by decide) hk11) rfl rfl hl.1 rfl (lv_room (Nat.le_of_ble_eq_true rfl)) dX6_requireCell_31 ⟨(Nat.le_of_ble_eq_true rfl), (Nat.le_of_ble_eq_true rfl)⟩) hS ⟨(Nat.le_of_ble_eq_true rfl), (Nat.le_of_ble_eq_true rfl)⟩ (fun H locs hP hS => ?_)
      obtain ⟨hk15, hd⟩ := m_g_e hd
      refine va_castS (own := RX6) (nm := RX1) hx hb hown (hts (.classLink RX6 60 RX1) (by decide +kernel)) (hM.1.1 4 _ rfl).2 (m_recv hM.1 hP hk15 (by decide) rfl) dX6_requireCell_34 ?_
      obtain ⟨e1, e2⟩ := m_s_e hd
      refine vx_ret ?_
      refine W.widen (k := 1) (n := 6) (Nat.le_of_ble_eq_true rfl) (Nat.le_of_ble_eq_true rfl) ?_
      exact W.aret hx hb hr (Or.inl ⟨_, rfl⟩) (Or.inr ⟨_, rfl⟩) (fun t ht hW => ⟨⟨some r12, w13, rfl, ⟨⟨_, rfl, e1⟩, e2⟩, by show mP _ _ t.heap; rw [ht]; exact hP⟩, hS.F ht⟩) hS.2.2 dX6_requireCell_37
    · have hd := m_i_f c8 hd
      refine W.widen (k := 0) (n := 0) (Nat.le_of_ble_eq_true rfl) (Nat.le_of_ble_eq_true rfl) ?_
      exact J15 w6 _ _ _ hd hP hS (lv_sub hl [] rfl)


noncomputable def e_X6_requireName (w : mW) (p0 : Int32) : Option ((Unit ⊕ String) × mW) := m_b (e_X6_isName w p0) fun r1 w2 => if r1 = (0 : Int32) then (some (.inr "java/lang/IndexOutOfBoundsException", w2)) else (some (.inl (), w2))
set_option maxHeartbeats 1000000 in
set_option maxRecDepth 100000 in
theorem c_X6_requireName (l : Launch) (hst : l.stackTraces = false) (G : m_G) (w w' : mW) (p0 : Int32) (o : Unit ⊕ String) (hd : e_X6_requireName w p0 = some (o, w')) : vx_Met l yX6_requireName wsX6_requireName ({ frames := 8, cells := 1, slots := 6, locals := 140 } : Room) (m_Pc G w [.int (p0)]) (m_Xv G o w') (m_XC G o w') 1 6 (fun q => G.1 ≤ q) := by
  refine vx_ofW (cc := cX6_requireName) (maxL := 1) (ret := none) (by decide +kernel) rfl ?_
  intro p e s m args below meth c s₁ B hml hout hv
  obtain ⟨rfl, hM, hP⟩ := hv
  have hx := B.exec
  have hb := B.bytes
  have hr := B.returns
  have hts := atoms_spec (ws := wsX6_requireName) B.pre
  have hown : s.vm.findClass RX6 = some m.cls := findClass_of_methodNamed B.named
  have hlocks := B.notSynchronized
  have hS : va_S (fun q => G.1 ≤ q) s.heap s.heap [] := va_S.rf
  have hl := lv_entry ([.int (p0)]) (n := 1) (Nat.le_of_ble_eq_true rfl)
  rw [lg_entry_eq]
  generalize (lg_sl ([.int (p0)]) ++ List.replicate (1 - (lg_sl ([.int (p0)])).length) Slot.unset).toArray = ls at hl ⊢
  have hl : lv_has ls 1 [(0, .int (p0))] := hl
  refine lv_iload_n hx hb dX6_requireName_0 rfl (lv_at hl 0 rfl) ?_
  obtain ⟨r1, w2, hc3, hd⟩ := m_b_e hd
  refine m_calli (k := 0) (n := 0) (va_runS (As := [.int (p0)]) (rest := []) ⟨hx, hb, hml, hown, hts⟩ (c_X6_isName l G w w2 p0 r1 hc3) (va_cwS 1 hts gX6_requireName_X6_isName rfl rfl rfl (by decide +kernel) ⟨(Nat.le_of_ble_eq_true rfl), (Nat.le_of_ble_eq_true rfl)⟩) (m_preS hM hP hS) rfl rfl hl.1 rfl (lv_room (Nat.le_of_ble_eq_true rfl)) dX6_requireName_1 ⟨(Nat.le_of_ble_eq_true rfl), (Nat.le_of_ble_eq_true rfl)⟩) hS ⟨(Nat.le_of_ble_eq_true rfl), (Nat.le_of_ble_eq_true rfl)⟩ (fun H locs hP hS => ?_)
  refine lv_if_ne (tgt := 18) hx hb dX6_requireName_4 (by decide) (fun c4 => ?_) (fun c4 => ?_)
  · have hd := m_i_f c4 hd
    obtain ⟨e1, e2⟩ := m_s_e hd
    refine vx_ret ?_
    refine W.widen (k := 1) (n := 6) (Nat.le_of_ble_eq_true rfl) (Nat.le_of_ble_eq_true rfl) ?_
    exact W.vret hx hb hr (fun t ht hW => ⟨⟨w2, rfl, ⟨e1, e2⟩, by show mP _ _ t.heap; rw [ht]; exact hP⟩, hS.F ht⟩) hS.2.2 dX6_requireName_18
  · have hd := m_i_t c4 hd
    obtain ⟨e1, e2⟩ := m_s_e hd
    exact m_throwW (own := RX6) (E := "java/lang/IndexOutOfBoundsException") (ik := 140) (is := 260) (ic := 144) (text := "no such name") (w := w2) hx hb hst hown (hts (.classLink RX6 140 "java/lang/IndexOutOfBoundsException") (by decide +kernel)) (hts (.initialized "java/lang/IndexOutOfBoundsException") (by decide +kernel)) (m_hat (E := "java/lang/IndexOutOfBoundsException") (fun w h => hts w ((by decide +kernel : ∀ w ∈ (vx_atS RX6 144 "java/lang/IndexOutOfBoundsException" ["java/lang/RuntimeException", "java/lang/Exception"]).filter goodWord, w ∈ wsX6_requireName) w h)) (by decide +kernel) hM.2.1.2.1 (by decide)) (by decide +kernel) (by decide +kernel) (by decide) (by decide +kernel) ⟨rfl, by decide⟩ hM hP hS (hl.1.trans hml.symm) dX6_requireName_7 dX6_requireName_10 dX6_requireName_11 dX6_requireName_14 dX6_requireName_17 hout (Nat.le_of_ble_eq_true rfl) (Nat.le_of_ble_eq_true rfl) (Nat.le_of_ble_eq_true rfl) (Nat.le_of_ble_eq_true rfl) hlocks e1 e2 (Nat.le_of_ble_eq_true rfl) (Nat.le_of_ble_eq_true rfl)


noncomputable def e_X6_isOperand_25 (w : mW) (s0 : Int32) : Option (Int32 × mW) := m_g (vp_nar .boolean s0 = s0) <| some (s0, w)
noncomputable def e_X6_isOperand_24 (w : mW)  : Option (Int32 × mW) := e_X6_isOperand_25 w 0
noncomputable def e_X6_isOperand_20 (w : mW)  : Option (Int32 × mW) := e_X6_isOperand_25 w 1
noncomputable def e_X6_isOperand (w : mW) (p0 : Int32) : Option (Int32 × mW) := m_b (e_X6_isName w p0) fun r1 w2 => if r1 = (0 : Int32) then (if p0 < 100 then (e_X6_isOperand_24 w2) else (if 1100 < p0 then (e_X6_isOperand_24 w2) else (e_X6_isOperand_20 w2))) else (e_X6_isOperand_20 w2)
set_option maxHeartbeats 1000000 in
set_option maxRecDepth 100000 in
theorem c_X6_isOperand (l : Launch) (G : m_G) (w w' : mW) (p0 : Int32) (r : Int32) (hd : e_X6_isOperand w p0 = some (r, w')) : Met l yX6_isOperand wsX6_isOperand ({ frames := 1, cells := 0, slots := 0, locals := 20 } : Room) (m_Pc G w [.int (p0)]) (m_Qi G r w') 0 0 (fun q => G.1 ≤ q) := by
  refine Met.ofW (cc := cX6_isOperand) (maxL := 1) (ret := (some .boolean)) (by decide +kernel) rfl ?_
  intro p e s m args below meth c s₁ B hml hv
  obtain ⟨rfl, hM, hP⟩ := hv
  have hx := B.exec
  have hb := B.bytes
  have hr := B.returns
  have hts := atoms_spec (ws := wsX6_isOperand) B.pre
  have hown : s.vm.findClass RX6 = some m.cls := findClass_of_methodNamed B.named
  have hlocks := B.notSynchronized
  have hS : va_S (fun q => G.1 ≤ q) s.heap s.heap [] := va_S.rf
  have J25 : ∀ (w : mW) (s0 : Int32) (H : Heap) (locs : List Loc) (ls : Array Slot), e_X6_isOperand_25 w s0 = some (r, w') → mP G w H → va_S (fun q => G.1 ≤ q) s.heap H locs → lv_has ls 1 [] → W p l e ({ frames := 1, cells := 0, slots := 0, locals := 20 } : Room) s m ([.int (p0)] : List Value).toArray below meth c H locs 0 0 (MQ below (m_Qi G r w') ([.int (p0)] : List Value).toArray s 0 0 (fun q => G.1 ≤ q)) (F0 m 25 ls [.int (s0)]) := by
    intro w s0 H locs ls hd hP hS hl
    obtain ⟨hn307, hd⟩ := m_g_e hd
    obtain ⟨e1, e2⟩ := m_s_e hd
    refine W.widen (k := 0) (n := 0) (Nat.le_of_ble_eq_true rfl) (Nat.le_of_ble_eq_true rfl) ?_
    exact W.zret hx hb hr (m_narZ hn307).1 (fun t ht hW => ⟨⟨_, w, rfl, ⟨e1, e2⟩, by show mP _ _ t.heap; rw [ht]; exact hP⟩, hS.F ht⟩) hS.2.2 dX6_isOperand_25
  have J24 : ∀ (w : mW) (H : Heap) (locs : List Loc) (ls : Array Slot), e_X6_isOperand_24 w = some (r, w') → mP G w H → va_S (fun q => G.1 ≤ q) s.heap H locs → lv_has ls 1 [] → W p l e ({ frames := 1, cells := 0, slots := 0, locals := 20 } : Room) s m ([.int (p0)] : List Value).toArray below meth c H locs 0 0 (MQ below (m_Qi G r w') ([.int (p0)] : List Value).toArray s 0 0 (fun q => G.1 ≤ q)) (F0 m 24 ls []) := by
    intro w H locs ls hd hP hS hl
    refine lv_iconst (v := 0) hx hb dX6_isOperand_24 (by decide) ?_
    refine W.widen (k := 0) (n := 0) (Nat.le_of_ble_eq_true rfl) (Nat.le_of_ble_eq_true rfl) ?_
    exact J25 w 0 _ _ _ hd hP hS (lv_sub hl [] rfl)
  have J20 : ∀ (w : mW) (H : Heap) (locs : List Loc) (ls : Array Slot), e_X6_isOperand_20 w = some (r, w') → mP G w H → va_S (fun q => G.1 ≤ q) s.heap H locs → lv_has ls 1 [] → W p l e ({ frames := 1, cells := 0, slots := 0, locals := 20 } : Room) s m ([.int (p0)] : List Value).toArray below meth c H locs 0 0 (MQ below (m_Qi G r w') ([.int (p0)] : List Value).toArray s 0 0 (fun q => G.1 ≤ q)) (F0 m 20 ls []) := by
    intro w H locs ls hd hP hS hl
    refine lv_iconst (v := 1) hx hb dX6_isOperand_20 (by decide) ?_
    refine lv_goto (tgt := 25) hx hb dX6_isOperand_21 (by decide) ?_
    refine W.widen (k := 0) (n := 0) (Nat.le_of_ble_eq_true rfl) (Nat.le_of_ble_eq_true rfl) ?_
    exact J25 w 1 _ _ _ hd hP hS (lv_sub hl [] rfl)
  have hl := lv_entry ([.int (p0)]) (n := 1) (Nat.le_of_ble_eq_true rfl)
  rw [lg_entry_eq]
  generalize (lg_sl ([.int (p0)]) ++ List.replicate (1 - (lg_sl ([.int (p0)])).length) Slot.unset).toArray = ls at hl ⊢
  have hl : lv_has ls 1 [(0, .int (p0))] := hl
  refine lv_iload_n hx hb dX6_isOperand_0 rfl (lv_at hl 0 rfl) ?_
  obtain ⟨r1, w2, hc3, hd⟩ := m_b_e hd
  refine m_calli (k := 0) (n := 0) (va_runS (As := [.int (p0)]) (rest := []) ⟨hx, hb, hml, hown, hts⟩ (c_X6_isName l G w w2 p0 r1 hc3) (va_cwS 1 hts gX6_isOperand_X6_isName rfl rfl rfl (by decide +kernel) ⟨(Nat.le_of_ble_eq_true rfl), (Nat.le_of_ble_eq_true rfl)⟩) (m_preS hM hP hS) rfl rfl hl.1 rfl (lv_room (Nat.le_of_ble_eq_true rfl)) dX6_isOperand_1 ⟨(Nat.le_of_ble_eq_true rfl), (Nat.le_of_ble_eq_true rfl)⟩) hS ⟨(Nat.le_of_ble_eq_true rfl), (Nat.le_of_ble_eq_true rfl)⟩ (fun H locs hP hS => ?_)
  refine lv_if_ne (tgt := 20) hx hb dX6_isOperand_4 (by decide) (fun c4 => ?_) (fun c4 => ?_)
  · have hd := m_i_f c4 hd
    refine W.widen (k := 0) (n := 0) (Nat.le_of_ble_eq_true rfl) (Nat.le_of_ble_eq_true rfl) ?_
    exact J20 w2 _ _ _ hd hP hS (lv_sub hl [] rfl)
  · have hd := m_i_t c4 hd
    refine lv_iload_n hx hb dX6_isOperand_7 rfl (lv_at hl 0 rfl) ?_
    refine lv_bipush (v := 100) hx hb dX6_isOperand_8 (by decide) ?_
    refine lv_icmp_lt (tgt := 24) hx hb dX6_isOperand_10 (by decide) (fun c5 => ?_) (fun c5 => ?_)
    · have hd := m_i_t c5 hd
      refine W.widen (k := 0) (n := 0) (Nat.le_of_ble_eq_true rfl) (Nat.le_of_ble_eq_true rfl) ?_
      exact J24 w2 _ _ _ hd hP hS (lv_sub hl [] rfl)
    · have hd := m_i_f c5 hd
      refine lv_iload_n hx hb dX6_isOperand_13 rfl (lv_at hl 0 rfl) ?_
      refine lv_sipush (v := 1100) hx hb dX6_isOperand_14 (by decide) ?_
      refine lv_icmp_gt (tgt := 24) hx hb dX6_isOperand_17 (by decide) (fun c6 => ?_) (fun c6 => ?_)
      · have hd := m_i_t c6 hd
        refine W.widen (k := 0) (n := 0) (Nat.le_of_ble_eq_true rfl) (Nat.le_of_ble_eq_true rfl) ?_
        exact J24 w2 _ _ _ hd hP hS (lv_sub hl [] rfl)
      · have hd := m_i_f c6 hd
        refine W.widen (k := 0) (n := 0) (Nat.le_of_ble_eq_true rfl) (Nat.le_of_ble_eq_true rfl) ?_
        exact J20 w2 _ _ _ hd hP hS (lv_sub hl [] rfl)


noncomputable def e_X6_requireRight (w : mW) (p0 : Nat) (p1 : Int32) (p2 : Int32) : Option ((Unit ⊕ String) × mW) := m_g (m_kd w p0 = 5) <| m_b (e_X1_allows w p0 p1 p2) fun r2 w3 => if r2 = (0 : Int32) then (some (.inr "java/lang/IllegalStateException", w3)) else (some (.inl (), w3))
set_option maxHeartbeats 1000000 in
set_option maxRecDepth 100000 in
theorem c_X6_requireRight (l : Launch) (hst : l.stackTraces = false) (G : m_G) (w w' : mW) (p0 : Nat) (p1 : Int32) (p2 : Int32) (o : Unit ⊕ String) (hd : e_X6_requireRight w p0 p1 p2 = some (o, w')) : vx_Met l yX6_requireRight wsX6_requireRight ({ frames := 8, cells := 1, slots := 6, locals := 140 } : Room) (m_Pc G w [.ref (p0), .int (p1), .int (p2)]) (m_Xv G o w') (m_XC G o w') 1 6 (fun q => G.1 ≤ q) := by
  refine vx_ofW (cc := cX6_requireRight) (maxL := 3) (ret := none) (by decide +kernel) rfl ?_
  intro p e s m args below meth c s₁ B hml hout hv
  obtain ⟨rfl, hM, hP⟩ := hv
  have hx := B.exec
  have hb := B.bytes
  have hr := B.returns
  have hts := atoms_spec (ws := wsX6_requireRight) B.pre
  have hown : s.vm.findClass RX6 = some m.cls := findClass_of_methodNamed B.named
  have hlocks := B.notSynchronized
  have hS : va_S (fun q => G.1 ≤ q) s.heap s.heap [] := va_S.rf
  have hl := lv_entry ([.ref (p0), .int (p1), .int (p2)]) (n := 3) (Nat.le_of_ble_eq_true rfl)
  rw [lg_entry_eq]
  generalize (lg_sl ([.ref (p0), .int (p1), .int (p2)]) ++ List.replicate (3 - (lg_sl ([.ref (p0), .int (p1), .int (p2)])).length) Slot.unset).toArray = ls at hl ⊢
  have hl : lv_has ls 3 [(0, .ref (p0)), (1, .int (p1)), (2, .int (p2))] := hl
  refine lv_aload_n hx hb dX6_requireRight_0 rfl (lv_at hl 0 rfl) ?_
  refine lv_iload_n hx hb dX6_requireRight_1 rfl (lv_at hl 1 rfl) ?_
  refine lv_iload_n hx hb dX6_requireRight_2 rfl (lv_at hl 2 rfl) ?_
  obtain ⟨hk1, hd⟩ := m_g_e hd
  obtain ⟨r2, w3, hc4, hd⟩ := m_b_e hd
  refine m_calli (k := 0) (n := 0) (va_runV (As := [.int (p1), .int (p2)]) (rest := []) ⟨hx, hb, hml, hown, hts⟩ (c_X1_allows l G w w3 p0 p1 p2 r2 hc4) (cwV 2 hts gX6_requireRight_X1_allows rfl rfl rfl (by decide +kernel) ⟨(Nat.le_of_ble_eq_true rfl), (Nat.le_of_ble_eq_true rfl)⟩) (m_preV (C := RX1) (T := TX1) (N := 4) hM hP hS rfl (by decide) hk1) rfl rfl hl.1 rfl (lv_room (Nat.le_of_ble_eq_true rfl)) dX6_requireRight_3 ⟨(Nat.le_of_ble_eq_true rfl), (Nat.le_of_ble_eq_true rfl)⟩) hS ⟨(Nat.le_of_ble_eq_true rfl), (Nat.le_of_ble_eq_true rfl)⟩ (fun H locs hP hS => ?_)
  refine lv_if_ne (tgt := 20) hx hb dX6_requireRight_6 (by decide) (fun c5 => ?_) (fun c5 => ?_)
  · have hd := m_i_f c5 hd
    obtain ⟨e1, e2⟩ := m_s_e hd
    refine vx_ret ?_
    refine W.widen (k := 1) (n := 6) (Nat.le_of_ble_eq_true rfl) (Nat.le_of_ble_eq_true rfl) ?_
    exact W.vret hx hb hr (fun t ht hW => ⟨⟨w3, rfl, ⟨e1, e2⟩, by show mP _ _ t.heap; rw [ht]; exact hP⟩, hS.F ht⟩) hS.2.2 dX6_requireRight_20
  · have hd := m_i_t c5 hd
    obtain ⟨e1, e2⟩ := m_s_e hd
    exact m_throwW (own := RX6) (E := "java/lang/IllegalStateException") (ik := 53) (is := 266) (ic := 57) (text := "the user may not do this") (w := w3) hx hb hst hown (hts (.classLink RX6 53 "java/lang/IllegalStateException") (by decide +kernel)) (hts (.initialized "java/lang/IllegalStateException") (by decide +kernel)) (m_hat (E := "java/lang/IllegalStateException") (fun w h => hts w ((by decide +kernel : ∀ w ∈ (vx_atS RX6 57 "java/lang/IllegalStateException" ["java/lang/RuntimeException", "java/lang/Exception"]).filter goodWord, w ∈ wsX6_requireRight) w h)) (by decide +kernel) hM.2.1.2.1 (by decide)) (by decide +kernel) (by decide +kernel) (by decide) (by decide +kernel) ⟨rfl, by decide⟩ hM hP hS (hl.1.trans hml.symm) dX6_requireRight_9 dX6_requireRight_12 dX6_requireRight_13 dX6_requireRight_16 dX6_requireRight_19 hout (Nat.le_of_ble_eq_true rfl) (Nat.le_of_ble_eq_true rfl) (Nat.le_of_ble_eq_true rfl) (Nat.le_of_ble_eq_true rfl) hlocks e1 e2 (Nat.le_of_ble_eq_true rfl) (Nat.le_of_ble_eq_true rfl)


noncomputable def e_X6_write_52 (t0 : Nat × Nat × Nat × Nat) (w : mW)  : Option ((Int32 ⊕ String) × mW) := some (.inr "java/lang/IllegalArgumentException", w)
noncomputable def e_X6_write_26 (t0 : Nat × Nat × Nat × Nat) (w : mW)  : Option ((Int32 ⊕ String) × mW) := some (.inr "java/lang/IllegalArgumentException", w)
noncomputable def e_X6_write (t0 : Nat × Nat × Nat × Nat) (w : mW) (h : Nat) (p0 : Int32) (p1 : Int32) (p2 : Int32) (p3 : Int32) (p4 : Int32) (p5 : Int32) : Option ((Int32 ⊕ String) × mW) := m_t (e_X6_requireUser w p0) fun r4 w2 => m_g (m_kd w2 h = 10) <| m_t (e_X6_requireCell w2 h p1) fun r11 w9 => m_t (e_X6_requireName w9 p2) fun r17 w15 => if p3 < (0 : Int32) then (e_X6_write_26 t0 w15) else (if p3 ≤ 3 then (m_b (e_X6_isOperand w15 p4) fun r22 w23 => if r22 = (0 : Int32) then (e_X6_write_52 t0 w23) else (m_b (e_X6_isOperand w23 p5) fun r26 w27 => if r26 = (0 : Int32) then (e_X6_write_52 t0 w27) else (m_t (e_X6_requireRight w27 r11 p0 3) fun r33 w31 => m_g (m_kd w31 r11 = 5) <| m_o (m_fr w31 4 1 r11) fun r37 => m_g (m_kd w31 r37 = 3) <| m_b (e_Jx4a65c_size_8abf5 w31 r37) fun r39 w40 => if r39 < 6 then (m_g (m_kd w40 r11 = 5) <| m_o (m_fr w40 4 1 r11) fun r44 => m_l (m_nO w40 8) fun w45 => m_b (e_X5_init w45 (m_nx w40) p2 p3 p4 p5) fun r47 w48 => m_g (m_kd w48 r44 = 3) <| m_b (e_Jx4a65c_add_9ea2d t0 w48 r44 (m_nx w40)) fun r51 w52 => m_g (m_kd w52 h = 10) <| m_o (m_fr w52 9 2 h) fun r55 => m_g (m_kd w52 r55 = 3) <| m_b (e_Jx4a65c_size_8abf5 w52 r55) fun r57 w58 => m_g (m_kd w58 r11 = 5) <| m_l (m_sI w58 4 2 r11 r57) fun w61 => m_o (m_fr w61 4 1 r11) fun r62 => m_g (m_kd w61 r62 = 3) <| m_b (e_Jx4a65c_size_8abf5 w61 r62) fun r64 w65 => some (.inl r64, w65)) else (some (.inr "java/lang/IllegalStateException", w40))))) else (e_X6_write_26 t0 w15))
set_option maxHeartbeats 1000000 in
set_option maxRecDepth 100000 in
theorem c_X6_write (l : Launch) (hst : l.stackTraces = false) (G : m_G) (w w' : mW) (h : Nat) (p0 : Int32) (p1 : Int32) (p2 : Int32) (p3 : Int32) (p4 : Int32) (p5 : Int32) (o : Int32 ⊕ String) (hd : e_X6_write G.2.2.2 w h p0 p1 p2 p3 p4 p5 = some (o, w')) : vx_Met l yX6_write wsX6_write ({ frames := 9, cells := 6, slots := 628, locals := 211 } : Room) (m_Pc G w [.ref (h), .int (p0), .int (p1), .int (p2), .int (p3), .int (p4), .int (p5)]) (m_Xi G o w') (m_XC G o w') 6 628 (fun q => G.1 ≤ q) := by
  refine vx_ofW (cc := cX6_write) (maxL := 8) (ret := (some .int)) (by decide +kernel) rfl ?_
  intro p e s m args below meth c s₁ B hml hout hv
  obtain ⟨rfl, hM, hP⟩ := hv
  have hx := B.exec
  have hb := B.bytes
  have hr := B.returns
  have hts := atoms_spec (ws := wsX6_write) B.pre
  have hown : s.vm.findClass RX6 = some m.cls := findClass_of_methodNamed B.named
  have hlocks := B.notSynchronized
  have hin4 : ∀ w ∈ u_ws RX1 TX1 4, w ∈ wsX6_write := by decide +kernel
  have hin8 : ∀ w ∈ u_ws RX5 TX5 4, w ∈ wsX6_write := by decide +kernel
  have hin9 : ∀ w ∈ u_ws RX6 TX6 8, w ∈ wsX6_write := by decide +kernel
  have hS : va_S (fun q => G.1 ≤ q) s.heap s.heap [] := va_S.rf
  have J52 : ∀ (w : mW) (H : Heap) (locs : List Loc) (ls : Array Slot), e_X6_write_52 G.2.2.2 w = some (o, w') → mP G w H → va_S (fun q => G.1 ≤ q) s.heap H locs → lv_has ls 8 [] → W p l e ({ frames := 9, cells := 6, slots := 628, locals := 211 } : Room) s m ([.ref (h), .int (p0), .int (p1), .int (p2), .int (p3), .int (p4), .int (p5)] : List Value).toArray below meth c H locs 3 18 (vx_MQ below (m_Xi G o w') (m_XC G o w') ([.ref (h), .int (p0), .int (p1), .int (p2), .int (p3), .int (p4), .int (p5)] : List Value).toArray s 6 628 (fun q => G.1 ≤ q)) (F0 m 52 ls []) := by
    intro w H locs ls hd hP hS hl
    obtain ⟨e1, e2⟩ := m_s_e hd
    exact m_throwS (own := RX6) (E := "java/lang/IllegalArgumentException") (ik := 79) (is := 88) (ic := 83) (text := "no operand") (w := w) hx hb hst hown (hts (.classLink RX6 79 "java/lang/IllegalArgumentException") (by decide +kernel)) (hts (.initialized "java/lang/IllegalArgumentException") (by decide +kernel)) (m_hat (E := "java/lang/IllegalArgumentException") (fun w h => hts w ((by decide +kernel : ∀ w ∈ (vx_atS RX6 83 "java/lang/IllegalArgumentException" ["java/lang/RuntimeException", "java/lang/Exception"]).filter goodWord, w ∈ wsX6_write) w h)) (by decide +kernel) hM.2.1.2.1 (by decide)) (by decide +kernel) (by decide +kernel) (by decide) (by decide +kernel) ⟨rfl, by decide⟩ hM hP hS (hl.1.trans hml.symm) dX6_write_52 dX6_write_55 dX6_write_56 dX6_write_58 dX6_write_61 hout (Nat.le_of_ble_eq_true rfl) (Nat.le_of_ble_eq_true rfl) (Nat.le_of_ble_eq_true rfl) (Nat.le_of_ble_eq_true rfl) hlocks e1 e2 (Nat.le_of_ble_eq_true rfl) (Nat.le_of_ble_eq_true rfl)
  have J26 : ∀ (w : mW) (H : Heap) (locs : List Loc) (ls : Array Slot), e_X6_write_26 G.2.2.2 w = some (o, w') → mP G w H → va_S (fun q => G.1 ≤ q) s.heap H locs → lv_has ls 8 [] → W p l e ({ frames := 9, cells := 6, slots := 628, locals := 211 } : Room) s m ([.ref (h), .int (p0), .int (p1), .int (p2), .int (p3), .int (p4), .int (p5)] : List Value).toArray below meth c H locs 3 18 (vx_MQ below (m_Xi G o w') (m_XC G o w') ([.ref (h), .int (p0), .int (p1), .int (p2), .int (p3), .int (p4), .int (p5)] : List Value).toArray s 6 628 (fun q => G.1 ≤ q)) (F0 m 26 ls []) := by
    intro w H locs ls hd hP hS hl
    obtain ⟨e1, e2⟩ := m_s_e hd
    exact m_throwS (own := RX6) (E := "java/lang/IllegalArgumentException") (ik := 79) (is := 81) (ic := 83) (text := "no such operation") (w := w) hx hb hst hown (hts (.classLink RX6 79 "java/lang/IllegalArgumentException") (by decide +kernel)) (hts (.initialized "java/lang/IllegalArgumentException") (by decide +kernel)) (m_hat (E := "java/lang/IllegalArgumentException") (fun w h => hts w ((by decide +kernel : ∀ w ∈ (vx_atS RX6 83 "java/lang/IllegalArgumentException" ["java/lang/RuntimeException", "java/lang/Exception"]).filter goodWord, w ∈ wsX6_write) w h)) (by decide +kernel) hM.2.1.2.1 (by decide)) (by decide +kernel) (by decide +kernel) (by decide) (by decide +kernel) ⟨rfl, by decide⟩ hM hP hS (hl.1.trans hml.symm) dX6_write_26 dX6_write_29 dX6_write_30 dX6_write_32 dX6_write_35 hout (Nat.le_of_ble_eq_true rfl) (Nat.le_of_ble_eq_true rfl) (Nat.le_of_ble_eq_true rfl) (Nat.le_of_ble_eq_true rfl) hlocks e1 e2 (Nat.le_of_ble_eq_true rfl) (Nat.le_of_ble_eq_true rfl)
  have hl := lv_entry ([.ref (h), .int (p0), .int (p1), .int (p2), .int (p3), .int (p4), .int (p5)]) (n := 8) (Nat.le_of_ble_eq_true rfl)
  rw [lg_entry_eq]
  generalize (lg_sl ([.ref (h), .int (p0), .int (p1), .int (p2), .int (p3), .int (p4), .int (p5)]) ++ List.replicate (8 - (lg_sl ([.ref (h), .int (p0), .int (p1), .int (p2), .int (p3), .int (p4), .int (p5)])).length) Slot.unset).toArray = ls at hl ⊢
  have hl : lv_has ls 8 [(0, .ref (h)), (1, .int (p0)), (2, .int (p1)), (3, .int (p2)), (4, .int (p3)), (5, .int (p4)), (6, .int (p5))] := hl
  refine lv_iload_n hx hb dX6_write_0 rfl (lv_at hl 1 rfl) ?_
  obtain ⟨o1, w2, hc3, hx5, hd⟩ := m_t_e hd
  refine m_callxv (k := 1) (n := 6) (vx_runS (As := [.int (p0)]) (rest := []) ⟨hx, hb, hml, hown, hts⟩ (c_X6_requireUser l hst G w w2 p0 o1 hc3) (va_cwS 1 hts gX6_write_X6_requireUser rfl rfl rfl (by decide +kernel) ⟨(Nat.le_of_ble_eq_true rfl), (Nat.le_of_ble_eq_true rfl)⟩) (m_preS hM hP hS) rfl rfl hl.1 rfl (lv_room (Nat.le_of_ble_eq_true rfl)) dX6_write_1 ⟨(Nat.le_of_ble_eq_true rfl), (Nat.le_of_ble_eq_true rfl)⟩) hS ⟨⟨(Nat.le_of_ble_eq_true rfl), (Nat.le_of_ble_eq_true rfl)⟩, (Nat.le_of_ble_eq_true rfl), (Nat.le_of_ble_eq_true rfl)⟩ hout hlocks hx5 (fun r4 ho6 H locs hP hS => ?_)
  have hd := hd r4 ho6
  refine lv_aload_n hx hb dX6_write_4 rfl (lv_at hl 0 rfl) ?_
  refine lv_iload_n hx hb dX6_write_5 rfl (lv_at hl 2 rfl) ?_
  obtain ⟨hk7, hd⟩ := m_g_e hd
  obtain ⟨o8, w9, hc10, hx12, hd⟩ := m_t_e hd
  refine m_callxq (k := 2) (n := 12) (vx_runV (As := [.int (p1)]) (rest := []) ⟨hx, hb, hml, hown, hts⟩ (c_X6_requireCell l hst G w2 w9 h p1 o8 hc10) (cwV 1 hts gX6_write_X6_requireCell rfl rfl rfl (by decide +kernel) ⟨(Nat.le_of_ble_eq_true rfl), (Nat.le_of_ble_eq_true rfl)⟩) (m_preV (C := RX6) (T := TX6) (N := 8) hM hP hS rfl (by decide) hk7) rfl rfl hl.1 rfl (lv_room (Nat.le_of_ble_eq_true rfl)) dX6_write_6 ⟨(Nat.le_of_ble_eq_true rfl), (Nat.le_of_ble_eq_true rfl)⟩) hS ⟨⟨(Nat.le_of_ble_eq_true rfl), (Nat.le_of_ble_eq_true rfl)⟩, (Nat.le_of_ble_eq_true rfl), (Nat.le_of_ble_eq_true rfl)⟩ hout hlocks hx12 (fun r11 ho13 H locs hP hS => ?_)
  have hd := hd r11 ho13
  refine lv_astore (lv' := [(7, .ref (r11)), (0, .ref (h)), (1, .int (p0)), (2, .int (p1)), (3, .int (p2)), (4, .int (p3)), (5, .int (p4)), (6, .int (p5))]) hx hb dX6_write_9 hl (by decide) rfl (fun ls hl => ?_)
  refine lv_iload_n hx hb dX6_write_11 rfl (lv_at hl 4 rfl) ?_
  obtain ⟨o14, w15, hc16, hx18, hd⟩ := m_t_e hd
  refine m_callxv (k := 3) (n := 18) (vx_runS (As := [.int (p2)]) (rest := []) ⟨hx, hb, hml, hown, hts⟩ (c_X6_requireName l hst G w9 w15 p2 o14 hc16) (va_cwS 1 hts gX6_write_X6_requireName rfl rfl rfl (by decide +kernel) ⟨(Nat.le_of_ble_eq_true rfl), (Nat.le_of_ble_eq_true rfl)⟩) (m_preS hM hP hS) rfl rfl hl.1 rfl (lv_room (Nat.le_of_ble_eq_true rfl)) dX6_write_12 ⟨(Nat.le_of_ble_eq_true rfl), (Nat.le_of_ble_eq_true rfl)⟩) hS ⟨⟨(Nat.le_of_ble_eq_true rfl), (Nat.le_of_ble_eq_true rfl)⟩, (Nat.le_of_ble_eq_true rfl), (Nat.le_of_ble_eq_true rfl)⟩ hout hlocks hx18 (fun r17 ho19 H locs hP hS => ?_)
  have hd := hd r17 ho19
  refine lv_iload hx hb dX6_write_15 (lv_at hl 5 rfl) ?_
  refine lv_if_lt (tgt := 26) hx hb dX6_write_17 (by decide) (fun c20 => ?_) (fun c20 => ?_)
  · have hd := m_i_t c20 hd
    refine W.widen (k := 3) (n := 18) (Nat.le_of_ble_eq_true rfl) (Nat.le_of_ble_eq_true rfl) ?_
    exact J26 w15 _ _ _ hd hP hS (lv_sub hl [] rfl)
  · have hd := m_i_f c20 hd
    refine lv_iload hx hb dX6_write_20 (lv_at hl 5 rfl) ?_
    refine lv_iconst (v := 3) hx hb dX6_write_22 (by decide) ?_
    refine lv_icmp_le (tgt := 36) hx hb dX6_write_23 (by decide) (fun c21 => ?_) (fun c21 => ?_)
    · have hd := m_i_t c21 hd
      refine lv_iload hx hb dX6_write_36 (lv_at hl 6 rfl) ?_
      obtain ⟨r22, w23, hc24, hd⟩ := m_b_e hd
      refine m_calli (k := 3) (n := 18) (va_runS (As := [.int (p4)]) (rest := []) ⟨hx, hb, hml, hown, hts⟩ (c_X6_isOperand l G w15 w23 p4 r22 hc24) (va_cwS 1 hts gX6_write_X6_isOperand rfl rfl rfl (by decide +kernel) ⟨(Nat.le_of_ble_eq_true rfl), (Nat.le_of_ble_eq_true rfl)⟩) (m_preS hM hP hS) rfl rfl hl.1 rfl (lv_room (Nat.le_of_ble_eq_true rfl)) dX6_write_38 ⟨(Nat.le_of_ble_eq_true rfl), (Nat.le_of_ble_eq_true rfl)⟩) hS ⟨(Nat.le_of_ble_eq_true rfl), (Nat.le_of_ble_eq_true rfl)⟩ (fun H locs hP hS => ?_)
      refine lv_if_eq (tgt := 52) hx hb dX6_write_41 (by decide) (fun c25 => ?_) (fun c25 => ?_)
      · have hd := m_i_t c25 hd
        refine W.widen (k := 3) (n := 18) (Nat.le_of_ble_eq_true rfl) (Nat.le_of_ble_eq_true rfl) ?_
        exact J52 w23 _ _ _ hd hP hS (lv_sub hl [] rfl)
      · have hd := m_i_f c25 hd
        refine lv_iload hx hb dX6_write_44 (lv_at hl 7 rfl) ?_
        obtain ⟨r26, w27, hc28, hd⟩ := m_b_e hd
        refine m_calli (k := 3) (n := 18) (va_runS (As := [.int (p5)]) (rest := []) ⟨hx, hb, hml, hown, hts⟩ (c_X6_isOperand l G w23 w27 p5 r26 hc28) (va_cwS 1 hts gX6_write_X6_isOperand rfl rfl rfl (by decide +kernel) ⟨(Nat.le_of_ble_eq_true rfl), (Nat.le_of_ble_eq_true rfl)⟩) (m_preS hM hP hS) rfl rfl hl.1 rfl (lv_room (Nat.le_of_ble_eq_true rfl)) dX6_write_46 ⟨(Nat.le_of_ble_eq_true rfl), (Nat.le_of_ble_eq_true rfl)⟩) hS ⟨(Nat.le_of_ble_eq_true rfl), (Nat.le_of_ble_eq_true rfl)⟩ (fun H locs hP hS => ?_)
        refine lv_if_ne (tgt := 62) hx hb dX6_write_49 (by decide) (fun c29 => ?_) (fun c29 => ?_)
        · have hd := m_i_f c29 hd
          refine lv_aload hx hb dX6_write_62 (lv_at hl 0 rfl) ?_
          refine lv_iload_n hx hb dX6_write_64 rfl (lv_at hl 2 rfl) ?_
          refine lv_iconst (v := 3) hx hb dX6_write_65 (by decide) ?_
          obtain ⟨o30, w31, hc32, hx34, hd⟩ := m_t_e hd
          refine m_callxv (k := 4) (n := 24) (vx_runS (As := [.ref (r11), .int (p0), .int (3)]) (rest := []) ⟨hx, hb, hml, hown, hts⟩ (c_X6_requireRight l hst G w27 w31 r11 p0 3 o30 hc32) (va_cwS 3 hts gX6_write_X6_requireRight rfl rfl rfl (by decide +kernel) ⟨(Nat.le_of_ble_eq_true rfl), (Nat.le_of_ble_eq_true rfl)⟩) (m_preS hM hP hS) rfl rfl hl.1 rfl (lv_room (Nat.le_of_ble_eq_true rfl)) dX6_write_66 ⟨(Nat.le_of_ble_eq_true rfl), (Nat.le_of_ble_eq_true rfl)⟩) hS ⟨⟨(Nat.le_of_ble_eq_true rfl), (Nat.le_of_ble_eq_true rfl)⟩, (Nat.le_of_ble_eq_true rfl), (Nat.le_of_ble_eq_true rfl)⟩ hout hlocks hx34 (fun r33 ho35 H locs hP hS => ?_)
          have hd := hd r33 ho35
          refine lv_aload hx hb dX6_write_69 (lv_at hl 0 rfl) ?_
          obtain ⟨hk36, hd⟩ := m_g_e hd
          obtain ⟨r37, hr37, hd⟩ := m_o_e hd
          refine m_getR (C := RX1) (T := TX1) (N := 4) (own := RX6) (ref := RX1) hx hb hts hin4 hown hM.1 hP 4 rfl 1 (r := r37) ⟨hk36, hr37⟩ (by decide) (hts (.fieldLink RX6 94 "CellNotebook$Cell" "program" "Ljava/util/ArrayList;") (by decide +kernel)) (fun _ h9 => h9) dX6_write_71 ?_
          obtain ⟨hk38, hd⟩ := m_g_e hd
          obtain ⟨r39, w40, hc41, hd⟩ := m_b_e hd
          refine m_calli (k := 4) (n := 24) (va_runV (As := []) (rest := []) ⟨hx, hb, hml, hown, hts⟩ (c_Jx4a65c_size_8abf5 l G w31 w40 r37 r39 hc41) (cwV 0 hts gX6_write_Jx4a65c_size_8abf5 rfl rfl rfl (by decide +kernel) ⟨(Nat.le_of_ble_eq_true rfl), (Nat.le_of_ble_eq_true rfl)⟩) (m_preV (C := RJx4a65c) (T := TJx4a65c) (N := 3) hM hP hS rfl (by decide) hk38) rfl rfl hl.1 rfl (lv_room (Nat.le_of_ble_eq_true rfl)) dX6_write_74 ⟨(Nat.le_of_ble_eq_true rfl), (Nat.le_of_ble_eq_true rfl)⟩) hS ⟨(Nat.le_of_ble_eq_true rfl), (Nat.le_of_ble_eq_true rfl)⟩ (fun H locs hP hS => ?_)
          refine lv_bipush (v := 6) hx hb dX6_write_77 (by decide) ?_
          refine lv_icmp_lt (tgt := 92) hx hb dX6_write_79 (by decide) (fun c42 => ?_) (fun c42 => ?_)
          · have hd := m_i_t c42 hd
            refine lv_aload hx hb dX6_write_92 (lv_at hl 0 rfl) ?_
            obtain ⟨hk43, hd⟩ := m_g_e hd
            obtain ⟨r44, hr44, hd⟩ := m_o_e hd
            refine m_getR (C := RX1) (T := TX1) (N := 4) (own := RX6) (ref := RX1) hx hb hts hin4 hown hM.1 hP 4 rfl 1 (r := r44) ⟨hk43, hr44⟩ (by decide) (hts (.fieldLink RX6 94 "CellNotebook$Cell" "program" "Ljava/util/ArrayList;") (by decide +kernel)) (fun _ h9 => h9) dX6_write_94 ?_
            have hne0 : r11 ≠ m_nx w40 := m_ne hP hk43 (by decide)
            refine m_new (C := RX5) (T := TX5) (N := 4) (own := RX6) hx hb hts hin8 tyX5 tyX5_ok hown (hts (.classLink RX6 99 RX5) (by decide +kernel)) (hts (.instantiable RX5 4) (by decide +kernel)) (hts (.initialized RX5) (by decide +kernel)) hM.1 hP hS 8 rfl ⟨by decide, by decide, m_dfX5⟩ (Nat.le_of_ble_eq_true rfl) (Nat.le_of_ble_eq_true rfl) dX6_write_97 (fun H hP hS => ?_)
            obtain ⟨w45, ew, hd⟩ := m_l_e hd
            have hP : mP G w45 H := by rw [ew]; exact hP
            have hk43 : m_kd w45 r11 = 5 := by rw [ew]; exact m_nO_old hk43 hne0
            have hk46 : m_kd w45 (m_nx w40) = 9 := by rw [ew]; exact m_nO_new
            refine lv_dup hx hb dX6_write_100 rfl ?_
            refine lv_iload_n hx hb dX6_write_101 rfl (lv_at hl 4 rfl) ?_
            refine lv_iload hx hb dX6_write_102 (lv_at hl 5 rfl) ?_
            refine lv_iload hx hb dX6_write_104 (lv_at hl 6 rfl) ?_
            refine lv_iload hx hb dX6_write_106 (lv_at hl 7 rfl) ?_
            obtain ⟨r47, w48, hc49, hd⟩ := m_b_e hd
            refine m_callv (k := 5) (n := 28) (va_runI (As := [.int (p2), .int (p3), .int (p4), .int (p5)]) (rest := [.ref (m_nx w40), .ref (r44)]) ⟨hx, hb, hml, hown, hts⟩ (c_X5_init l G w45 w48 (m_nx w40) p2 p3 p4 p5 r47 hc49) (cwI 4 hts gX6_write_X5_init rfl rfl rfl (hts (.initialized RX5) (by decide +kernel)) (hts (.methodLink RX6 101 yX5_init) (by decide +kernel)) (hts (.instanceMethod yX5_init) (by decide +kernel)) rfl (by decide +kernel) ⟨(Nat.le_of_ble_eq_true rfl), (Nat.le_of_ble_eq_true rfl)⟩) (m_preS hM hP hS) rfl rfl hl.1 rfl (lv_room (Nat.le_of_ble_eq_true rfl)) dX6_write_108 ⟨(Nat.le_of_ble_eq_true rfl), (Nat.le_of_ble_eq_true rfl)⟩) hS ⟨(Nat.le_of_ble_eq_true rfl), (Nat.le_of_ble_eq_true rfl)⟩ (fun H locs hP hS => ?_)
            obtain ⟨hk50, hd⟩ := m_g_e hd
            obtain ⟨r51, w52, hc53, hd⟩ := m_b_e hd
            refine m_calli (k := 6) (n := 628) (va_runV (As := [.ref (m_nx w40)]) (rest := []) ⟨hx, hb, hml, hown, hts⟩ (c_Jx4a65c_add_9ea2d l G w48 w52 r44 (m_nx w40) r51 hc53) (cwV 1 hts gX6_write_Jx4a65c_add_9ea2d rfl rfl rfl (by decide +kernel) ⟨(Nat.le_of_ble_eq_true rfl), (Nat.le_of_ble_eq_true rfl)⟩) (m_preV (C := RJx4a65c) (T := TJx4a65c) (N := 3) hM hP hS rfl (by decide) hk50) rfl rfl hl.1 rfl (lv_room (Nat.le_of_ble_eq_true rfl)) dX6_write_111 ⟨(Nat.le_of_ble_eq_true rfl), (Nat.le_of_ble_eq_true rfl)⟩) hS ⟨(Nat.le_of_ble_eq_true rfl), (Nat.le_of_ble_eq_true rfl)⟩ (fun H locs hP hS => ?_)
            refine lv_pop hx hb dX6_write_114 rfl ?_
            refine lv_aload hx hb dX6_write_115 (lv_at hl 0 rfl) ?_
            refine lv_aload_n hx hb dX6_write_117 rfl (lv_at hl 1 rfl) ?_
            obtain ⟨hk54, hd⟩ := m_g_e hd
            obtain ⟨r55, hr55, hd⟩ := m_o_e hd
            refine m_getR (C := RX6) (T := TX6) (N := 8) (own := RX6) (ref := RX6) hx hb hts hin9 hown hM.1 hP 9 rfl 2 (r := r55) ⟨hk54, hr55⟩ (by decide) (hts (.fieldLink RX6 19 "CellNotebook" "allRuns" "Ljava/util/ArrayList;") (by decide +kernel)) (fun _ h9 => h9) dX6_write_118 ?_
            obtain ⟨hk56, hd⟩ := m_g_e hd
            obtain ⟨r57, w58, hc59, hd⟩ := m_b_e hd
            refine m_calli (k := 6) (n := 628) (va_runV (As := []) (rest := [.ref (r11)]) ⟨hx, hb, hml, hown, hts⟩ (c_Jx4a65c_size_8abf5 l G w52 w58 r55 r57 hc59) (cwV 0 hts gX6_write_Jx4a65c_size_8abf5 rfl rfl rfl (by decide +kernel) ⟨(Nat.le_of_ble_eq_true rfl), (Nat.le_of_ble_eq_true rfl)⟩) (m_preV (C := RJx4a65c) (T := TJx4a65c) (N := 3) hM hP hS rfl (by decide) hk56) rfl rfl hl.1 rfl (lv_room (Nat.le_of_ble_eq_true rfl)) dX6_write_121 ⟨(Nat.le_of_ble_eq_true rfl), (Nat.le_of_ble_eq_true rfl)⟩) hS ⟨(Nat.le_of_ble_eq_true rfl), (Nat.le_of_ble_eq_true rfl)⟩ (fun H locs hP hS => ?_)
            obtain ⟨hk60, hd⟩ := m_g_e hd
            refine m_putI (C := RX1) (T := TX1) (N := 4) (own := RX6) (ref := RX1) hx hb hts hin4 tyX1 tyX1_ok nmX1 hown hM.1 hP hS 4 rfl 2 hk60 (by decide) (hts (.fieldLink RX6 104 "CellNotebook$Cell" "runsAtChange" "I") (by decide +kernel)) (fun _ h9 => h9) (Or.inl rfl) (ty := .int) rfl ⟨rfl, rfl⟩ dX6_write_124 (fun H locs hP hS => ?_)
            obtain ⟨w61, ew, hd⟩ := m_l_e hd
            have hP : mP G w61 H := by rw [ew]; exact hP
            have hk60 : m_kd w61 r11 = 5 := by rw [ew]; exact hk60
            refine lv_aload hx hb dX6_write_127 (lv_at hl 0 rfl) ?_
            obtain ⟨r62, hr62, hd⟩ := m_o_e hd
            refine m_getR (C := RX1) (T := TX1) (N := 4) (own := RX6) (ref := RX1) hx hb hts hin4 hown hM.1 hP 4 rfl 1 (r := r62) ⟨hk60, hr62⟩ (by decide) (hts (.fieldLink RX6 94 "CellNotebook$Cell" "program" "Ljava/util/ArrayList;") (by decide +kernel)) (fun _ h9 => h9) dX6_write_129 ?_
            obtain ⟨hk63, hd⟩ := m_g_e hd
            obtain ⟨r64, w65, hc66, hd⟩ := m_b_e hd
            refine m_calli (k := 6) (n := 628) (va_runV (As := []) (rest := []) ⟨hx, hb, hml, hown, hts⟩ (c_Jx4a65c_size_8abf5 l G w61 w65 r62 r64 hc66) (cwV 0 hts gX6_write_Jx4a65c_size_8abf5 rfl rfl rfl (by decide +kernel) ⟨(Nat.le_of_ble_eq_true rfl), (Nat.le_of_ble_eq_true rfl)⟩) (m_preV (C := RJx4a65c) (T := TJx4a65c) (N := 3) hM hP hS rfl (by decide) hk63) rfl rfl hl.1 rfl (lv_room (Nat.le_of_ble_eq_true rfl)) dX6_write_132 ⟨(Nat.le_of_ble_eq_true rfl), (Nat.le_of_ble_eq_true rfl)⟩) hS ⟨(Nat.le_of_ble_eq_true rfl), (Nat.le_of_ble_eq_true rfl)⟩ (fun H locs hP hS => ?_)
            obtain ⟨e1, e2⟩ := m_s_e hd
            refine vx_ret ?_
            refine W.widen (k := 6) (n := 628) (Nat.le_of_ble_eq_true rfl) (Nat.le_of_ble_eq_true rfl) ?_
            exact W.iret hx hb hr (fun t ht hW => ⟨⟨_, w65, rfl, ⟨e1, e2⟩, by show mP _ _ t.heap; rw [ht]; exact hP⟩, hS.F ht⟩) hS.2.2 dX6_write_135
          · have hd := m_i_f c42 hd
            obtain ⟨e1, e2⟩ := m_s_e hd
            exact m_throwS (own := RX6) (E := "java/lang/IllegalStateException") (ik := 53) (is := 97) (ic := 57) (text := "the program has 6 statements") (w := w40) hx hb hst hown (hts (.classLink RX6 53 "java/lang/IllegalStateException") (by decide +kernel)) (hts (.initialized "java/lang/IllegalStateException") (by decide +kernel)) (m_hat (E := "java/lang/IllegalStateException") (fun w h => hts w ((by decide +kernel : ∀ w ∈ (vx_atS RX6 57 "java/lang/IllegalStateException" ["java/lang/RuntimeException", "java/lang/Exception"]).filter goodWord, w ∈ wsX6_write) w h)) (by decide +kernel) hM.2.1.2.1 (by decide)) (by decide +kernel) (by decide +kernel) (by decide) (by decide +kernel) ⟨rfl, by decide⟩ hM hP hS (hl.1.trans hml.symm) dX6_write_82 dX6_write_85 dX6_write_86 dX6_write_88 dX6_write_91 hout (Nat.le_of_ble_eq_true rfl) (Nat.le_of_ble_eq_true rfl) (Nat.le_of_ble_eq_true rfl) (Nat.le_of_ble_eq_true rfl) hlocks e1 e2 (Nat.le_of_ble_eq_true rfl) (Nat.le_of_ble_eq_true rfl)
        · have hd := m_i_t c29 hd
          refine W.widen (k := 3) (n := 18) (Nat.le_of_ble_eq_true rfl) (Nat.le_of_ble_eq_true rfl) ?_
          exact J52 w27 _ _ _ hd hP hS (lv_sub hl [] rfl)
    · have hd := m_i_f c21 hd
      refine W.widen (k := 3) (n := 18) (Nat.le_of_ble_eq_true rfl) (Nat.le_of_ble_eq_true rfl) ?_
      exact J26 w15 _ _ _ hd hP hS (lv_sub hl [] rfl)


noncomputable def e_X6_clear_48 (w : mW) (x4 : Int32) : Option ((Int32 ⊕ String) × mW) := some (.inl x4, w)
noncomputable def e_X6_clear (w : mW) (h : Nat) (p0 : Int32) (p1 : Int32) : Option ((Int32 ⊕ String) × mW) := m_t (e_X6_requireUser w p0) fun r4 w2 => m_g (m_kd w2 h = 10) <| m_t (e_X6_requireCell w2 h p1) fun r11 w9 => m_t (e_X6_requireRight w9 r11 p0 3) fun r17 w15 => m_g (m_kd w15 r11 = 5) <| m_o (m_fr w15 4 1 r11) fun r21 => m_g (m_kd w15 r21 = 3) <| m_b (e_Jx4a65c_size_8abf5 w15 r21) fun r23 w24 => if r23 ≤ (0 : Int32) then (e_X6_clear_48 w24 r23) else (m_g (m_kd w24 r11 = 5) <| m_o (m_fr w24 4 1 r11) fun r28 => m_g (m_kd w24 r28 = 3) <| m_b (e_Jx4a65c_clear_da8c8 w24 r28) fun r30 w31 => m_g (m_kd w31 h = 10) <| m_o (m_fr w31 9 2 h) fun r34 => m_g (m_kd w31 r34 = 3) <| m_b (e_Jx4a65c_size_8abf5 w31 r34) fun r36 w37 => m_g (m_kd w37 r11 = 5) <| m_l (m_sI w37 4 2 r11 r36) fun w40 => e_X6_clear_48 w40 r23)
set_option maxHeartbeats 1000000 in
set_option maxRecDepth 100000 in
theorem c_X6_clear (l : Launch) (hst : l.stackTraces = false) (G : m_G) (w w' : mW) (h : Nat) (p0 : Int32) (p1 : Int32) (o : Int32 ⊕ String) (hd : e_X6_clear w h p0 p1 = some (o, w')) : vx_Met l yX6_clear wsX6_clear ({ frames := 9, cells := 3, slots := 18, locals := 162 } : Room) (m_Pc G w [.ref (h), .int (p0), .int (p1)]) (m_Xi G o w') (m_XC G o w') 3 18 (fun q => G.1 ≤ q) := by
  refine vx_ofW (cc := cX6_clear) (maxL := 5) (ret := (some .int)) (by decide +kernel) rfl ?_
  intro p e s m args below meth c s₁ B hml hout hv
  obtain ⟨rfl, hM, hP⟩ := hv
  have hx := B.exec
  have hb := B.bytes
  have hr := B.returns
  have hts := atoms_spec (ws := wsX6_clear) B.pre
  have hown : s.vm.findClass RX6 = some m.cls := findClass_of_methodNamed B.named
  have hlocks := B.notSynchronized
  have hin4 : ∀ w ∈ u_ws RX1 TX1 4, w ∈ wsX6_clear := by decide +kernel
  have hin9 : ∀ w ∈ u_ws RX6 TX6 8, w ∈ wsX6_clear := by decide +kernel
  have hS : va_S (fun q => G.1 ≤ q) s.heap s.heap [] := va_S.rf
  have J48 : ∀ (w : mW) (x4 : Int32) (H : Heap) (locs : List Loc) (ls : Array Slot), e_X6_clear_48 w x4 = some (o, w') → mP G w H → va_S (fun q => G.1 ≤ q) s.heap H locs → lv_has ls 5 [(4, .int (x4))] → W p l e ({ frames := 9, cells := 3, slots := 18, locals := 162 } : Room) s m ([.ref (h), .int (p0), .int (p1)] : List Value).toArray below meth c H locs 3 18 (vx_MQ below (m_Xi G o w') (m_XC G o w') ([.ref (h), .int (p0), .int (p1)] : List Value).toArray s 3 18 (fun q => G.1 ≤ q)) (F0 m 48 ls []) := by
    intro w x4 H locs ls hd hP hS hl
    refine lv_iload hx hb dX6_clear_48 (lv_at hl 0 rfl) ?_
    obtain ⟨e1, e2⟩ := m_s_e hd
    refine vx_ret ?_
    refine W.widen (k := 3) (n := 18) (Nat.le_of_ble_eq_true rfl) (Nat.le_of_ble_eq_true rfl) ?_
    exact W.iret hx hb hr (fun t ht hW => ⟨⟨_, w, rfl, ⟨e1, e2⟩, by show mP _ _ t.heap; rw [ht]; exact hP⟩, hS.F ht⟩) hS.2.2 dX6_clear_50
  have hl := lv_entry ([.ref (h), .int (p0), .int (p1)]) (n := 5) (Nat.le_of_ble_eq_true rfl)
  rw [lg_entry_eq]
  generalize (lg_sl ([.ref (h), .int (p0), .int (p1)]) ++ List.replicate (5 - (lg_sl ([.ref (h), .int (p0), .int (p1)])).length) Slot.unset).toArray = ls at hl ⊢
  have hl : lv_has ls 5 [(0, .ref (h)), (1, .int (p0)), (2, .int (p1))] := hl
  refine lv_iload_n hx hb dX6_clear_0 rfl (lv_at hl 1 rfl) ?_
  obtain ⟨o1, w2, hc3, hx5, hd⟩ := m_t_e hd
  refine m_callxv (k := 1) (n := 6) (vx_runS (As := [.int (p0)]) (rest := []) ⟨hx, hb, hml, hown, hts⟩ (c_X6_requireUser l hst G w w2 p0 o1 hc3) (va_cwS 1 hts gX6_clear_X6_requireUser rfl rfl rfl (by decide +kernel) ⟨(Nat.le_of_ble_eq_true rfl), (Nat.le_of_ble_eq_true rfl)⟩) (m_preS hM hP hS) rfl rfl hl.1 rfl (lv_room (Nat.le_of_ble_eq_true rfl)) dX6_clear_1 ⟨(Nat.le_of_ble_eq_true rfl), (Nat.le_of_ble_eq_true rfl)⟩) hS ⟨⟨(Nat.le_of_ble_eq_true rfl), (Nat.le_of_ble_eq_true rfl)⟩, (Nat.le_of_ble_eq_true rfl), (Nat.le_of_ble_eq_true rfl)⟩ hout hlocks hx5 (fun r4 ho6 H locs hP hS => ?_)
  have hd := hd r4 ho6
  refine lv_aload_n hx hb dX6_clear_4 rfl (lv_at hl 0 rfl) ?_
  refine lv_iload_n hx hb dX6_clear_5 rfl (lv_at hl 2 rfl) ?_
  obtain ⟨hk7, hd⟩ := m_g_e hd
  obtain ⟨o8, w9, hc10, hx12, hd⟩ := m_t_e hd
  refine m_callxq (k := 2) (n := 12) (vx_runV (As := [.int (p1)]) (rest := []) ⟨hx, hb, hml, hown, hts⟩ (c_X6_requireCell l hst G w2 w9 h p1 o8 hc10) (cwV 1 hts gX6_clear_X6_requireCell rfl rfl rfl (by decide +kernel) ⟨(Nat.le_of_ble_eq_true rfl), (Nat.le_of_ble_eq_true rfl)⟩) (m_preV (C := RX6) (T := TX6) (N := 8) hM hP hS rfl (by decide) hk7) rfl rfl hl.1 rfl (lv_room (Nat.le_of_ble_eq_true rfl)) dX6_clear_6 ⟨(Nat.le_of_ble_eq_true rfl), (Nat.le_of_ble_eq_true rfl)⟩) hS ⟨⟨(Nat.le_of_ble_eq_true rfl), (Nat.le_of_ble_eq_true rfl)⟩, (Nat.le_of_ble_eq_true rfl), (Nat.le_of_ble_eq_true rfl)⟩ hout hlocks hx12 (fun r11 ho13 H locs hP hS => ?_)
  have hd := hd r11 ho13
  refine lv_astore_n (lv' := [(3, .ref (r11)), (0, .ref (h)), (1, .int (p0)), (2, .int (p1))]) hx hb dX6_clear_9 rfl hl (by decide) rfl (fun ls hl => ?_)
  refine lv_aload_n hx hb dX6_clear_10 rfl (lv_at hl 0 rfl) ?_
  refine lv_iload_n hx hb dX6_clear_11 rfl (lv_at hl 2 rfl) ?_
  refine lv_iconst (v := 3) hx hb dX6_clear_12 (by decide) ?_
  obtain ⟨o14, w15, hc16, hx18, hd⟩ := m_t_e hd
  refine m_callxv (k := 3) (n := 18) (vx_runS (As := [.ref (r11), .int (p0), .int (3)]) (rest := []) ⟨hx, hb, hml, hown, hts⟩ (c_X6_requireRight l hst G w9 w15 r11 p0 3 o14 hc16) (va_cwS 3 hts gX6_clear_X6_requireRight rfl rfl rfl (by decide +kernel) ⟨(Nat.le_of_ble_eq_true rfl), (Nat.le_of_ble_eq_true rfl)⟩) (m_preS hM hP hS) rfl rfl hl.1 rfl (lv_room (Nat.le_of_ble_eq_true rfl)) dX6_clear_13 ⟨(Nat.le_of_ble_eq_true rfl), (Nat.le_of_ble_eq_true rfl)⟩) hS ⟨⟨(Nat.le_of_ble_eq_true rfl), (Nat.le_of_ble_eq_true rfl)⟩, (Nat.le_of_ble_eq_true rfl), (Nat.le_of_ble_eq_true rfl)⟩ hout hlocks hx18 (fun r17 ho19 H locs hP hS => ?_)
  have hd := hd r17 ho19
  refine lv_aload_n hx hb dX6_clear_16 rfl (lv_at hl 0 rfl) ?_
  obtain ⟨hk20, hd⟩ := m_g_e hd
  obtain ⟨r21, hr21, hd⟩ := m_o_e hd
  refine m_getR (C := RX1) (T := TX1) (N := 4) (own := RX6) (ref := RX1) hx hb hts hin4 hown hM.1 hP 4 rfl 1 (r := r21) ⟨hk20, hr21⟩ (by decide) (hts (.fieldLink RX6 94 "CellNotebook$Cell" "program" "Ljava/util/ArrayList;") (by decide +kernel)) (fun _ h9 => h9) dX6_clear_17 ?_
  obtain ⟨hk22, hd⟩ := m_g_e hd
  obtain ⟨r23, w24, hc25, hd⟩ := m_b_e hd
  refine m_calli (k := 3) (n := 18) (va_runV (As := []) (rest := []) ⟨hx, hb, hml, hown, hts⟩ (c_Jx4a65c_size_8abf5 l G w15 w24 r21 r23 hc25) (cwV 0 hts gX6_clear_Jx4a65c_size_8abf5 rfl rfl rfl (by decide +kernel) ⟨(Nat.le_of_ble_eq_true rfl), (Nat.le_of_ble_eq_true rfl)⟩) (m_preV (C := RJx4a65c) (T := TJx4a65c) (N := 3) hM hP hS rfl (by decide) hk22) rfl rfl hl.1 rfl (lv_room (Nat.le_of_ble_eq_true rfl)) dX6_clear_20 ⟨(Nat.le_of_ble_eq_true rfl), (Nat.le_of_ble_eq_true rfl)⟩) hS ⟨(Nat.le_of_ble_eq_true rfl), (Nat.le_of_ble_eq_true rfl)⟩ (fun H locs hP hS => ?_)
  refine lv_istore (lv' := [(4, .int (r23)), (3, .ref (r11)), (0, .ref (h)), (1, .int (p0)), (2, .int (p1))]) hx hb dX6_clear_23 hl (by decide) rfl (fun ls hl => ?_)
  refine lv_iload hx hb dX6_clear_25 (lv_at hl 0 rfl) ?_
  refine lv_if_le (tgt := 48) hx hb dX6_clear_27 (by decide) (fun c26 => ?_) (fun c26 => ?_)
  · have hd := m_i_t c26 hd
    refine W.widen (k := 3) (n := 18) (Nat.le_of_ble_eq_true rfl) (Nat.le_of_ble_eq_true rfl) ?_
    exact J48 w24 r23 _ _ _ hd hP hS (lv_sub hl [0] rfl)
  · have hd := m_i_f c26 hd
    refine lv_aload_n hx hb dX6_clear_30 rfl (lv_at hl 1 rfl) ?_
    obtain ⟨hk27, hd⟩ := m_g_e hd
    obtain ⟨r28, hr28, hd⟩ := m_o_e hd
    refine m_getR (C := RX1) (T := TX1) (N := 4) (own := RX6) (ref := RX1) hx hb hts hin4 hown hM.1 hP 4 rfl 1 (r := r28) ⟨hk27, hr28⟩ (by decide) (hts (.fieldLink RX6 94 "CellNotebook$Cell" "program" "Ljava/util/ArrayList;") (by decide +kernel)) (fun _ h9 => h9) dX6_clear_31 ?_
    obtain ⟨hk29, hd⟩ := m_g_e hd
    obtain ⟨r30, w31, hc32, hd⟩ := m_b_e hd
    refine m_callv (k := 3) (n := 18) (va_runV (As := []) (rest := []) ⟨hx, hb, hml, hown, hts⟩ (c_Jx4a65c_clear_da8c8 l G w24 w31 r28 r30 hc32) (cwV 0 hts gX6_clear_Jx4a65c_clear_da8c8 rfl rfl rfl (by decide +kernel) ⟨(Nat.le_of_ble_eq_true rfl), (Nat.le_of_ble_eq_true rfl)⟩) (m_preV (C := RJx4a65c) (T := TJx4a65c) (N := 3) hM hP hS rfl (by decide) hk29) rfl rfl hl.1 rfl (lv_room (Nat.le_of_ble_eq_true rfl)) dX6_clear_34 ⟨(Nat.le_of_ble_eq_true rfl), (Nat.le_of_ble_eq_true rfl)⟩) hS ⟨(Nat.le_of_ble_eq_true rfl), (Nat.le_of_ble_eq_true rfl)⟩ (fun H locs hP hS => ?_)
    refine lv_aload_n hx hb dX6_clear_37 rfl (lv_at hl 1 rfl) ?_
    refine lv_aload_n hx hb dX6_clear_38 rfl (lv_at hl 2 rfl) ?_
    obtain ⟨hk33, hd⟩ := m_g_e hd
    obtain ⟨r34, hr34, hd⟩ := m_o_e hd
    refine m_getR (C := RX6) (T := TX6) (N := 8) (own := RX6) (ref := RX6) hx hb hts hin9 hown hM.1 hP 9 rfl 2 (r := r34) ⟨hk33, hr34⟩ (by decide) (hts (.fieldLink RX6 19 "CellNotebook" "allRuns" "Ljava/util/ArrayList;") (by decide +kernel)) (fun _ h9 => h9) dX6_clear_39 ?_
    obtain ⟨hk35, hd⟩ := m_g_e hd
    obtain ⟨r36, w37, hc38, hd⟩ := m_b_e hd
    refine m_calli (k := 3) (n := 18) (va_runV (As := []) (rest := [.ref (r11)]) ⟨hx, hb, hml, hown, hts⟩ (c_Jx4a65c_size_8abf5 l G w31 w37 r34 r36 hc38) (cwV 0 hts gX6_clear_Jx4a65c_size_8abf5 rfl rfl rfl (by decide +kernel) ⟨(Nat.le_of_ble_eq_true rfl), (Nat.le_of_ble_eq_true rfl)⟩) (m_preV (C := RJx4a65c) (T := TJx4a65c) (N := 3) hM hP hS rfl (by decide) hk35) rfl rfl hl.1 rfl (lv_room (Nat.le_of_ble_eq_true rfl)) dX6_clear_42 ⟨(Nat.le_of_ble_eq_true rfl), (Nat.le_of_ble_eq_true rfl)⟩) hS ⟨(Nat.le_of_ble_eq_true rfl), (Nat.le_of_ble_eq_true rfl)⟩ (fun H locs hP hS => ?_)
    obtain ⟨hk39, hd⟩ := m_g_e hd
    refine m_putI (C := RX1) (T := TX1) (N := 4) (own := RX6) (ref := RX1) hx hb hts hin4 tyX1 tyX1_ok nmX1 hown hM.1 hP hS 4 rfl 2 hk39 (by decide) (hts (.fieldLink RX6 104 "CellNotebook$Cell" "runsAtChange" "I") (by decide +kernel)) (fun _ h9 => h9) (Or.inl rfl) (ty := .int) rfl ⟨rfl, rfl⟩ dX6_clear_45 (fun H locs hP hS => ?_)
    obtain ⟨w40, ew, hd⟩ := m_l_e hd
    have hP : mP G w40 H := by rw [ew]; exact hP
    have hk39 : m_kd w40 r11 = 5 := by rw [ew]; exact hk39
    refine W.widen (k := 3) (n := 18) (Nat.le_of_ble_eq_true rfl) (Nat.le_of_ble_eq_true rfl) ?_
    exact J48 w40 r23 _ _ _ hd hP hS (lv_sub hl [0] rfl)


noncomputable def e_X6_requirePlace_15 (w : mW)  : Option ((Unit ⊕ String) × mW) := some (.inr "java/lang/IndexOutOfBoundsException", w)
noncomputable def e_X6_requirePlace (w : mW) (h : Nat) (p0 : Int32) : Option ((Unit ⊕ String) × mW) := if p0 < (0 : Int32) then (e_X6_requirePlace_15 w) else (m_g (m_kd w h = 10) <| m_o (m_fr w 9 1 h) fun r3 => m_g (m_kd w r3 = 3) <| m_b (e_Jx4a65c_size_8abf5 w r3) fun r5 w6 => if p0 < r5 then (some (.inl (), w6)) else (e_X6_requirePlace_15 w6))
set_option maxHeartbeats 1000000 in
set_option maxRecDepth 100000 in
theorem c_X6_requirePlace (l : Launch) (hst : l.stackTraces = false) (G : m_G) (w w' : mW) (h : Nat) (p0 : Int32) (o : Unit ⊕ String) (hd : e_X6_requirePlace w h p0 = some (o, w')) : vx_Met l yX6_requirePlace wsX6_requirePlace ({ frames := 8, cells := 1, slots := 6, locals := 140 } : Room) (m_Pc G w [.ref (h), .int (p0)]) (m_Xv G o w') (m_XC G o w') 1 6 (fun q => G.1 ≤ q) := by
  refine vx_ofW (cc := cX6_requirePlace) (maxL := 2) (ret := none) (by decide +kernel) rfl ?_
  intro p e s m args below meth c s₁ B hml hout hv
  obtain ⟨rfl, hM, hP⟩ := hv
  have hx := B.exec
  have hb := B.bytes
  have hr := B.returns
  have hts := atoms_spec (ws := wsX6_requirePlace) B.pre
  have hown : s.vm.findClass RX6 = some m.cls := findClass_of_methodNamed B.named
  have hlocks := B.notSynchronized
  have hin9 : ∀ w ∈ u_ws RX6 TX6 8, w ∈ wsX6_requirePlace := by decide +kernel
  have hS : va_S (fun q => G.1 ≤ q) s.heap s.heap [] := va_S.rf
  have J15 : ∀ (w : mW) (H : Heap) (locs : List Loc) (ls : Array Slot), e_X6_requirePlace_15 w = some (o, w') → mP G w H → va_S (fun q => G.1 ≤ q) s.heap H locs → lv_has ls 2 [] → W p l e ({ frames := 8, cells := 1, slots := 6, locals := 140 } : Room) s m ([.ref (h), .int (p0)] : List Value).toArray below meth c H locs 0 0 (vx_MQ below (m_Xv G o w') (m_XC G o w') ([.ref (h), .int (p0)] : List Value).toArray s 1 6 (fun q => G.1 ≤ q)) (F0 m 15 ls []) := by
    intro w H locs ls hd hP hS hl
    obtain ⟨e1, e2⟩ := m_s_e hd
    exact m_throwW (own := RX6) (E := "java/lang/IndexOutOfBoundsException") (ik := 140) (is := 264) (ic := 144) (text := "no such place in the order") (w := w) hx hb hst hown (hts (.classLink RX6 140 "java/lang/IndexOutOfBoundsException") (by decide +kernel)) (hts (.initialized "java/lang/IndexOutOfBoundsException") (by decide +kernel)) (m_hat (E := "java/lang/IndexOutOfBoundsException") (fun w h => hts w ((by decide +kernel : ∀ w ∈ (vx_atS RX6 144 "java/lang/IndexOutOfBoundsException" ["java/lang/RuntimeException", "java/lang/Exception"]).filter goodWord, w ∈ wsX6_requirePlace) w h)) (by decide +kernel) hM.2.1.2.1 (by decide)) (by decide +kernel) (by decide +kernel) (by decide) (by decide +kernel) ⟨rfl, by decide⟩ hM hP hS (hl.1.trans hml.symm) dX6_requirePlace_15 dX6_requirePlace_18 dX6_requirePlace_19 dX6_requirePlace_22 dX6_requirePlace_25 hout (Nat.le_of_ble_eq_true rfl) (Nat.le_of_ble_eq_true rfl) (Nat.le_of_ble_eq_true rfl) (Nat.le_of_ble_eq_true rfl) hlocks e1 e2 (Nat.le_of_ble_eq_true rfl) (Nat.le_of_ble_eq_true rfl)
  have hl := lv_entry ([.ref (h), .int (p0)]) (n := 2) (Nat.le_of_ble_eq_true rfl)
  rw [lg_entry_eq]
  generalize (lg_sl ([.ref (h), .int (p0)]) ++ List.replicate (2 - (lg_sl ([.ref (h), .int (p0)])).length) Slot.unset).toArray = ls at hl ⊢
  have hl : lv_has ls 2 [(0, .ref (h)), (1, .int (p0))] := hl
  refine lv_iload_n hx hb dX6_requirePlace_0 rfl (lv_at hl 1 rfl) ?_
  refine lv_if_lt (tgt := 15) hx hb dX6_requirePlace_1 (by decide) (fun c1 => ?_) (fun c1 => ?_)
  · have hd := m_i_t c1 hd
    refine W.widen (k := 0) (n := 0) (Nat.le_of_ble_eq_true rfl) (Nat.le_of_ble_eq_true rfl) ?_
    exact J15 w _ _ _ hd hP hS (lv_sub hl [] rfl)
  · have hd := m_i_f c1 hd
    refine lv_iload_n hx hb dX6_requirePlace_4 rfl (lv_at hl 1 rfl) ?_
    refine lv_aload_n hx hb dX6_requirePlace_5 rfl (lv_at hl 0 rfl) ?_
    obtain ⟨hk2, hd⟩ := m_g_e hd
    obtain ⟨r3, hr3, hd⟩ := m_o_e hd
    refine m_getR (C := RX6) (T := TX6) (N := 8) (own := RX6) (ref := RX6) hx hb hts hin9 hown hM.1 hP 9 rfl 1 (r := r3) ⟨hk2, hr3⟩ (by decide) (hts (.fieldLink RX6 16 "CellNotebook" "order" "Ljava/util/ArrayList;") (by decide +kernel)) (fun _ h9 => h9) dX6_requirePlace_6 ?_
    obtain ⟨hk4, hd⟩ := m_g_e hd
    obtain ⟨r5, w6, hc7, hd⟩ := m_b_e hd
    refine m_calli (k := 0) (n := 0) (va_runV (As := []) (rest := [.int (p0)]) ⟨hx, hb, hml, hown, hts⟩ (c_Jx4a65c_size_8abf5 l G w w6 r3 r5 hc7) (cwV 0 hts gX6_requirePlace_Jx4a65c_size_8abf5 rfl rfl rfl (by decide +kernel) ⟨(Nat.le_of_ble_eq_true rfl), (Nat.le_of_ble_eq_true rfl)⟩) (m_preV (C := RJx4a65c) (T := TJx4a65c) (N := 3) hM hP hS rfl (by decide) hk4) rfl rfl hl.1 rfl (lv_room (Nat.le_of_ble_eq_true rfl)) dX6_requirePlace_9 ⟨(Nat.le_of_ble_eq_true rfl), (Nat.le_of_ble_eq_true rfl)⟩) hS ⟨(Nat.le_of_ble_eq_true rfl), (Nat.le_of_ble_eq_true rfl)⟩ (fun H locs hP hS => ?_)
    refine lv_icmp_lt (tgt := 26) hx hb dX6_requirePlace_12 (by decide) (fun c8 => ?_) (fun c8 => ?_)
    · have hd := m_i_t c8 hd
      obtain ⟨e1, e2⟩ := m_s_e hd
      refine vx_ret ?_
      refine W.widen (k := 1) (n := 6) (Nat.le_of_ble_eq_true rfl) (Nat.le_of_ble_eq_true rfl) ?_
      exact W.vret hx hb hr (fun t ht hW => ⟨⟨w6, rfl, ⟨e1, e2⟩, by show mP _ _ t.heap; rw [ht]; exact hP⟩, hS.F ht⟩) hS.2.2 dX6_requirePlace_26
    · have hd := m_i_f c8 hd
      refine W.widen (k := 0) (n := 0) (Nat.le_of_ble_eq_true rfl) (Nat.le_of_ble_eq_true rfl) ?_
      exact J15 w6 _ _ _ hd hP hS (lv_sub hl [] rfl)


noncomputable def e_X6_placeOf_33 (w : mW) (x2 : Int32) : Option (Int32 × mW) := some (x2, w)
noncomputable def e_X6_placeOf_2_b (k2 : mW → Nat → Nat → Int32 → Option (Int32 × mW)) (w : mW) (x0 : Nat) (x1 : Nat) (x2 : Int32) : Option (Int32 × mW) := m_g (m_kd w x0 = 10) <| m_o (m_fr w 9 1 x0) fun r102 => m_g (m_kd w r102 = 3) <| m_b (e_Jx4a65c_size_8abf5 w r102) fun r104 w105 => if (r104 - 1) ≤ x2 then (e_X6_placeOf_33 w105 x2) else (m_g (m_kd w105 x0 = 10) <| m_o (m_fr w105 9 1 x0) fun r109 => m_g (m_kd w105 r109 = 3) <| m_b (e_Jx4a65c_get_915e3 w105 r109 x2) fun r111 w112 => if (some r111 : Option Nat) = some x1 then (e_X6_placeOf_33 w112 x2) else (k2 w112 x0 x1 (x2 + 1)))
noncomputable def e_X6_placeOf_2 (n : Nat) : mW → Nat → Nat → Int32 → Option (Int32 × mW) := Nat.rec (motive := fun _ => mW → Nat → Nat → Int32 → Option (Int32 × mW)) (fun _ _ _ _ => none) (fun _ k => e_X6_placeOf_2_b  k) n
noncomputable def e_X6_placeOf (w : mW) (h : Nat) (p0 : Nat) : Option (Int32 × mW) := e_X6_placeOf_2 m_N w h p0 0
set_option maxHeartbeats 1000000 in
set_option maxRecDepth 100000 in
theorem c_X6_placeOf (l : Launch) (G : m_G) (w w' : mW) (h : Nat) (p0 : Nat) (r : Int32) (hd : e_X6_placeOf w h p0 = some (r, w')) : Met l yX6_placeOf wsX6_placeOf ({ frames := 3, cells := 0, slots := 0, locals := 64 } : Room) (m_Pc G w [.ref (h), .ref (p0)]) (m_Qi G r w') 0 0 (fun q => G.1 ≤ q) := by
  refine Met.ofW (cc := cX6_placeOf) (maxL := 3) (ret := (some .int)) (by decide +kernel) rfl ?_
  intro p e s m args below meth c s₁ B hml hv
  obtain ⟨rfl, hM, hP⟩ := hv
  have hx := B.exec
  have hb := B.bytes
  have hr := B.returns
  have hts := atoms_spec (ws := wsX6_placeOf) B.pre
  have hown : s.vm.findClass RX6 = some m.cls := findClass_of_methodNamed B.named
  have hlocks := B.notSynchronized
  have hin9 : ∀ w ∈ u_ws RX6 TX6 8, w ∈ wsX6_placeOf := by decide +kernel
  have hS : va_S (fun q => G.1 ≤ q) s.heap s.heap [] := va_S.rf
  have J33 : ∀ (w : mW) (x2 : Int32) (H : Heap) (locs : List Loc) (ls : Array Slot), e_X6_placeOf_33 w x2 = some (r, w') → mP G w H → va_S (fun q => G.1 ≤ q) s.heap H locs → lv_has ls 3 [(2, .int (x2))] → W p l e ({ frames := 3, cells := 0, slots := 0, locals := 64 } : Room) s m ([.ref (h), .ref (p0)] : List Value).toArray below meth c H locs 0 0 (MQ below (m_Qi G r w') ([.ref (h), .ref (p0)] : List Value).toArray s 0 0 (fun q => G.1 ≤ q)) (F0 m 33 ls []) := by
    intro w x2 H locs ls hd hP hS hl
    refine lv_iload_n hx hb dX6_placeOf_33 rfl (lv_at hl 0 rfl) ?_
    obtain ⟨e1, e2⟩ := m_s_e hd
    refine W.widen (k := 0) (n := 0) (Nat.le_of_ble_eq_true rfl) (Nat.le_of_ble_eq_true rfl) ?_
    exact W.iret hx hb hr (fun t ht hW => ⟨⟨_, w, rfl, ⟨e1, e2⟩, by show mP _ _ t.heap; rw [ht]; exact hP⟩, hS.F ht⟩) hS.2.2 dX6_placeOf_34
  have J2 : ∀ (n2 : Nat) (w : mW) (x0 : Nat) (x1 : Nat) (x2 : Int32) (H : Heap) (locs : List Loc) (ls : Array Slot), e_X6_placeOf_2 n2 w x0 x1 x2 = some (r, w') → mP G w H → va_S (fun q => G.1 ≤ q) s.heap H locs → lv_has ls 3 [(0, .ref (x0)), (1, .ref (x1)), (2, .int (x2))] → W p l e ({ frames := 3, cells := 0, slots := 0, locals := 64 } : Room) s m ([.ref (h), .ref (p0)] : List Value).toArray below meth c H locs 0 0 (MQ below (m_Qi G r w') ([.ref (h), .ref (p0)] : List Value).toArray s 0 0 (fun q => G.1 ≤ q)) (F0 m 2 ls []) := by
    intro n2
    induction n2 with
    | zero => intro w x0 x1 x2 H locs ls hd; exact absurd (show (none : Option (Int32 × mW)) = some _ from hd) (fun h => nomatch h)
    | succ n2 ih2 =>
      intro w x0 x1 x2 H locs ls hd hP hS hl
      have hd : e_X6_placeOf_2_b (e_X6_placeOf_2 n2) w x0 x1 x2 = some (r, w') := hd
      refine lv_iload_n hx hb dX6_placeOf_2 rfl (lv_at hl 2 rfl) ?_
      refine lv_aload_n hx hb dX6_placeOf_3 rfl (lv_at hl 0 rfl) ?_
      obtain ⟨hk101, hd⟩ := m_g_e hd
      obtain ⟨r102, hr102, hd⟩ := m_o_e hd
      refine m_getR (C := RX6) (T := TX6) (N := 8) (own := RX6) (ref := RX6) hx hb hts hin9 hown hM.1 hP 9 rfl 1 (r := r102) ⟨hk101, hr102⟩ (by decide) (hts (.fieldLink RX6 16 "CellNotebook" "order" "Ljava/util/ArrayList;") (by decide +kernel)) (fun _ h9 => h9) dX6_placeOf_4 ?_
      obtain ⟨hk103, hd⟩ := m_g_e hd
      obtain ⟨r104, w105, hc106, hd⟩ := m_b_e hd
      refine m_calli (k := 0) (n := 0) (va_runV (As := []) (rest := [.int (x2)]) ⟨hx, hb, hml, hown, hts⟩ (c_Jx4a65c_size_8abf5 l G w w105 r102 r104 hc106) (cwV 0 hts gX6_placeOf_Jx4a65c_size_8abf5 rfl rfl rfl (by decide +kernel) ⟨(Nat.le_of_ble_eq_true rfl), (Nat.le_of_ble_eq_true rfl)⟩) (m_preV (C := RJx4a65c) (T := TJx4a65c) (N := 3) hM hP hS rfl (by decide) hk103) rfl rfl hl.1 rfl (lv_room (Nat.le_of_ble_eq_true rfl)) dX6_placeOf_7 ⟨(Nat.le_of_ble_eq_true rfl), (Nat.le_of_ble_eq_true rfl)⟩) hS ⟨(Nat.le_of_ble_eq_true rfl), (Nat.le_of_ble_eq_true rfl)⟩ (fun H locs hP hS => ?_)
      refine lv_iconst (v := 1) hx hb dX6_placeOf_10 (by decide) ?_
      refine lv_isub hx hb dX6_placeOf_11 ?_
      refine lv_icmp_ge (tgt := 33) hx hb dX6_placeOf_12 (by decide) (fun c107 => ?_) (fun c107 => ?_)
      · have hd := m_i_t c107 hd
        refine W.widen (k := 0) (n := 0) (Nat.le_of_ble_eq_true rfl) (Nat.le_of_ble_eq_true rfl) ?_
        exact J33 w105 x2 _ _ _ hd hP hS (lv_sub hl [2] rfl)
      · have hd := m_i_f c107 hd
        refine lv_aload_n hx hb dX6_placeOf_15 rfl (lv_at hl 0 rfl) ?_
        obtain ⟨hk108, hd⟩ := m_g_e hd
        obtain ⟨r109, hr109, hd⟩ := m_o_e hd
        refine m_getR (C := RX6) (T := TX6) (N := 8) (own := RX6) (ref := RX6) hx hb hts hin9 hown hM.1 hP 9 rfl 1 (r := r109) ⟨hk108, hr109⟩ (by decide) (hts (.fieldLink RX6 16 "CellNotebook" "order" "Ljava/util/ArrayList;") (by decide +kernel)) (fun _ h9 => h9) dX6_placeOf_16 ?_
        refine lv_iload_n hx hb dX6_placeOf_19 rfl (lv_at hl 2 rfl) ?_
        obtain ⟨hk110, hd⟩ := m_g_e hd
        obtain ⟨r111, w112, hc113, hd⟩ := m_b_e hd
        refine m_callr (k := 0) (n := 0) (va_runV (As := [.int (x2)]) (rest := []) ⟨hx, hb, hml, hown, hts⟩ (c_Jx4a65c_get_915e3 l G w105 w112 r109 x2 r111 hc113) (cwV 1 hts gX6_placeOf_Jx4a65c_get_915e3 rfl rfl rfl (by decide +kernel) ⟨(Nat.le_of_ble_eq_true rfl), (Nat.le_of_ble_eq_true rfl)⟩) (m_preV (C := RJx4a65c) (T := TJx4a65c) (N := 3) hM hP hS rfl (by decide) hk110) rfl rfl hl.1 rfl (lv_room (Nat.le_of_ble_eq_true rfl)) dX6_placeOf_20 ⟨(Nat.le_of_ble_eq_true rfl), (Nat.le_of_ble_eq_true rfl)⟩) hS ⟨(Nat.le_of_ble_eq_true rfl), (Nat.le_of_ble_eq_true rfl)⟩ (fun H locs hP hS => ?_)
        refine lv_aload_n hx hb dX6_placeOf_23 rfl (lv_at hl 1 rfl) ?_
        refine lv_acmp_eq (tgt := 33) (rx := some r111) (ry := some x1) hx hb dX6_placeOf_24 (by decide) (fun c114 => ?_) (fun c114 => ?_)
        · have hd := m_i_t c114 hd
          refine W.widen (k := 0) (n := 0) (Nat.le_of_ble_eq_true rfl) (Nat.le_of_ble_eq_true rfl) ?_
          exact J33 w112 x2 _ _ _ hd hP hS (lv_sub hl [2] rfl)
        · have hd := m_i_f c114 hd
          refine lv_iinc (v := x2 + 1) (lv' := [(2, .int (x2 + 1)), (0, .ref (x0)), (1, .ref (x1))]) hx hb dX6_placeOf_27 hl (k := 2) rfl rfl (by decide) rfl (fun ls hl => ?_)
          refine lv_goto (tgt := 2) hx hb dX6_placeOf_30 (by decide) ?_
          refine W.widen (k := 0) (n := 0) (Nat.le_of_ble_eq_true rfl) (Nat.le_of_ble_eq_true rfl) ?_
          exact ih2 w112 x0 x1 (x2 + 1) _ _ _ hd hP hS (lv_sub hl [1, 2, 0] rfl)
  have hl := lv_entry ([.ref (h), .ref (p0)]) (n := 3) (Nat.le_of_ble_eq_true rfl)
  rw [lg_entry_eq]
  generalize (lg_sl ([.ref (h), .ref (p0)]) ++ List.replicate (3 - (lg_sl ([.ref (h), .ref (p0)])).length) Slot.unset).toArray = ls at hl ⊢
  have hl : lv_has ls 3 [(0, .ref (h)), (1, .ref (p0))] := hl
  refine lv_iconst (v := 0) hx hb dX6_placeOf_0 (by decide) ?_
  refine lv_istore_n (lv' := [(2, .int (0)), (0, .ref (h)), (1, .ref (p0))]) hx hb dX6_placeOf_1 rfl hl (by decide) rfl (fun ls hl => ?_)
  refine W.widen (k := 0) (n := 0) (Nat.le_of_ble_eq_true rfl) (Nat.le_of_ble_eq_true rfl) ?_
  exact J2 m_N w h p0 0 _ _ _ hd hP hS (lv_sub hl [1, 2, 0] rfl)


noncomputable def e_X6_move (t0 : Nat × Nat × Nat × Nat) (w : mW) (h : Nat) (p0 : Int32) (p1 : Int32) : Option ((Int32 ⊕ String) × mW) := m_g (m_kd w h = 10) <| m_t (e_X6_requireCell w h p0) fun r5 w3 => m_g (m_kd w3 h = 10) <| m_t (e_X6_requirePlace w3 h p1) fun r12 w10 => m_g (m_kd w10 h = 10) <| m_b (e_X6_placeOf w10 h r5) fun r16 w17 => m_g (m_kd w17 h = 10) <| m_o (m_fr w17 9 1 h) fun r20 => m_g (m_kd w17 r20 = 3) <| m_b (e_Jx4a65c_remove_915e3 w17 r20 r16) fun r22 w23 => m_g (m_kd w23 h = 10) <| m_o (m_fr w23 9 1 h) fun r26 => m_g (m_kd w23 r26 = 3) <| m_b (e_Jx4a65c_add_7a177 t0 w23 r26 p1 r5) fun r28 w29 => some (.inl r16, w29)
set_option maxHeartbeats 1000000 in
set_option maxRecDepth 100000 in
theorem c_X6_move (l : Launch) (hst : l.stackTraces = false) (G : m_G) (w w' : mW) (h : Nat) (p0 : Int32) (p1 : Int32) (o : Int32 ⊕ String) (hd : e_X6_move G.2.2.2 w h p0 p1 = some (o, w')) : vx_Met l yX6_move wsX6_move ({ frames := 9, cells := 3, slots := 612, locals := 191 } : Room) (m_Pc G w [.ref (h), .int (p0), .int (p1)]) (m_Xi G o w') (m_XC G o w') 3 612 (fun q => G.1 ≤ q) := by
  refine vx_ofW (cc := cX6_move) (maxL := 5) (ret := (some .int)) (by decide +kernel) rfl ?_
  intro p e s m args below meth c s₁ B hml hout hv
  obtain ⟨rfl, hM, hP⟩ := hv
  have hx := B.exec
  have hb := B.bytes
  have hr := B.returns
  have hts := atoms_spec (ws := wsX6_move) B.pre
  have hown : s.vm.findClass RX6 = some m.cls := findClass_of_methodNamed B.named
  have hlocks := B.notSynchronized
  have hin9 : ∀ w ∈ u_ws RX6 TX6 8, w ∈ wsX6_move := by decide +kernel
  have hS : va_S (fun q => G.1 ≤ q) s.heap s.heap [] := va_S.rf
  have hl := lv_entry ([.ref (h), .int (p0), .int (p1)]) (n := 5) (Nat.le_of_ble_eq_true rfl)
  rw [lg_entry_eq]
  generalize (lg_sl ([.ref (h), .int (p0), .int (p1)]) ++ List.replicate (5 - (lg_sl ([.ref (h), .int (p0), .int (p1)])).length) Slot.unset).toArray = ls at hl ⊢
  have hl : lv_has ls 5 [(0, .ref (h)), (1, .int (p0)), (2, .int (p1))] := hl
  refine lv_aload_n hx hb dX6_move_0 rfl (lv_at hl 0 rfl) ?_
  refine lv_iload_n hx hb dX6_move_1 rfl (lv_at hl 1 rfl) ?_
  obtain ⟨hk1, hd⟩ := m_g_e hd
  obtain ⟨o2, w3, hc4, hx6, hd⟩ := m_t_e hd
  refine m_callxq (k := 1) (n := 6) (vx_runV (As := [.int (p0)]) (rest := []) ⟨hx, hb, hml, hown, hts⟩ (c_X6_requireCell l hst G w w3 h p0 o2 hc4) (cwV 1 hts gX6_move_X6_requireCell rfl rfl rfl (by decide +kernel) ⟨(Nat.le_of_ble_eq_true rfl), (Nat.le_of_ble_eq_true rfl)⟩) (m_preV (C := RX6) (T := TX6) (N := 8) hM hP hS rfl (by decide) hk1) rfl rfl hl.1 rfl (lv_room (Nat.le_of_ble_eq_true rfl)) dX6_move_2 ⟨(Nat.le_of_ble_eq_true rfl), (Nat.le_of_ble_eq_true rfl)⟩) hS ⟨⟨(Nat.le_of_ble_eq_true rfl), (Nat.le_of_ble_eq_true rfl)⟩, (Nat.le_of_ble_eq_true rfl), (Nat.le_of_ble_eq_true rfl)⟩ hout hlocks hx6 (fun r5 ho7 H locs hP hS => ?_)
  have hd := hd r5 ho7
  refine lv_astore_n (lv' := [(3, .ref (r5)), (0, .ref (h)), (1, .int (p0)), (2, .int (p1))]) hx hb dX6_move_5 rfl hl (by decide) rfl (fun ls hl => ?_)
  refine lv_aload_n hx hb dX6_move_6 rfl (lv_at hl 1 rfl) ?_
  refine lv_iload_n hx hb dX6_move_7 rfl (lv_at hl 3 rfl) ?_
  obtain ⟨hk8, hd⟩ := m_g_e hd
  obtain ⟨o9, w10, hc11, hx13, hd⟩ := m_t_e hd
  refine m_callxv (k := 2) (n := 12) (vx_runV (As := [.int (p1)]) (rest := []) ⟨hx, hb, hml, hown, hts⟩ (c_X6_requirePlace l hst G w3 w10 h p1 o9 hc11) (cwV 1 hts gX6_move_X6_requirePlace rfl rfl rfl (by decide +kernel) ⟨(Nat.le_of_ble_eq_true rfl), (Nat.le_of_ble_eq_true rfl)⟩) (m_preV (C := RX6) (T := TX6) (N := 8) hM hP hS rfl (by decide) hk8) rfl rfl hl.1 rfl (lv_room (Nat.le_of_ble_eq_true rfl)) dX6_move_8 ⟨(Nat.le_of_ble_eq_true rfl), (Nat.le_of_ble_eq_true rfl)⟩) hS ⟨⟨(Nat.le_of_ble_eq_true rfl), (Nat.le_of_ble_eq_true rfl)⟩, (Nat.le_of_ble_eq_true rfl), (Nat.le_of_ble_eq_true rfl)⟩ hout hlocks hx13 (fun r12 ho14 H locs hP hS => ?_)
  have hd := hd r12 ho14
  refine lv_aload_n hx hb dX6_move_11 rfl (lv_at hl 1 rfl) ?_
  refine lv_aload_n hx hb dX6_move_12 rfl (lv_at hl 0 rfl) ?_
  obtain ⟨hk15, hd⟩ := m_g_e hd
  obtain ⟨r16, w17, hc18, hd⟩ := m_b_e hd
  refine m_calli (k := 2) (n := 12) (va_runV (As := [.ref (r5)]) (rest := []) ⟨hx, hb, hml, hown, hts⟩ (c_X6_placeOf l G w10 w17 h r5 r16 hc18) (cwV 1 hts gX6_move_X6_placeOf rfl rfl rfl (by decide +kernel) ⟨(Nat.le_of_ble_eq_true rfl), (Nat.le_of_ble_eq_true rfl)⟩) (m_preV (C := RX6) (T := TX6) (N := 8) hM hP hS rfl (by decide) hk15) rfl rfl hl.1 rfl (lv_room (Nat.le_of_ble_eq_true rfl)) dX6_move_13 ⟨(Nat.le_of_ble_eq_true rfl), (Nat.le_of_ble_eq_true rfl)⟩) hS ⟨(Nat.le_of_ble_eq_true rfl), (Nat.le_of_ble_eq_true rfl)⟩ (fun H locs hP hS => ?_)
  refine lv_istore (lv' := [(4, .int (r16)), (3, .ref (r5)), (0, .ref (h)), (1, .int (p0)), (2, .int (p1))]) hx hb dX6_move_16 hl (by decide) rfl (fun ls hl => ?_)
  refine lv_aload_n hx hb dX6_move_18 rfl (lv_at hl 2 rfl) ?_
  obtain ⟨hk19, hd⟩ := m_g_e hd
  obtain ⟨r20, hr20, hd⟩ := m_o_e hd
  refine m_getR (C := RX6) (T := TX6) (N := 8) (own := RX6) (ref := RX6) hx hb hts hin9 hown hM.1 hP 9 rfl 1 (r := r20) ⟨hk19, hr20⟩ (by decide) (hts (.fieldLink RX6 16 "CellNotebook" "order" "Ljava/util/ArrayList;") (by decide +kernel)) (fun _ h9 => h9) dX6_move_19 ?_
  refine lv_iload hx hb dX6_move_22 (lv_at hl 0 rfl) ?_
  obtain ⟨hk21, hd⟩ := m_g_e hd
  obtain ⟨r22, w23, hc24, hd⟩ := m_b_e hd
  refine m_callr (k := 2) (n := 12) (va_runV (As := [.int (r16)]) (rest := []) ⟨hx, hb, hml, hown, hts⟩ (c_Jx4a65c_remove_915e3 l G w17 w23 r20 r16 r22 hc24) (cwV 1 hts gX6_move_Jx4a65c_remove_915e3 rfl rfl rfl (by decide +kernel) ⟨(Nat.le_of_ble_eq_true rfl), (Nat.le_of_ble_eq_true rfl)⟩) (m_preV (C := RJx4a65c) (T := TJx4a65c) (N := 3) hM hP hS rfl (by decide) hk21) rfl rfl hl.1 rfl (lv_room (Nat.le_of_ble_eq_true rfl)) dX6_move_24 ⟨(Nat.le_of_ble_eq_true rfl), (Nat.le_of_ble_eq_true rfl)⟩) hS ⟨(Nat.le_of_ble_eq_true rfl), (Nat.le_of_ble_eq_true rfl)⟩ (fun H locs hP hS => ?_)
  refine lv_pop hx hb dX6_move_27 rfl ?_
  refine lv_aload_n hx hb dX6_move_28 rfl (lv_at hl 2 rfl) ?_
  obtain ⟨hk25, hd⟩ := m_g_e hd
  obtain ⟨r26, hr26, hd⟩ := m_o_e hd
  refine m_getR (C := RX6) (T := TX6) (N := 8) (own := RX6) (ref := RX6) hx hb hts hin9 hown hM.1 hP 9 rfl 1 (r := r26) ⟨hk25, hr26⟩ (by decide) (hts (.fieldLink RX6 16 "CellNotebook" "order" "Ljava/util/ArrayList;") (by decide +kernel)) (fun _ h9 => h9) dX6_move_29 ?_
  refine lv_iload_n hx hb dX6_move_32 rfl (lv_at hl 4 rfl) ?_
  refine lv_aload_n hx hb dX6_move_33 rfl (lv_at hl 1 rfl) ?_
  obtain ⟨hk27, hd⟩ := m_g_e hd
  obtain ⟨r28, w29, hc30, hd⟩ := m_b_e hd
  refine m_callv (k := 3) (n := 612) (va_runV (As := [.int (p1), .ref (r5)]) (rest := []) ⟨hx, hb, hml, hown, hts⟩ (c_Jx4a65c_add_7a177 l G w23 w29 r26 p1 r5 r28 hc30) (cwV 2 hts gX6_move_Jx4a65c_add_7a177 rfl rfl rfl (by decide +kernel) ⟨(Nat.le_of_ble_eq_true rfl), (Nat.le_of_ble_eq_true rfl)⟩) (m_preV (C := RJx4a65c) (T := TJx4a65c) (N := 3) hM hP hS rfl (by decide) hk27) rfl rfl hl.1 rfl (lv_room (Nat.le_of_ble_eq_true rfl)) dX6_move_34 ⟨(Nat.le_of_ble_eq_true rfl), (Nat.le_of_ble_eq_true rfl)⟩) hS ⟨(Nat.le_of_ble_eq_true rfl), (Nat.le_of_ble_eq_true rfl)⟩ (fun H locs hP hS => ?_)
  refine lv_iload hx hb dX6_move_37 (lv_at hl 0 rfl) ?_
  obtain ⟨e1, e2⟩ := m_s_e hd
  refine vx_ret ?_
  refine W.widen (k := 3) (n := 612) (Nat.le_of_ble_eq_true rfl) (Nat.le_of_ble_eq_true rfl) ?_
  exact W.iret hx hb hr (fun t ht hW => ⟨⟨_, w29, rfl, ⟨e1, e2⟩, by show mP _ _ t.heap; rw [ht]; exact hP⟩, hS.F ht⟩) hS.2.2 dX6_move_39


noncomputable def e_X6_cellCount (w : mW) (h : Nat) : Option (Int32 × mW) := m_g (m_kd w h = 10) <| m_o (m_fr w 9 0 h) fun r2 => m_g (m_kd w r2 = 3) <| m_b (e_Jx4a65c_size_8abf5 w r2) fun r4 w5 => some (r4, w5)
set_option maxHeartbeats 1000000 in
set_option maxRecDepth 100000 in
theorem c_X6_cellCount (l : Launch) (G : m_G) (w w' : mW) (h : Nat) (r : Int32) (hd : e_X6_cellCount w h = some (r, w')) : Met l yX6_cellCount wsX6_cellCount ({ frames := 1, cells := 0, slots := 0, locals := 20 } : Room) (m_Pc G w [.ref (h)]) (m_Qi G r w') 0 0 (fun q => G.1 ≤ q) := by
  refine Met.ofW (cc := cX6_cellCount) (maxL := 1) (ret := (some .int)) (by decide +kernel) rfl ?_
  intro p e s m args below meth c s₁ B hml hv
  obtain ⟨rfl, hM, hP⟩ := hv
  have hx := B.exec
  have hb := B.bytes
  have hr := B.returns
  have hts := atoms_spec (ws := wsX6_cellCount) B.pre
  have hown : s.vm.findClass RX6 = some m.cls := findClass_of_methodNamed B.named
  have hlocks := B.notSynchronized
  have hin9 : ∀ w ∈ u_ws RX6 TX6 8, w ∈ wsX6_cellCount := by decide +kernel
  have hS : va_S (fun q => G.1 ≤ q) s.heap s.heap [] := va_S.rf
  have hl := lv_entry ([.ref (h)]) (n := 1) (Nat.le_of_ble_eq_true rfl)
  rw [lg_entry_eq]
  generalize (lg_sl ([.ref (h)]) ++ List.replicate (1 - (lg_sl ([.ref (h)])).length) Slot.unset).toArray = ls at hl ⊢
  have hl : lv_has ls 1 [(0, .ref (h))] := hl
  refine lv_aload_n hx hb dX6_cellCount_0 rfl (lv_at hl 0 rfl) ?_
  obtain ⟨hk1, hd⟩ := m_g_e hd
  obtain ⟨r2, hr2, hd⟩ := m_o_e hd
  refine m_getR (C := RX6) (T := TX6) (N := 8) (own := RX6) (ref := RX6) hx hb hts hin9 hown hM.1 hP 9 rfl 0 (r := r2) ⟨hk1, hr2⟩ (by decide) (hts (.fieldLink RX6 10 "CellNotebook" "cells" "Ljava/util/ArrayList;") (by decide +kernel)) (fun _ h9 => h9) dX6_cellCount_1 ?_
  obtain ⟨hk3, hd⟩ := m_g_e hd
  obtain ⟨r4, w5, hc6, hd⟩ := m_b_e hd
  refine m_calli (k := 0) (n := 0) (va_runV (As := []) (rest := []) ⟨hx, hb, hml, hown, hts⟩ (c_Jx4a65c_size_8abf5 l G w w5 r2 r4 hc6) (cwV 0 hts gX6_cellCount_Jx4a65c_size_8abf5 rfl rfl rfl (by decide +kernel) ⟨(Nat.le_of_ble_eq_true rfl), (Nat.le_of_ble_eq_true rfl)⟩) (m_preV (C := RJx4a65c) (T := TJx4a65c) (N := 3) hM hP hS rfl (by decide) hk3) rfl rfl hl.1 rfl (lv_room (Nat.le_of_ble_eq_true rfl)) dX6_cellCount_4 ⟨(Nat.le_of_ble_eq_true rfl), (Nat.le_of_ble_eq_true rfl)⟩) hS ⟨(Nat.le_of_ble_eq_true rfl), (Nat.le_of_ble_eq_true rfl)⟩ (fun H locs hP hS => ?_)
  obtain ⟨e1, e2⟩ := m_s_e hd
  refine W.widen (k := 0) (n := 0) (Nat.le_of_ble_eq_true rfl) (Nat.le_of_ble_eq_true rfl) ?_
  exact W.iret hx hb hr (fun t ht hW => ⟨⟨_, w5, rfl, ⟨e1, e2⟩, by show mP _ _ t.heap; rw [ht]; exact hP⟩, hS.F ht⟩) hS.2.2 dX6_cellCount_7


noncomputable def e_X6_cellAt (w : mW) (h : Nat) (p0 : Int32) : Option ((Int32 ⊕ String) × mW) := m_g (m_kd w h = 10) <| m_t (e_X6_requirePlace w h p0) fun r5 w3 => m_g (m_kd w3 h = 10) <| m_o (m_fr w3 9 1 h) fun r9 => m_g (m_kd w3 r9 = 3) <| m_b (e_Jx4a65c_get_915e3 w3 r9 p0) fun r11 w12 => m_g (m_kd w12 r11 = 5) <| some (.inl (m_fi w12 4 0 r11), w12)
set_option maxHeartbeats 1000000 in
set_option maxRecDepth 100000 in
theorem c_X6_cellAt (l : Launch) (hst : l.stackTraces = false) (G : m_G) (w w' : mW) (h : Nat) (p0 : Int32) (o : Int32 ⊕ String) (hd : e_X6_cellAt w h p0 = some (o, w')) : vx_Met l yX6_cellAt wsX6_cellAt ({ frames := 9, cells := 1, slots := 6, locals := 161 } : Room) (m_Pc G w [.ref (h), .int (p0)]) (m_Xi G o w') (m_XC G o w') 1 6 (fun q => G.1 ≤ q) := by
  refine vx_ofW (cc := cX6_cellAt) (maxL := 2) (ret := (some .int)) (by decide +kernel) rfl ?_
  intro p e s m args below meth c s₁ B hml hout hv
  obtain ⟨rfl, hM, hP⟩ := hv
  have hx := B.exec
  have hb := B.bytes
  have hr := B.returns
  have hts := atoms_spec (ws := wsX6_cellAt) B.pre
  have hown : s.vm.findClass RX6 = some m.cls := findClass_of_methodNamed B.named
  have hlocks := B.notSynchronized
  have hin4 : ∀ w ∈ u_ws RX1 TX1 4, w ∈ wsX6_cellAt := by decide +kernel
  have hin9 : ∀ w ∈ u_ws RX6 TX6 8, w ∈ wsX6_cellAt := by decide +kernel
  have hS : va_S (fun q => G.1 ≤ q) s.heap s.heap [] := va_S.rf
  have hl := lv_entry ([.ref (h), .int (p0)]) (n := 2) (Nat.le_of_ble_eq_true rfl)
  rw [lg_entry_eq]
  generalize (lg_sl ([.ref (h), .int (p0)]) ++ List.replicate (2 - (lg_sl ([.ref (h), .int (p0)])).length) Slot.unset).toArray = ls at hl ⊢
  have hl : lv_has ls 2 [(0, .ref (h)), (1, .int (p0))] := hl
  refine lv_aload_n hx hb dX6_cellAt_0 rfl (lv_at hl 0 rfl) ?_
  refine lv_iload_n hx hb dX6_cellAt_1 rfl (lv_at hl 1 rfl) ?_
  obtain ⟨hk1, hd⟩ := m_g_e hd
  obtain ⟨o2, w3, hc4, hx6, hd⟩ := m_t_e hd
  refine m_callxv (k := 1) (n := 6) (vx_runV (As := [.int (p0)]) (rest := []) ⟨hx, hb, hml, hown, hts⟩ (c_X6_requirePlace l hst G w w3 h p0 o2 hc4) (cwV 1 hts gX6_cellAt_X6_requirePlace rfl rfl rfl (by decide +kernel) ⟨(Nat.le_of_ble_eq_true rfl), (Nat.le_of_ble_eq_true rfl)⟩) (m_preV (C := RX6) (T := TX6) (N := 8) hM hP hS rfl (by decide) hk1) rfl rfl hl.1 rfl (lv_room (Nat.le_of_ble_eq_true rfl)) dX6_cellAt_2 ⟨(Nat.le_of_ble_eq_true rfl), (Nat.le_of_ble_eq_true rfl)⟩) hS ⟨⟨(Nat.le_of_ble_eq_true rfl), (Nat.le_of_ble_eq_true rfl)⟩, (Nat.le_of_ble_eq_true rfl), (Nat.le_of_ble_eq_true rfl)⟩ hout hlocks hx6 (fun r5 ho7 H locs hP hS => ?_)
  have hd := hd r5 ho7
  refine lv_aload_n hx hb dX6_cellAt_5 rfl (lv_at hl 0 rfl) ?_
  obtain ⟨hk8, hd⟩ := m_g_e hd
  obtain ⟨r9, hr9, hd⟩ := m_o_e hd
  refine m_getR (C := RX6) (T := TX6) (N := 8) (own := RX6) (ref := RX6) hx hb hts hin9 hown hM.1 hP 9 rfl 1 (r := r9) ⟨hk8, hr9⟩ (by decide) (hts (.fieldLink RX6 16 "CellNotebook" "order" "Ljava/util/ArrayList;") (by decide +kernel)) (fun _ h9 => h9) dX6_cellAt_6 ?_
  refine lv_iload_n hx hb dX6_cellAt_9 rfl (lv_at hl 1 rfl) ?_
  obtain ⟨hk10, hd⟩ := m_g_e hd
  obtain ⟨r11, w12, hc13, hd⟩ := m_b_e hd
  refine m_callr (k := 1) (n := 6) (va_runV (As := [.int (p0)]) (rest := []) ⟨hx, hb, hml, hown, hts⟩ (c_Jx4a65c_get_915e3 l G w3 w12 r9 p0 r11 hc13) (cwV 1 hts gX6_cellAt_Jx4a65c_get_915e3 rfl rfl rfl (by decide +kernel) ⟨(Nat.le_of_ble_eq_true rfl), (Nat.le_of_ble_eq_true rfl)⟩) (m_preV (C := RJx4a65c) (T := TJx4a65c) (N := 3) hM hP hS rfl (by decide) hk10) rfl rfl hl.1 rfl (lv_room (Nat.le_of_ble_eq_true rfl)) dX6_cellAt_10 ⟨(Nat.le_of_ble_eq_true rfl), (Nat.le_of_ble_eq_true rfl)⟩) hS ⟨(Nat.le_of_ble_eq_true rfl), (Nat.le_of_ble_eq_true rfl)⟩ (fun H locs hP hS => ?_)
  obtain ⟨hk14, hd⟩ := m_g_e hd
  refine va_castS (own := RX6) (nm := RX1) hx hb hown (hts (.classLink RX6 60 RX1) (by decide +kernel)) (hM.1.1 4 _ rfl).2 (m_recv hM.1 hP hk14 (by decide) rfl) dX6_cellAt_13 ?_
  refine m_getI (C := RX1) (T := TX1) (N := 4) (own := RX6) (ref := RX1) hx hb hts hin4 hown hM.1 hP 4 rfl 0 hk14 (by decide) (hts (.fieldLink RX6 128 "CellNotebook$Cell" "number" "I") (by decide +kernel)) (fun _ h9 => h9) dX6_cellAt_16 ?_
  obtain ⟨e1, e2⟩ := m_s_e hd
  refine vx_ret ?_
  refine W.widen (k := 1) (n := 6) (Nat.le_of_ble_eq_true rfl) (Nat.le_of_ble_eq_true rfl) ?_
  exact W.iret hx hb hr (fun t ht hW => ⟨⟨_, w12, rfl, ⟨e1, e2⟩, by show mP _ _ t.heap; rw [ht]; exact hP⟩, hS.F ht⟩) hS.2.2 dX6_cellAt_19


noncomputable def e_X6_source (t0 : Nat × Nat × Nat × Nat) (w : mW) (h : Nat) (p0 : Int32) : Option ((Int32 ⊕ String) × mW) := m_g (m_kd w h = 10) <| m_t (e_X6_requireCell w h p0) fun r5 w3 => m_g (m_kd w3 r5 = 5) <| m_b (e_X1_writtenOut t0 w3 r5) fun r9 w10 => m_g (m_kd w10 r9 = 2) <| m_b (e_J4_length_8abf5 w10 r9) fun r13 w14 => some (.inl r13, w14)
set_option maxHeartbeats 1000000 in
set_option maxRecDepth 100000 in
theorem c_X6_source (l : Launch) (hst : l.stackTraces = false) (G : m_G) (w w' : mW) (h : Nat) (p0 : Int32) (o : Int32 ⊕ String) (hd : e_X6_source G.2.2.2 w h p0 = some (o, w')) : vx_Met l yX6_source wsX6_source ({ frames := 9, cells := 45, slots := 6326, locals := 238 } : Room) (m_Pc G w [.ref (h), .int (p0)]) (m_Xi G o w') (m_XC G o w') 45 6326 (fun q => G.1 ≤ q) := by
  refine vx_ofW (cc := cX6_source) (maxL := 2) (ret := (some .int)) (by decide +kernel) rfl ?_
  intro p e s m args below meth c s₁ B hml hout hv
  obtain ⟨rfl, hM, hP⟩ := hv
  have hx := B.exec
  have hb := B.bytes
  have hr := B.returns
  have hts := atoms_spec (ws := wsX6_source) B.pre
  have hown : s.vm.findClass RX6 = some m.cls := findClass_of_methodNamed B.named
  have hlocks := B.notSynchronized
  have hS : va_S (fun q => G.1 ≤ q) s.heap s.heap [] := va_S.rf
  have hl := lv_entry ([.ref (h), .int (p0)]) (n := 2) (Nat.le_of_ble_eq_true rfl)
  rw [lg_entry_eq]
  generalize (lg_sl ([.ref (h), .int (p0)]) ++ List.replicate (2 - (lg_sl ([.ref (h), .int (p0)])).length) Slot.unset).toArray = ls at hl ⊢
  have hl : lv_has ls 2 [(0, .ref (h)), (1, .int (p0))] := hl
  refine lv_aload_n hx hb dX6_source_0 rfl (lv_at hl 0 rfl) ?_
  refine lv_iload_n hx hb dX6_source_1 rfl (lv_at hl 1 rfl) ?_
  obtain ⟨hk1, hd⟩ := m_g_e hd
  obtain ⟨o2, w3, hc4, hx6, hd⟩ := m_t_e hd
  refine m_callxq (k := 1) (n := 6) (vx_runV (As := [.int (p0)]) (rest := []) ⟨hx, hb, hml, hown, hts⟩ (c_X6_requireCell l hst G w w3 h p0 o2 hc4) (cwV 1 hts gX6_source_X6_requireCell rfl rfl rfl (by decide +kernel) ⟨(Nat.le_of_ble_eq_true rfl), (Nat.le_of_ble_eq_true rfl)⟩) (m_preV (C := RX6) (T := TX6) (N := 8) hM hP hS rfl (by decide) hk1) rfl rfl hl.1 rfl (lv_room (Nat.le_of_ble_eq_true rfl)) dX6_source_2 ⟨(Nat.le_of_ble_eq_true rfl), (Nat.le_of_ble_eq_true rfl)⟩) hS ⟨⟨(Nat.le_of_ble_eq_true rfl), (Nat.le_of_ble_eq_true rfl)⟩, (Nat.le_of_ble_eq_true rfl), (Nat.le_of_ble_eq_true rfl)⟩ hout hlocks hx6 (fun r5 ho7 H locs hP hS => ?_)
  have hd := hd r5 ho7
  obtain ⟨hk8, hd⟩ := m_g_e hd
  obtain ⟨r9, w10, hc11, hd⟩ := m_b_e hd
  refine m_callr (k := 45) (n := 6326) (va_runV (As := []) (rest := []) ⟨hx, hb, hml, hown, hts⟩ (c_X1_writtenOut l G w3 w10 r5 r9 hc11) (cwV 0 hts gX6_source_X1_writtenOut rfl rfl rfl (by decide +kernel) ⟨(Nat.le_of_ble_eq_true rfl), (Nat.le_of_ble_eq_true rfl)⟩) (m_preV (C := RX1) (T := TX1) (N := 4) hM hP hS rfl (by decide) hk8) rfl rfl hl.1 rfl (lv_room (Nat.le_of_ble_eq_true rfl)) dX6_source_5 ⟨(Nat.le_of_ble_eq_true rfl), (Nat.le_of_ble_eq_true rfl)⟩) hS ⟨(Nat.le_of_ble_eq_true rfl), (Nat.le_of_ble_eq_true rfl)⟩ (fun H locs hP hS => ?_)
  obtain ⟨hk12, hd⟩ := m_g_e hd
  obtain ⟨r13, w14, hc15, hd⟩ := m_b_e hd
  refine m_calli (k := 45) (n := 6326) (va_runV (As := []) (rest := []) ⟨hx, hb, hml, hown, hts⟩ (c_J4_length_8abf5 l G w10 w14 r9 r13 hc15) (cwV 0 hts gX6_source_J4_length_8abf5 rfl rfl rfl (by decide +kernel) ⟨(Nat.le_of_ble_eq_true rfl), (Nat.le_of_ble_eq_true rfl)⟩) (m_preV (C := RJ4) (T := TJ4) (N := 4) hM hP hS rfl (by decide) hk12) rfl rfl hl.1 rfl (lv_room (Nat.le_of_ble_eq_true rfl)) dX6_source_8 ⟨(Nat.le_of_ble_eq_true rfl), (Nat.le_of_ble_eq_true rfl)⟩) hS ⟨(Nat.le_of_ble_eq_true rfl), (Nat.le_of_ble_eq_true rfl)⟩ (fun H locs hP hS => ?_)
  obtain ⟨e1, e2⟩ := m_s_e hd
  refine vx_ret ?_
  refine W.widen (k := 45) (n := 6326) (Nat.le_of_ble_eq_true rfl) (Nat.le_of_ble_eq_true rfl) ?_
  exact W.iret hx hb hr (fun t ht hW => ⟨⟨_, w14, rfl, ⟨e1, e2⟩, by show mP _ _ t.heap; rw [ht]; exact hP⟩, hS.F ht⟩) hS.2.2 dX6_source_11


noncomputable def e_X6_sourceChar_21 (t0 : Nat × Nat × Nat × Nat) (w : mW)  : Option ((Int32 ⊕ String) × mW) := some (.inr "java/lang/IndexOutOfBoundsException", w)
noncomputable def e_X6_sourceChar (t0 : Nat × Nat × Nat × Nat) (w : mW) (h : Nat) (p0 : Int32) (p1 : Int32) : Option ((Int32 ⊕ String) × mW) := m_g (m_kd w h = 10) <| m_t (e_X6_requireCell w h p0) fun r5 w3 => m_g (m_kd w3 r5 = 5) <| m_b (e_X1_writtenOut t0 w3 r5) fun r9 w10 => if p1 < (0 : Int32) then (e_X6_sourceChar_21 t0 w10) else (m_g (m_kd w10 r9 = 2) <| m_b (e_J4_length_8abf5 w10 r9) fun r14 w15 => if p1 < r14 then (m_g (m_kd w15 r9 = 2) <| m_b (e_J4_charAt_5068e w15 r9 p1) fun r19 w20 => m_g (vp_nar .char r19 = r19) <| some (.inl r19, w20)) else (e_X6_sourceChar_21 t0 w15))
set_option maxHeartbeats 1000000 in
set_option maxRecDepth 100000 in
theorem c_X6_sourceChar (l : Launch) (hst : l.stackTraces = false) (G : m_G) (w w' : mW) (h : Nat) (p0 : Int32) (p1 : Int32) (o : Int32 ⊕ String) (hd : e_X6_sourceChar G.2.2.2 w h p0 p1 = some (o, w')) : vx_Met l yX6_sourceChar wsX6_sourceChar ({ frames := 9, cells := 46, slots := 6332, locals := 238 } : Room) (m_Pc G w [.ref (h), .int (p0), .int (p1)]) (m_Xi G o w') (m_XC G o w') 46 6332 (fun q => G.1 ≤ q) := by
  refine vx_ofW (cc := cX6_sourceChar) (maxL := 4) (ret := (some .char)) (by decide +kernel) rfl ?_
  intro p e s m args below meth c s₁ B hml hout hv
  obtain ⟨rfl, hM, hP⟩ := hv
  have hx := B.exec
  have hb := B.bytes
  have hr := B.returns
  have hts := atoms_spec (ws := wsX6_sourceChar) B.pre
  have hown : s.vm.findClass RX6 = some m.cls := findClass_of_methodNamed B.named
  have hlocks := B.notSynchronized
  have hS : va_S (fun q => G.1 ≤ q) s.heap s.heap [] := va_S.rf
  have J21 : ∀ (w : mW) (H : Heap) (locs : List Loc) (ls : Array Slot), e_X6_sourceChar_21 G.2.2.2 w = some (o, w') → mP G w H → va_S (fun q => G.1 ≤ q) s.heap H locs → lv_has ls 4 [] → W p l e ({ frames := 9, cells := 46, slots := 6332, locals := 238 } : Room) s m ([.ref (h), .int (p0), .int (p1)] : List Value).toArray below meth c H locs 45 6326 (vx_MQ below (m_Xi G o w') (m_XC G o w') ([.ref (h), .int (p0), .int (p1)] : List Value).toArray s 46 6332 (fun q => G.1 ≤ q)) (F0 m 21 ls []) := by
    intro w H locs ls hd hP hS hl
    obtain ⟨e1, e2⟩ := m_s_e hd
    exact m_throwS (own := RX6) (E := "java/lang/IndexOutOfBoundsException") (ik := 140) (is := 142) (ic := 144) (text := "no such place in the text") (w := w) hx hb hst hown (hts (.classLink RX6 140 "java/lang/IndexOutOfBoundsException") (by decide +kernel)) (hts (.initialized "java/lang/IndexOutOfBoundsException") (by decide +kernel)) (m_hat (E := "java/lang/IndexOutOfBoundsException") (fun w h => hts w ((by decide +kernel : ∀ w ∈ (vx_atS RX6 144 "java/lang/IndexOutOfBoundsException" ["java/lang/RuntimeException", "java/lang/Exception"]).filter goodWord, w ∈ wsX6_sourceChar) w h)) (by decide +kernel) hM.2.1.2.1 (by decide)) (by decide +kernel) (by decide +kernel) (by decide) (by decide +kernel) ⟨rfl, by decide⟩ hM hP hS (hl.1.trans hml.symm) dX6_sourceChar_21 dX6_sourceChar_24 dX6_sourceChar_25 dX6_sourceChar_27 dX6_sourceChar_30 hout (Nat.le_of_ble_eq_true rfl) (Nat.le_of_ble_eq_true rfl) (Nat.le_of_ble_eq_true rfl) (Nat.le_of_ble_eq_true rfl) hlocks e1 e2 (Nat.le_of_ble_eq_true rfl) (Nat.le_of_ble_eq_true rfl)
  have hl := lv_entry ([.ref (h), .int (p0), .int (p1)]) (n := 4) (Nat.le_of_ble_eq_true rfl)
  rw [lg_entry_eq]
  generalize (lg_sl ([.ref (h), .int (p0), .int (p1)]) ++ List.replicate (4 - (lg_sl ([.ref (h), .int (p0), .int (p1)])).length) Slot.unset).toArray = ls at hl ⊢
  have hl : lv_has ls 4 [(0, .ref (h)), (1, .int (p0)), (2, .int (p1))] := hl
  refine lv_aload_n hx hb dX6_sourceChar_0 rfl (lv_at hl 0 rfl) ?_
  refine lv_iload_n hx hb dX6_sourceChar_1 rfl (lv_at hl 1 rfl) ?_
  obtain ⟨hk1, hd⟩ := m_g_e hd
  obtain ⟨o2, w3, hc4, hx6, hd⟩ := m_t_e hd
  refine m_callxq (k := 1) (n := 6) (vx_runV (As := [.int (p0)]) (rest := []) ⟨hx, hb, hml, hown, hts⟩ (c_X6_requireCell l hst G w w3 h p0 o2 hc4) (cwV 1 hts gX6_sourceChar_X6_requireCell rfl rfl rfl (by decide +kernel) ⟨(Nat.le_of_ble_eq_true rfl), (Nat.le_of_ble_eq_true rfl)⟩) (m_preV (C := RX6) (T := TX6) (N := 8) hM hP hS rfl (by decide) hk1) rfl rfl hl.1 rfl (lv_room (Nat.le_of_ble_eq_true rfl)) dX6_sourceChar_2 ⟨(Nat.le_of_ble_eq_true rfl), (Nat.le_of_ble_eq_true rfl)⟩) hS ⟨⟨(Nat.le_of_ble_eq_true rfl), (Nat.le_of_ble_eq_true rfl)⟩, (Nat.le_of_ble_eq_true rfl), (Nat.le_of_ble_eq_true rfl)⟩ hout hlocks hx6 (fun r5 ho7 H locs hP hS => ?_)
  have hd := hd r5 ho7
  obtain ⟨hk8, hd⟩ := m_g_e hd
  obtain ⟨r9, w10, hc11, hd⟩ := m_b_e hd
  refine m_callr (k := 45) (n := 6326) (va_runV (As := []) (rest := []) ⟨hx, hb, hml, hown, hts⟩ (c_X1_writtenOut l G w3 w10 r5 r9 hc11) (cwV 0 hts gX6_sourceChar_X1_writtenOut rfl rfl rfl (by decide +kernel) ⟨(Nat.le_of_ble_eq_true rfl), (Nat.le_of_ble_eq_true rfl)⟩) (m_preV (C := RX1) (T := TX1) (N := 4) hM hP hS rfl (by decide) hk8) rfl rfl hl.1 rfl (lv_room (Nat.le_of_ble_eq_true rfl)) dX6_sourceChar_5 ⟨(Nat.le_of_ble_eq_true rfl), (Nat.le_of_ble_eq_true rfl)⟩) hS ⟨(Nat.le_of_ble_eq_true rfl), (Nat.le_of_ble_eq_true rfl)⟩ (fun H locs hP hS => ?_)
  refine lv_astore_n (lv' := [(3, .ref (r9)), (0, .ref (h)), (1, .int (p0)), (2, .int (p1))]) hx hb dX6_sourceChar_8 rfl hl (by decide) rfl (fun ls hl => ?_)
  refine lv_iload_n hx hb dX6_sourceChar_9 rfl (lv_at hl 3 rfl) ?_
  refine lv_if_lt (tgt := 21) hx hb dX6_sourceChar_10 (by decide) (fun c12 => ?_) (fun c12 => ?_)
  · have hd := m_i_t c12 hd
    refine W.widen (k := 45) (n := 6326) (Nat.le_of_ble_eq_true rfl) (Nat.le_of_ble_eq_true rfl) ?_
    exact J21 w10 _ _ _ hd hP hS (lv_sub hl [] rfl)
  · have hd := m_i_f c12 hd
    refine lv_iload_n hx hb dX6_sourceChar_13 rfl (lv_at hl 3 rfl) ?_
    refine lv_aload_n hx hb dX6_sourceChar_14 rfl (lv_at hl 0 rfl) ?_
    obtain ⟨hk13, hd⟩ := m_g_e hd
    obtain ⟨r14, w15, hc16, hd⟩ := m_b_e hd
    refine m_calli (k := 45) (n := 6326) (va_runV (As := []) (rest := [.int (p1)]) ⟨hx, hb, hml, hown, hts⟩ (c_J4_length_8abf5 l G w10 w15 r9 r14 hc16) (cwV 0 hts gX6_sourceChar_J4_length_8abf5 rfl rfl rfl (by decide +kernel) ⟨(Nat.le_of_ble_eq_true rfl), (Nat.le_of_ble_eq_true rfl)⟩) (m_preV (C := RJ4) (T := TJ4) (N := 4) hM hP hS rfl (by decide) hk13) rfl rfl hl.1 rfl (lv_room (Nat.le_of_ble_eq_true rfl)) dX6_sourceChar_15 ⟨(Nat.le_of_ble_eq_true rfl), (Nat.le_of_ble_eq_true rfl)⟩) hS ⟨(Nat.le_of_ble_eq_true rfl), (Nat.le_of_ble_eq_true rfl)⟩ (fun H locs hP hS => ?_)
    refine lv_icmp_lt (tgt := 31) hx hb dX6_sourceChar_18 (by decide) (fun c17 => ?_) (fun c17 => ?_)
    · have hd := m_i_t c17 hd
      refine lv_aload_n hx hb dX6_sourceChar_31 rfl (lv_at hl 0 rfl) ?_
      refine lv_iload_n hx hb dX6_sourceChar_32 rfl (lv_at hl 3 rfl) ?_
      obtain ⟨hk18, hd⟩ := m_g_e hd
      obtain ⟨r19, w20, hc21, hd⟩ := m_b_e hd
      refine m_calli (k := 45) (n := 6326) (va_runV (As := [.int (p1)]) (rest := []) ⟨hx, hb, hml, hown, hts⟩ (c_J4_charAt_5068e l G w15 w20 r9 p1 r19 hc21) (cwV 1 hts gX6_sourceChar_J4_charAt_5068e rfl rfl rfl (by decide +kernel) ⟨(Nat.le_of_ble_eq_true rfl), (Nat.le_of_ble_eq_true rfl)⟩) (m_preV (C := RJ4) (T := TJ4) (N := 4) hM hP hS rfl (by decide) hk18) rfl rfl hl.1 rfl (lv_room (Nat.le_of_ble_eq_true rfl)) dX6_sourceChar_33 ⟨(Nat.le_of_ble_eq_true rfl), (Nat.le_of_ble_eq_true rfl)⟩) hS ⟨(Nat.le_of_ble_eq_true rfl), (Nat.le_of_ble_eq_true rfl)⟩ (fun H locs hP hS => ?_)
      obtain ⟨hn22, hd⟩ := m_g_e hd
      obtain ⟨e1, e2⟩ := m_s_e hd
      refine vx_ret ?_
      refine W.widen (k := 46) (n := 6332) (Nat.le_of_ble_eq_true rfl) (Nat.le_of_ble_eq_true rfl) ?_
      exact W.zret hx hb hr (m_narC hn22).1 (fun t ht hW => ⟨⟨_, w20, rfl, ⟨e1, e2⟩, by show mP _ _ t.heap; rw [ht]; exact hP⟩, hS.F ht⟩) hS.2.2 dX6_sourceChar_36
    · have hd := m_i_f c17 hd
      refine W.widen (k := 45) (n := 6326) (Nat.le_of_ble_eq_true rfl) (Nat.le_of_ble_eq_true rfl) ?_
      exact J21 w15 _ _ _ hd hP hS (lv_sub hl [] rfl)


noncomputable def e_X6_grant_34 (w : mW)  : Option ((Int32 ⊕ String) × mW) := some (.inr "java/lang/IllegalArgumentException", w)
noncomputable def e_X6_grant (w : mW) (h : Nat) (p0 : Int32) (p1 : Int32) (p2 : Int32) : Option ((Int32 ⊕ String) × mW) := m_t (e_X6_requireUser w p0) fun r4 w2 => m_g (m_kd w2 h = 10) <| m_t (e_X6_requireCell w2 h p1) fun r11 w9 => if p0 = (0 : Int32) then (some (.inr "java/lang/IndexOutOfBoundsException", w9)) else (if p2 < (0 : Int32) then (e_X6_grant_34 w9) else (if p2 ≤ 3 then (m_g (m_kd w9 r11 = 5) <| m_b (e_X1_rightOf w9 r11 p0) fun r18 w19 => m_g (m_kd w19 r11 = 5) <| m_b (e_X1_giveRight w19 r11 p0 p2) fun r22 w23 => some (.inl r18, w23)) else (e_X6_grant_34 w9)))
set_option maxHeartbeats 1000000 in
set_option maxRecDepth 100000 in
theorem c_X6_grant (l : Launch) (hst : l.stackTraces = false) (G : m_G) (w w' : mW) (h : Nat) (p0 : Int32) (p1 : Int32) (p2 : Int32) (o : Int32 ⊕ String) (hd : e_X6_grant w h p0 p1 p2 = some (o, w')) : vx_Met l yX6_grant wsX6_grant ({ frames := 9, cells := 3, slots := 18, locals := 161 } : Room) (m_Pc G w [.ref (h), .int (p0), .int (p1), .int (p2)]) (m_Xi G o w') (m_XC G o w') 3 18 (fun q => G.1 ≤ q) := by
  refine vx_ofW (cc := cX6_grant) (maxL := 6) (ret := (some .int)) (by decide +kernel) rfl ?_
  intro p e s m args below meth c s₁ B hml hout hv
  obtain ⟨rfl, hM, hP⟩ := hv
  have hx := B.exec
  have hb := B.bytes
  have hr := B.returns
  have hts := atoms_spec (ws := wsX6_grant) B.pre
  have hown : s.vm.findClass RX6 = some m.cls := findClass_of_methodNamed B.named
  have hlocks := B.notSynchronized
  have hS : va_S (fun q => G.1 ≤ q) s.heap s.heap [] := va_S.rf
  have J34 : ∀ (w : mW) (H : Heap) (locs : List Loc) (ls : Array Slot), e_X6_grant_34 w = some (o, w') → mP G w H → va_S (fun q => G.1 ≤ q) s.heap H locs → lv_has ls 6 [] → W p l e ({ frames := 9, cells := 3, slots := 18, locals := 161 } : Room) s m ([.ref (h), .int (p0), .int (p1), .int (p2)] : List Value).toArray below meth c H locs 2 12 (vx_MQ below (m_Xi G o w') (m_XC G o w') ([.ref (h), .int (p0), .int (p1), .int (p2)] : List Value).toArray s 3 18 (fun q => G.1 ≤ q)) (F0 m 34 ls []) := by
    intro w H locs ls hd hP hS hl
    obtain ⟨e1, e2⟩ := m_s_e hd
    exact m_throwS (own := RX6) (E := "java/lang/IllegalArgumentException") (ik := 79) (is := 151) (ic := 83) (text := "no such right") (w := w) hx hb hst hown (hts (.classLink RX6 79 "java/lang/IllegalArgumentException") (by decide +kernel)) (hts (.initialized "java/lang/IllegalArgumentException") (by decide +kernel)) (m_hat (E := "java/lang/IllegalArgumentException") (fun w h => hts w ((by decide +kernel : ∀ w ∈ (vx_atS RX6 83 "java/lang/IllegalArgumentException" ["java/lang/RuntimeException", "java/lang/Exception"]).filter goodWord, w ∈ wsX6_grant) w h)) (by decide +kernel) hM.2.1.2.1 (by decide)) (by decide +kernel) (by decide +kernel) (by decide) (by decide +kernel) ⟨rfl, by decide⟩ hM hP hS (hl.1.trans hml.symm) dX6_grant_34 dX6_grant_37 dX6_grant_38 dX6_grant_40 dX6_grant_43 hout (Nat.le_of_ble_eq_true rfl) (Nat.le_of_ble_eq_true rfl) (Nat.le_of_ble_eq_true rfl) (Nat.le_of_ble_eq_true rfl) hlocks e1 e2 (Nat.le_of_ble_eq_true rfl) (Nat.le_of_ble_eq_true rfl)
  have hl := lv_entry ([.ref (h), .int (p0), .int (p1), .int (p2)]) (n := 6) (Nat.le_of_ble_eq_true rfl)
  rw [lg_entry_eq]
  generalize (lg_sl ([.ref (h), .int (p0), .int (p1), .int (p2)]) ++ List.replicate (6 - (lg_sl ([.ref (h), .int (p0), .int (p1), .int (p2)])).length) Slot.unset).toArray = ls at hl ⊢
  have hl : lv_has ls 6 [(0, .ref (h)), (1, .int (p0)), (2, .int (p1)), (3, .int (p2))] := hl
  refine lv_iload_n hx hb dX6_grant_0 rfl (lv_at hl 1 rfl) ?_
  obtain ⟨o1, w2, hc3, hx5, hd⟩ := m_t_e hd
  refine m_callxv (k := 1) (n := 6) (vx_runS (As := [.int (p0)]) (rest := []) ⟨hx, hb, hml, hown, hts⟩ (c_X6_requireUser l hst G w w2 p0 o1 hc3) (va_cwS 1 hts gX6_grant_X6_requireUser rfl rfl rfl (by decide +kernel) ⟨(Nat.le_of_ble_eq_true rfl), (Nat.le_of_ble_eq_true rfl)⟩) (m_preS hM hP hS) rfl rfl hl.1 rfl (lv_room (Nat.le_of_ble_eq_true rfl)) dX6_grant_1 ⟨(Nat.le_of_ble_eq_true rfl), (Nat.le_of_ble_eq_true rfl)⟩) hS ⟨⟨(Nat.le_of_ble_eq_true rfl), (Nat.le_of_ble_eq_true rfl)⟩, (Nat.le_of_ble_eq_true rfl), (Nat.le_of_ble_eq_true rfl)⟩ hout hlocks hx5 (fun r4 ho6 H locs hP hS => ?_)
  have hd := hd r4 ho6
  refine lv_aload_n hx hb dX6_grant_4 rfl (lv_at hl 0 rfl) ?_
  refine lv_iload_n hx hb dX6_grant_5 rfl (lv_at hl 2 rfl) ?_
  obtain ⟨hk7, hd⟩ := m_g_e hd
  obtain ⟨o8, w9, hc10, hx12, hd⟩ := m_t_e hd
  refine m_callxq (k := 2) (n := 12) (vx_runV (As := [.int (p1)]) (rest := []) ⟨hx, hb, hml, hown, hts⟩ (c_X6_requireCell l hst G w2 w9 h p1 o8 hc10) (cwV 1 hts gX6_grant_X6_requireCell rfl rfl rfl (by decide +kernel) ⟨(Nat.le_of_ble_eq_true rfl), (Nat.le_of_ble_eq_true rfl)⟩) (m_preV (C := RX6) (T := TX6) (N := 8) hM hP hS rfl (by decide) hk7) rfl rfl hl.1 rfl (lv_room (Nat.le_of_ble_eq_true rfl)) dX6_grant_6 ⟨(Nat.le_of_ble_eq_true rfl), (Nat.le_of_ble_eq_true rfl)⟩) hS ⟨⟨(Nat.le_of_ble_eq_true rfl), (Nat.le_of_ble_eq_true rfl)⟩, (Nat.le_of_ble_eq_true rfl), (Nat.le_of_ble_eq_true rfl)⟩ hout hlocks hx12 (fun r11 ho13 H locs hP hS => ?_)
  have hd := hd r11 ho13
  refine lv_astore (lv' := [(4, .ref (r11)), (0, .ref (h)), (1, .int (p0)), (2, .int (p1)), (3, .int (p2))]) hx hb dX6_grant_9 hl (by decide) rfl (fun ls hl => ?_)
  refine lv_iload_n hx hb dX6_grant_11 rfl (lv_at hl 2 rfl) ?_
  refine lv_if_ne (tgt := 25) hx hb dX6_grant_12 (by decide) (fun c14 => ?_) (fun c14 => ?_)
  · have hd := m_i_f c14 hd
    refine lv_iload_n hx hb dX6_grant_25 rfl (lv_at hl 4 rfl) ?_
    refine lv_if_lt (tgt := 34) hx hb dX6_grant_26 (by decide) (fun c15 => ?_) (fun c15 => ?_)
    · have hd := m_i_t c15 hd
      refine W.widen (k := 2) (n := 12) (Nat.le_of_ble_eq_true rfl) (Nat.le_of_ble_eq_true rfl) ?_
      exact J34 w9 _ _ _ hd hP hS (lv_sub hl [] rfl)
    · have hd := m_i_f c15 hd
      refine lv_iload_n hx hb dX6_grant_29 rfl (lv_at hl 4 rfl) ?_
      refine lv_iconst (v := 3) hx hb dX6_grant_30 (by decide) ?_
      refine lv_icmp_le (tgt := 44) hx hb dX6_grant_31 (by decide) (fun c16 => ?_) (fun c16 => ?_)
      · have hd := m_i_t c16 hd
        refine lv_aload hx hb dX6_grant_44 (lv_at hl 0 rfl) ?_
        refine lv_iload_n hx hb dX6_grant_46 rfl (lv_at hl 2 rfl) ?_
        obtain ⟨hk17, hd⟩ := m_g_e hd
        obtain ⟨r18, w19, hc20, hd⟩ := m_b_e hd
        refine m_calli (k := 2) (n := 12) (va_runV (As := [.int (p0)]) (rest := []) ⟨hx, hb, hml, hown, hts⟩ (c_X1_rightOf l G w9 w19 r11 p0 r18 hc20) (cwV 1 hts gX6_grant_X1_rightOf rfl rfl rfl (by decide +kernel) ⟨(Nat.le_of_ble_eq_true rfl), (Nat.le_of_ble_eq_true rfl)⟩) (m_preV (C := RX1) (T := TX1) (N := 4) hM hP hS rfl (by decide) hk17) rfl rfl hl.1 rfl (lv_room (Nat.le_of_ble_eq_true rfl)) dX6_grant_47 ⟨(Nat.le_of_ble_eq_true rfl), (Nat.le_of_ble_eq_true rfl)⟩) hS ⟨(Nat.le_of_ble_eq_true rfl), (Nat.le_of_ble_eq_true rfl)⟩ (fun H locs hP hS => ?_)
        refine lv_istore (lv' := [(5, .int (r18)), (4, .ref (r11)), (0, .ref (h)), (1, .int (p0)), (2, .int (p1)), (3, .int (p2))]) hx hb dX6_grant_50 hl (by decide) rfl (fun ls hl => ?_)
        refine lv_aload hx hb dX6_grant_52 (lv_at hl 1 rfl) ?_
        refine lv_iload_n hx hb dX6_grant_54 rfl (lv_at hl 3 rfl) ?_
        refine lv_iload_n hx hb dX6_grant_55 rfl (lv_at hl 5 rfl) ?_
        obtain ⟨hk21, hd⟩ := m_g_e hd
        obtain ⟨r22, w23, hc24, hd⟩ := m_b_e hd
        refine m_callv (k := 2) (n := 12) (va_runV (As := [.int (p0), .int (p2)]) (rest := []) ⟨hx, hb, hml, hown, hts⟩ (c_X1_giveRight l G w19 w23 r11 p0 p2 r22 hc24) (cwV 2 hts gX6_grant_X1_giveRight rfl rfl rfl (by decide +kernel) ⟨(Nat.le_of_ble_eq_true rfl), (Nat.le_of_ble_eq_true rfl)⟩) (m_preV (C := RX1) (T := TX1) (N := 4) hM hP hS rfl (by decide) hk21) rfl rfl hl.1 rfl (lv_room (Nat.le_of_ble_eq_true rfl)) dX6_grant_56 ⟨(Nat.le_of_ble_eq_true rfl), (Nat.le_of_ble_eq_true rfl)⟩) hS ⟨(Nat.le_of_ble_eq_true rfl), (Nat.le_of_ble_eq_true rfl)⟩ (fun H locs hP hS => ?_)
        refine lv_iload hx hb dX6_grant_59 (lv_at hl 0 rfl) ?_
        obtain ⟨e1, e2⟩ := m_s_e hd
        refine vx_ret ?_
        refine W.widen (k := 3) (n := 18) (Nat.le_of_ble_eq_true rfl) (Nat.le_of_ble_eq_true rfl) ?_
        exact W.iret hx hb hr (fun t ht hW => ⟨⟨_, w23, rfl, ⟨e1, e2⟩, by show mP _ _ t.heap; rw [ht]; exact hP⟩, hS.F ht⟩) hS.2.2 dX6_grant_61
      · have hd := m_i_f c16 hd
        refine W.widen (k := 2) (n := 12) (Nat.le_of_ble_eq_true rfl) (Nat.le_of_ble_eq_true rfl) ?_
        exact J34 w9 _ _ _ hd hP hS (lv_sub hl [] rfl)
  · have hd := m_i_t c14 hd
    obtain ⟨e1, e2⟩ := m_s_e hd
    exact m_throwS (own := RX6) (E := "java/lang/IndexOutOfBoundsException") (ik := 140) (is := 149) (ic := 144) (text := "the host is no guest") (w := w9) hx hb hst hown (hts (.classLink RX6 140 "java/lang/IndexOutOfBoundsException") (by decide +kernel)) (hts (.initialized "java/lang/IndexOutOfBoundsException") (by decide +kernel)) (m_hat (E := "java/lang/IndexOutOfBoundsException") (fun w h => hts w ((by decide +kernel : ∀ w ∈ (vx_atS RX6 144 "java/lang/IndexOutOfBoundsException" ["java/lang/RuntimeException", "java/lang/Exception"]).filter goodWord, w ∈ wsX6_grant) w h)) (by decide +kernel) hM.2.1.2.1 (by decide)) (by decide +kernel) (by decide +kernel) (by decide) (by decide +kernel) ⟨rfl, by decide⟩ hM hP hS (hl.1.trans hml.symm) dX6_grant_15 dX6_grant_18 dX6_grant_19 dX6_grant_21 dX6_grant_24 hout (Nat.le_of_ble_eq_true rfl) (Nat.le_of_ble_eq_true rfl) (Nat.le_of_ble_eq_true rfl) (Nat.le_of_ble_eq_true rfl) hlocks e1 e2 (Nat.le_of_ble_eq_true rfl) (Nat.le_of_ble_eq_true rfl)


noncomputable def e_X6_right (w : mW) (h : Nat) (p0 : Int32) (p1 : Int32) : Option ((Int32 ⊕ String) × mW) := m_t (e_X6_requireUser w p0) fun r4 w2 => m_g (m_kd w2 h = 10) <| m_t (e_X6_requireCell w2 h p1) fun r11 w9 => m_g (m_kd w9 r11 = 5) <| m_b (e_X1_rightOf w9 r11 p0) fun r15 w16 => some (.inl r15, w16)
set_option maxHeartbeats 1000000 in
set_option maxRecDepth 100000 in
theorem c_X6_right (l : Launch) (hst : l.stackTraces = false) (G : m_G) (w w' : mW) (h : Nat) (p0 : Int32) (p1 : Int32) (o : Int32 ⊕ String) (hd : e_X6_right w h p0 p1 = some (o, w')) : vx_Met l yX6_right wsX6_right ({ frames := 9, cells := 2, slots := 12, locals := 161 } : Room) (m_Pc G w [.ref (h), .int (p0), .int (p1)]) (m_Xi G o w') (m_XC G o w') 2 12 (fun q => G.1 ≤ q) := by
  refine vx_ofW (cc := cX6_right) (maxL := 3) (ret := (some .int)) (by decide +kernel) rfl ?_
  intro p e s m args below meth c s₁ B hml hout hv
  obtain ⟨rfl, hM, hP⟩ := hv
  have hx := B.exec
  have hb := B.bytes
  have hr := B.returns
  have hts := atoms_spec (ws := wsX6_right) B.pre
  have hown : s.vm.findClass RX6 = some m.cls := findClass_of_methodNamed B.named
  have hlocks := B.notSynchronized
  have hS : va_S (fun q => G.1 ≤ q) s.heap s.heap [] := va_S.rf
  have hl := lv_entry ([.ref (h), .int (p0), .int (p1)]) (n := 3) (Nat.le_of_ble_eq_true rfl)
  rw [lg_entry_eq]
  generalize (lg_sl ([.ref (h), .int (p0), .int (p1)]) ++ List.replicate (3 - (lg_sl ([.ref (h), .int (p0), .int (p1)])).length) Slot.unset).toArray = ls at hl ⊢
  have hl : lv_has ls 3 [(0, .ref (h)), (1, .int (p0)), (2, .int (p1))] := hl
  refine lv_iload_n hx hb dX6_right_0 rfl (lv_at hl 1 rfl) ?_
  obtain ⟨o1, w2, hc3, hx5, hd⟩ := m_t_e hd
  refine m_callxv (k := 1) (n := 6) (vx_runS (As := [.int (p0)]) (rest := []) ⟨hx, hb, hml, hown, hts⟩ (c_X6_requireUser l hst G w w2 p0 o1 hc3) (va_cwS 1 hts gX6_right_X6_requireUser rfl rfl rfl (by decide +kernel) ⟨(Nat.le_of_ble_eq_true rfl), (Nat.le_of_ble_eq_true rfl)⟩) (m_preS hM hP hS) rfl rfl hl.1 rfl (lv_room (Nat.le_of_ble_eq_true rfl)) dX6_right_1 ⟨(Nat.le_of_ble_eq_true rfl), (Nat.le_of_ble_eq_true rfl)⟩) hS ⟨⟨(Nat.le_of_ble_eq_true rfl), (Nat.le_of_ble_eq_true rfl)⟩, (Nat.le_of_ble_eq_true rfl), (Nat.le_of_ble_eq_true rfl)⟩ hout hlocks hx5 (fun r4 ho6 H locs hP hS => ?_)
  have hd := hd r4 ho6
  refine lv_aload_n hx hb dX6_right_4 rfl (lv_at hl 0 rfl) ?_
  refine lv_iload_n hx hb dX6_right_5 rfl (lv_at hl 2 rfl) ?_
  obtain ⟨hk7, hd⟩ := m_g_e hd
  obtain ⟨o8, w9, hc10, hx12, hd⟩ := m_t_e hd
  refine m_callxq (k := 2) (n := 12) (vx_runV (As := [.int (p1)]) (rest := []) ⟨hx, hb, hml, hown, hts⟩ (c_X6_requireCell l hst G w2 w9 h p1 o8 hc10) (cwV 1 hts gX6_right_X6_requireCell rfl rfl rfl (by decide +kernel) ⟨(Nat.le_of_ble_eq_true rfl), (Nat.le_of_ble_eq_true rfl)⟩) (m_preV (C := RX6) (T := TX6) (N := 8) hM hP hS rfl (by decide) hk7) rfl rfl hl.1 rfl (lv_room (Nat.le_of_ble_eq_true rfl)) dX6_right_6 ⟨(Nat.le_of_ble_eq_true rfl), (Nat.le_of_ble_eq_true rfl)⟩) hS ⟨⟨(Nat.le_of_ble_eq_true rfl), (Nat.le_of_ble_eq_true rfl)⟩, (Nat.le_of_ble_eq_true rfl), (Nat.le_of_ble_eq_true rfl)⟩ hout hlocks hx12 (fun r11 ho13 H locs hP hS => ?_)
  have hd := hd r11 ho13
  refine lv_iload_n hx hb dX6_right_9 rfl (lv_at hl 1 rfl) ?_
  obtain ⟨hk14, hd⟩ := m_g_e hd
  obtain ⟨r15, w16, hc17, hd⟩ := m_b_e hd
  refine m_calli (k := 2) (n := 12) (va_runV (As := [.int (p0)]) (rest := []) ⟨hx, hb, hml, hown, hts⟩ (c_X1_rightOf l G w9 w16 r11 p0 r15 hc17) (cwV 1 hts gX6_right_X1_rightOf rfl rfl rfl (by decide +kernel) ⟨(Nat.le_of_ble_eq_true rfl), (Nat.le_of_ble_eq_true rfl)⟩) (m_preV (C := RX1) (T := TX1) (N := 4) hM hP hS rfl (by decide) hk14) rfl rfl hl.1 rfl (lv_room (Nat.le_of_ble_eq_true rfl)) dX6_right_10 ⟨(Nat.le_of_ble_eq_true rfl), (Nat.le_of_ble_eq_true rfl)⟩) hS ⟨(Nat.le_of_ble_eq_true rfl), (Nat.le_of_ble_eq_true rfl)⟩ (fun H locs hP hS => ?_)
  obtain ⟨e1, e2⟩ := m_s_e hd
  refine vx_ret ?_
  refine W.widen (k := 2) (n := 12) (Nat.le_of_ble_eq_true rfl) (Nat.le_of_ble_eq_true rfl) ?_
  exact W.iret hx hb hr (fun t ht hW => ⟨⟨_, w16, rfl, ⟨e1, e2⟩, by show mP _ _ t.heap; rw [ht]; exact hP⟩, hS.F ht⟩) hS.2.2 dX6_right_13


noncomputable def e_X6_makeRun_92 (t0 : Nat × Nat × Nat × Nat) (w : mW) (s0 : Int32) : Option (Int32 × mW) := m_g (vp_nar .boolean s0 = s0) <| some (s0, w)
noncomputable def e_X6_makeRun (t0 : Nat × Nat × Nat × Nat) (w : mW) (h : Nat) (p0 : Int32) (p1 : Nat) : Option (Int32 × mW) := m_g (m_kd w h = 10) <| m_o (m_fr w 9 2 h) fun r2 => m_g (m_kd w r2 = 3) <| m_b (e_Jx4a65c_size_8abf5 w r2) fun r4 w5 => m_g (m_kd w5 h = 10) <| m_o (m_fr w5 9 7 h) fun r8 => m_g (m_kd w5 p1 = 5) <| m_o (m_fr w5 4 1 p1) fun r10 => m_o (m_fr w5 9 5 h) fun r11 => m_g (m_kd w5 r11 = 8) <| m_o (m_fr w5 7 0 r11) fun r13 => m_g (m_kd w5 r8 = 4) <| m_b (e_X0_perform w5 r8 r10 r13 (r4 + 1)) fun r15 w16 => m_l (m_nO w16 6) fun w18 => m_g (m_kd w18 h = 10) <| m_o (m_fr w18 9 7 h) fun r21 => m_b (e_X3_init w18 (m_nx w16) (r4 + 1) p1 p0 r21) fun r22 w23 => m_g (m_kd w23 h = 10) <| m_o (m_fr w23 9 2 h) fun r26 => m_g (m_kd w23 r26 = 3) <| m_b (e_Jx4a65c_add_9ea2d t0 w23 r26 (m_nx w16)) fun r28 w29 => m_g (m_kd w29 h = 10) <| m_o (m_fr w29 9 3 h) fun r32 => m_g (m_kd w29 r32 = 3) <| m_b (e_Jx4a65c_add_9ea2d t0 w29 r32 (m_nx w16)) fun r34 w35 => m_g (m_kd w35 h = 10) <| m_o (m_fr w35 9 5 h) fun r38 => m_g (m_kd w35 p1 = 5) <| m_g (m_kd w35 r38 = 8) <| m_b (e_X4_setLastRun w35 r38 (m_fi w35 4 0 p1) (r4 + 1)) fun r41 w42 => m_g (m_kd w42 h = 10) <| m_o (m_fr w42 9 7 h) fun r45 => m_g (m_kd w42 r45 = 4) <| if (m_fi w42 3 0 r45) = (0 : Int32) then (e_X6_makeRun_92 t0 w42 1) else (e_X6_makeRun_92 t0 w42 0)
set_option maxHeartbeats 1000000 in
set_option maxRecDepth 100000 in
theorem c_X6_makeRun (l : Launch) (G : m_G) (w w' : mW) (h : Nat) (p0 : Int32) (p1 : Nat) (r : Int32) (hd : e_X6_makeRun G.2.2.2 w h p0 p1 = some (r, w')) : Met l yX6_makeRun wsX6_makeRun ({ frames := 8, cells := 4, slots := 1215, locals := 211 } : Room) (m_Pc G w [.ref (h), .int (p0), .ref (p1)]) (m_Qi G r w') 4 1215 (fun q => G.1 ≤ q) := by
  refine Met.ofW (cc := cX6_makeRun) (maxL := 5) (ret := (some .boolean)) (by decide +kernel) rfl ?_
  intro p e s m args below meth c s₁ B hml hv
  obtain ⟨rfl, hM, hP⟩ := hv
  have hx := B.exec
  have hb := B.bytes
  have hr := B.returns
  have hts := atoms_spec (ws := wsX6_makeRun) B.pre
  have hown : s.vm.findClass RX6 = some m.cls := findClass_of_methodNamed B.named
  have hlocks := B.notSynchronized
  have hin3 : ∀ w ∈ u_ws RX0 TX0 7, w ∈ wsX6_makeRun := by decide +kernel
  have hin4 : ∀ w ∈ u_ws RX1 TX1 4, w ∈ wsX6_makeRun := by decide +kernel
  have hin6 : ∀ w ∈ u_ws RX3 TX3 7, w ∈ wsX6_makeRun := by decide +kernel
  have hin7 : ∀ w ∈ u_ws RX4 TX4 2, w ∈ wsX6_makeRun := by decide +kernel
  have hin9 : ∀ w ∈ u_ws RX6 TX6 8, w ∈ wsX6_makeRun := by decide +kernel
  have hS : va_S (fun q => G.1 ≤ q) s.heap s.heap [] := va_S.rf
  have J92 : ∀ (w : mW) (s0 : Int32) (H : Heap) (locs : List Loc) (ls : Array Slot), e_X6_makeRun_92 G.2.2.2 w s0 = some (r, w') → mP G w H → va_S (fun q => G.1 ≤ q) s.heap H locs → lv_has ls 5 [] → W p l e ({ frames := 8, cells := 4, slots := 1215, locals := 211 } : Room) s m ([.ref (h), .int (p0), .ref (p1)] : List Value).toArray below meth c H locs 4 1215 (MQ below (m_Qi G r w') ([.ref (h), .int (p0), .ref (p1)] : List Value).toArray s 4 1215 (fun q => G.1 ≤ q)) (F0 m 92 ls [.int (s0)]) := by
    intro w s0 H locs ls hd hP hS hl
    obtain ⟨hn148, hd⟩ := m_g_e hd
    obtain ⟨e1, e2⟩ := m_s_e hd
    refine W.widen (k := 4) (n := 1215) (Nat.le_of_ble_eq_true rfl) (Nat.le_of_ble_eq_true rfl) ?_
    exact W.zret hx hb hr (m_narZ hn148).1 (fun t ht hW => ⟨⟨_, w, rfl, ⟨e1, e2⟩, by show mP _ _ t.heap; rw [ht]; exact hP⟩, hS.F ht⟩) hS.2.2 dX6_makeRun_92
  have hl := lv_entry ([.ref (h), .int (p0), .ref (p1)]) (n := 5) (Nat.le_of_ble_eq_true rfl)
  rw [lg_entry_eq]
  generalize (lg_sl ([.ref (h), .int (p0), .ref (p1)]) ++ List.replicate (5 - (lg_sl ([.ref (h), .int (p0), .ref (p1)])).length) Slot.unset).toArray = ls at hl ⊢
  have hl : lv_has ls 5 [(0, .ref (h)), (1, .int (p0)), (2, .ref (p1))] := hl
  refine lv_aload_n hx hb dX6_makeRun_0 rfl (lv_at hl 0 rfl) ?_
  obtain ⟨hk1, hd⟩ := m_g_e hd
  obtain ⟨r2, hr2, hd⟩ := m_o_e hd
  refine m_getR (C := RX6) (T := TX6) (N := 8) (own := RX6) (ref := RX6) hx hb hts hin9 hown hM.1 hP 9 rfl 2 (r := r2) ⟨hk1, hr2⟩ (by decide) (hts (.fieldLink RX6 19 "CellNotebook" "allRuns" "Ljava/util/ArrayList;") (by decide +kernel)) (fun _ h9 => h9) dX6_makeRun_1 ?_
  obtain ⟨hk3, hd⟩ := m_g_e hd
  obtain ⟨r4, w5, hc6, hd⟩ := m_b_e hd
  refine m_calli (k := 0) (n := 0) (va_runV (As := []) (rest := []) ⟨hx, hb, hml, hown, hts⟩ (c_Jx4a65c_size_8abf5 l G w w5 r2 r4 hc6) (cwV 0 hts gX6_makeRun_Jx4a65c_size_8abf5 rfl rfl rfl (by decide +kernel) ⟨(Nat.le_of_ble_eq_true rfl), (Nat.le_of_ble_eq_true rfl)⟩) (m_preV (C := RJx4a65c) (T := TJx4a65c) (N := 3) hM hP hS rfl (by decide) hk3) rfl rfl hl.1 rfl (lv_room (Nat.le_of_ble_eq_true rfl)) dX6_makeRun_4 ⟨(Nat.le_of_ble_eq_true rfl), (Nat.le_of_ble_eq_true rfl)⟩) hS ⟨(Nat.le_of_ble_eq_true rfl), (Nat.le_of_ble_eq_true rfl)⟩ (fun H locs hP hS => ?_)
  refine lv_iconst (v := 1) hx hb dX6_makeRun_7 (by decide) ?_
  refine lv_iadd hx hb dX6_makeRun_8 ?_
  refine lv_istore_n (lv' := [(3, .int (r4 + 1)), (0, .ref (h)), (1, .int (p0)), (2, .ref (p1))]) hx hb dX6_makeRun_9 rfl hl (by decide) rfl (fun ls hl => ?_)
  refine lv_aload_n hx hb dX6_makeRun_10 rfl (lv_at hl 1 rfl) ?_
  obtain ⟨hk7, hd⟩ := m_g_e hd
  obtain ⟨r8, hr8, hd⟩ := m_o_e hd
  refine m_getR (C := RX6) (T := TX6) (N := 8) (own := RX6) (ref := RX6) hx hb hts hin9 hown hM.1 hP 9 rfl 7 (r := r8) ⟨hk7, hr8⟩ (by decide) (hts (.fieldLink RX6 45 "CellNotebook" "attempt" "LCellNotebook$Attempt;") (by decide +kernel)) (fun _ h9 => h9) dX6_makeRun_11 ?_
  refine lv_aload_n hx hb dX6_makeRun_14 rfl (lv_at hl 3 rfl) ?_
  obtain ⟨hk9, hd⟩ := m_g_e hd
  obtain ⟨r10, hr10, hd⟩ := m_o_e hd
  refine m_getR (C := RX1) (T := TX1) (N := 4) (own := RX6) (ref := RX1) hx hb hts hin4 hown hM.1 hP 4 rfl 1 (r := r10) ⟨hk9, hr10⟩ (by decide) (hts (.fieldLink RX6 94 "CellNotebook$Cell" "program" "Ljava/util/ArrayList;") (by decide +kernel)) (fun _ h9 => h9) dX6_makeRun_15 ?_
  refine lv_aload_n hx hb dX6_makeRun_18 rfl (lv_at hl 1 rfl) ?_
  obtain ⟨r11, hr11, hd⟩ := m_o_e hd
  refine m_getR (C := RX6) (T := TX6) (N := 8) (own := RX6) (ref := RX6) hx hb hts hin9 hown hM.1 hP 9 rfl 5 (r := r11) ⟨hk7, hr11⟩ (by decide) (hts (.fieldLink RX6 31 "CellNotebook" "now" "LCellNotebook$Session;") (by decide +kernel)) (fun _ h9 => h9) dX6_makeRun_19 ?_
  obtain ⟨hk12, hd⟩ := m_g_e hd
  obtain ⟨r13, hr13, hd⟩ := m_o_e hd
  refine m_getR (C := RX4) (T := TX4) (N := 2) (own := RX6) (ref := RX4) hx hb hts hin7 hown hM.1 hP 7 rfl 0 (r := r13) ⟨hk12, hr13⟩ (by decide) (hts (.fieldLink RX6 177 "CellNotebook$Session" "names" "LCellNotebook$Names;") (by decide +kernel)) (fun _ h9 => h9) dX6_makeRun_22 ?_
  refine lv_iload_n hx hb dX6_makeRun_25 rfl (lv_at hl 0 rfl) ?_
  obtain ⟨hk14, hd⟩ := m_g_e hd
  obtain ⟨r15, w16, hc17, hd⟩ := m_b_e hd
  refine m_callv (k := 0) (n := 0) (va_runV (As := [.ref (r10), .ref (r13), .int (r4 + 1)]) (rest := []) ⟨hx, hb, hml, hown, hts⟩ (c_X0_perform l G w5 w16 r8 r10 r13 (r4 + 1) r15 hc17) (cwV 3 hts gX6_makeRun_X0_perform rfl rfl rfl (by decide +kernel) ⟨(Nat.le_of_ble_eq_true rfl), (Nat.le_of_ble_eq_true rfl)⟩) (m_preV (C := RX0) (T := TX0) (N := 7) hM hP hS rfl (by decide) hk14) rfl rfl hl.1 rfl (lv_room (Nat.le_of_ble_eq_true rfl)) dX6_makeRun_26 ⟨(Nat.le_of_ble_eq_true rfl), (Nat.le_of_ble_eq_true rfl)⟩) hS ⟨(Nat.le_of_ble_eq_true rfl), (Nat.le_of_ble_eq_true rfl)⟩ (fun H locs hP hS => ?_)
  refine m_new (C := RX3) (T := TX3) (N := 7) (own := RX6) hx hb hts hin6 tyX3 tyX3_ok hown (hts (.classLink RX6 198 RX3) (by decide +kernel)) (hts (.instantiable RX3 7) (by decide +kernel)) (hts (.initialized RX3) (by decide +kernel)) hM.1 hP hS 6 rfl ⟨by decide, by decide, m_dfX3⟩ (Nat.le_of_ble_eq_true rfl) (Nat.le_of_ble_eq_true rfl) dX6_makeRun_29 (fun H hP hS => ?_)
  obtain ⟨w18, ew, hd⟩ := m_l_e hd
  have hP : mP G w18 H := by rw [ew]; exact hP
  have hk19 : m_kd w18 (m_nx w16) = 7 := by rw [ew]; exact m_nO_new
  refine lv_dup hx hb dX6_makeRun_32 rfl ?_
  refine lv_iload_n hx hb dX6_makeRun_33 rfl (lv_at hl 0 rfl) ?_
  refine lv_aload_n hx hb dX6_makeRun_34 rfl (lv_at hl 3 rfl) ?_
  refine lv_iload_n hx hb dX6_makeRun_35 rfl (lv_at hl 2 rfl) ?_
  refine lv_aload_n hx hb dX6_makeRun_36 rfl (lv_at hl 1 rfl) ?_
  obtain ⟨hk20, hd⟩ := m_g_e hd
  obtain ⟨r21, hr21, hd⟩ := m_o_e hd
  refine m_getR (C := RX6) (T := TX6) (N := 8) (own := RX6) (ref := RX6) hx hb hts hin9 hown hM.1 hP 9 rfl 7 (r := r21) ⟨hk20, hr21⟩ (by decide) (hts (.fieldLink RX6 45 "CellNotebook" "attempt" "LCellNotebook$Attempt;") (by decide +kernel)) (fun _ h9 => h9) dX6_makeRun_37 ?_
  obtain ⟨r22, w23, hc24, hd⟩ := m_b_e hd
  refine m_callv (k := 2) (n := 15) (va_runI (As := [.int (r4 + 1), .ref (p1), .int (p0), .ref (r21)]) (rest := [.ref (m_nx w16)]) ⟨hx, hb, hml, hown, hts⟩ (c_X3_init l G w18 w23 (m_nx w16) (r4 + 1) p1 p0 r21 r22 hc24) (cwI 4 hts gX6_makeRun_X3_init rfl rfl rfl (hts (.initialized RX3) (by decide +kernel)) (hts (.methodLink RX6 274 yX3_init) (by decide +kernel)) (hts (.instanceMethod yX3_init) (by decide +kernel)) rfl (by decide +kernel) ⟨(Nat.le_of_ble_eq_true rfl), (Nat.le_of_ble_eq_true rfl)⟩) (m_preS hM hP hS) rfl rfl hl.1 rfl (lv_room (Nat.le_of_ble_eq_true rfl)) dX6_makeRun_40 ⟨(Nat.le_of_ble_eq_true rfl), (Nat.le_of_ble_eq_true rfl)⟩) hS ⟨(Nat.le_of_ble_eq_true rfl), (Nat.le_of_ble_eq_true rfl)⟩ (fun H locs hP hS => ?_)
  refine lv_astore (lv' := [(4, .ref (m_nx w16)), (3, .int (r4 + 1)), (0, .ref (h)), (1, .int (p0)), (2, .ref (p1))]) hx hb dX6_makeRun_43 hl (by decide) rfl (fun ls hl => ?_)
  refine lv_aload_n hx hb dX6_makeRun_45 rfl (lv_at hl 2 rfl) ?_
  obtain ⟨hk25, hd⟩ := m_g_e hd
  obtain ⟨r26, hr26, hd⟩ := m_o_e hd
  refine m_getR (C := RX6) (T := TX6) (N := 8) (own := RX6) (ref := RX6) hx hb hts hin9 hown hM.1 hP 9 rfl 2 (r := r26) ⟨hk25, hr26⟩ (by decide) (hts (.fieldLink RX6 19 "CellNotebook" "allRuns" "Ljava/util/ArrayList;") (by decide +kernel)) (fun _ h9 => h9) dX6_makeRun_46 ?_
  refine lv_aload hx hb dX6_makeRun_49 (lv_at hl 0 rfl) ?_
  obtain ⟨hk27, hd⟩ := m_g_e hd
  obtain ⟨r28, w29, hc30, hd⟩ := m_b_e hd
  refine m_calli (k := 3) (n := 615) (va_runV (As := [.ref (m_nx w16)]) (rest := []) ⟨hx, hb, hml, hown, hts⟩ (c_Jx4a65c_add_9ea2d l G w23 w29 r26 (m_nx w16) r28 hc30) (cwV 1 hts gX6_makeRun_Jx4a65c_add_9ea2d rfl rfl rfl (by decide +kernel) ⟨(Nat.le_of_ble_eq_true rfl), (Nat.le_of_ble_eq_true rfl)⟩) (m_preV (C := RJx4a65c) (T := TJx4a65c) (N := 3) hM hP hS rfl (by decide) hk27) rfl rfl hl.1 rfl (lv_room (Nat.le_of_ble_eq_true rfl)) dX6_makeRun_51 ⟨(Nat.le_of_ble_eq_true rfl), (Nat.le_of_ble_eq_true rfl)⟩) hS ⟨(Nat.le_of_ble_eq_true rfl), (Nat.le_of_ble_eq_true rfl)⟩ (fun H locs hP hS => ?_)
  refine lv_pop hx hb dX6_makeRun_54 rfl ?_
  refine lv_aload_n hx hb dX6_makeRun_55 rfl (lv_at hl 2 rfl) ?_
  obtain ⟨hk31, hd⟩ := m_g_e hd
  obtain ⟨r32, hr32, hd⟩ := m_o_e hd
  refine m_getR (C := RX6) (T := TX6) (N := 8) (own := RX6) (ref := RX6) hx hb hts hin9 hown hM.1 hP 9 rfl 3 (r := r32) ⟨hk31, hr32⟩ (by decide) (hts (.fieldLink RX6 22 "CellNotebook" "log" "Ljava/util/ArrayList;") (by decide +kernel)) (fun _ h9 => h9) dX6_makeRun_56 ?_
  refine lv_aload hx hb dX6_makeRun_59 (lv_at hl 0 rfl) ?_
  obtain ⟨hk33, hd⟩ := m_g_e hd
  obtain ⟨r34, w35, hc36, hd⟩ := m_b_e hd
  refine m_calli (k := 4) (n := 1215) (va_runV (As := [.ref (m_nx w16)]) (rest := []) ⟨hx, hb, hml, hown, hts⟩ (c_Jx4a65c_add_9ea2d l G w29 w35 r32 (m_nx w16) r34 hc36) (cwV 1 hts gX6_makeRun_Jx4a65c_add_9ea2d rfl rfl rfl (by decide +kernel) ⟨(Nat.le_of_ble_eq_true rfl), (Nat.le_of_ble_eq_true rfl)⟩) (m_preV (C := RJx4a65c) (T := TJx4a65c) (N := 3) hM hP hS rfl (by decide) hk33) rfl rfl hl.1 rfl (lv_room (Nat.le_of_ble_eq_true rfl)) dX6_makeRun_61 ⟨(Nat.le_of_ble_eq_true rfl), (Nat.le_of_ble_eq_true rfl)⟩) hS ⟨(Nat.le_of_ble_eq_true rfl), (Nat.le_of_ble_eq_true rfl)⟩ (fun H locs hP hS => ?_)
  refine lv_pop hx hb dX6_makeRun_64 rfl ?_
  refine lv_aload_n hx hb dX6_makeRun_65 rfl (lv_at hl 2 rfl) ?_
  obtain ⟨hk37, hd⟩ := m_g_e hd
  obtain ⟨r38, hr38, hd⟩ := m_o_e hd
  refine m_getR (C := RX6) (T := TX6) (N := 8) (own := RX6) (ref := RX6) hx hb hts hin9 hown hM.1 hP 9 rfl 5 (r := r38) ⟨hk37, hr38⟩ (by decide) (hts (.fieldLink RX6 31 "CellNotebook" "now" "LCellNotebook$Session;") (by decide +kernel)) (fun _ h9 => h9) dX6_makeRun_66 ?_
  refine lv_aload_n hx hb dX6_makeRun_69 rfl (lv_at hl 4 rfl) ?_
  obtain ⟨hk39, hd⟩ := m_g_e hd
  refine m_getI (C := RX1) (T := TX1) (N := 4) (own := RX6) (ref := RX1) hx hb hts hin4 hown hM.1 hP 4 rfl 0 hk39 (by decide) (hts (.fieldLink RX6 128 "CellNotebook$Cell" "number" "I") (by decide +kernel)) (fun _ h9 => h9) dX6_makeRun_70 ?_
  refine lv_iload_n hx hb dX6_makeRun_73 rfl (lv_at hl 1 rfl) ?_
  obtain ⟨hk40, hd⟩ := m_g_e hd
  obtain ⟨r41, w42, hc43, hd⟩ := m_b_e hd
  refine m_callv (k := 4) (n := 1215) (va_runV (As := [.int (m_fi w35 4 0 p1), .int (r4 + 1)]) (rest := []) ⟨hx, hb, hml, hown, hts⟩ (c_X4_setLastRun l G w35 w42 r38 (m_fi w35 4 0 p1) (r4 + 1) r41 hc43) (cwV 2 hts gX6_makeRun_X4_setLastRun rfl rfl rfl (by decide +kernel) ⟨(Nat.le_of_ble_eq_true rfl), (Nat.le_of_ble_eq_true rfl)⟩) (m_preV (C := RX4) (T := TX4) (N := 2) hM hP hS rfl (by decide) hk40) rfl rfl hl.1 rfl (lv_room (Nat.le_of_ble_eq_true rfl)) dX6_makeRun_74 ⟨(Nat.le_of_ble_eq_true rfl), (Nat.le_of_ble_eq_true rfl)⟩) hS ⟨(Nat.le_of_ble_eq_true rfl), (Nat.le_of_ble_eq_true rfl)⟩ (fun H locs hP hS => ?_)
  refine lv_aload_n hx hb dX6_makeRun_77 rfl (lv_at hl 2 rfl) ?_
  obtain ⟨hk44, hd⟩ := m_g_e hd
  obtain ⟨r45, hr45, hd⟩ := m_o_e hd
  refine m_getR (C := RX6) (T := TX6) (N := 8) (own := RX6) (ref := RX6) hx hb hts hin9 hown hM.1 hP 9 rfl 7 (r := r45) ⟨hk44, hr45⟩ (by decide) (hts (.fieldLink RX6 45 "CellNotebook" "attempt" "LCellNotebook$Attempt;") (by decide +kernel)) (fun _ h9 => h9) dX6_makeRun_78 ?_
  obtain ⟨hk46, hd⟩ := m_g_e hd
  refine m_getI (C := RX0) (T := TX0) (N := 7) (own := RX6) (ref := RX0) hx hb hts hin3 hown hM.1 hP 3 rfl 0 hk46 (by decide) (hts (.fieldLink RX6 280 "CellNotebook$Attempt" "failed" "Z") (by decide +kernel)) (fun _ h9 => h9) dX6_makeRun_81 ?_
  refine lv_if_ne (tgt := 91) hx hb dX6_makeRun_84 (by decide) (fun c47 => ?_) (fun c47 => ?_)
  · have hd := m_i_f c47 hd
    refine lv_iconst (v := 0) hx hb dX6_makeRun_91 (by decide) ?_
    refine W.widen (k := 4) (n := 1215) (Nat.le_of_ble_eq_true rfl) (Nat.le_of_ble_eq_true rfl) ?_
    exact J92 w42 0 _ _ _ hd hP hS (lv_sub hl [] rfl)
  · have hd := m_i_t c47 hd
    refine lv_iconst (v := 1) hx hb dX6_makeRun_87 (by decide) ?_
    refine lv_goto (tgt := 92) hx hb dX6_makeRun_88 (by decide) ?_
    refine W.widen (k := 4) (n := 1215) (Nat.le_of_ble_eq_true rfl) (Nat.le_of_ble_eq_true rfl) ?_
    exact J92 w42 1 _ _ _ hd hP hS (lv_sub hl [] rfl)


noncomputable def e_X6_run (t0 : Nat × Nat × Nat × Nat) (w : mW) (h : Nat) (p0 : Int32) (p1 : Int32) : Option ((Int32 ⊕ String) × mW) := m_t (e_X6_requireUser w p0) fun r4 w2 => m_g (m_kd w2 h = 10) <| m_t (e_X6_requireCell w2 h p1) fun r11 w9 => m_t (e_X6_requireRight w9 r11 p0 2) fun r17 w15 => m_g (m_kd w15 h = 10) <| m_o (m_fr w15 9 2 h) fun r21 => m_g (m_kd w15 r21 = 3) <| m_b (e_Jx4a65c_size_8abf5 w15 r21) fun r23 w24 => if r23 < 400 then (m_g (m_kd w24 h = 10) <| m_b (e_X6_makeRun t0 w24 h p0 r11) fun r28 w29 => m_g (vp_nar .boolean r28 = r28) <| some (.inl r28, w29)) else (some (.inr "java/lang/IllegalStateException", w24))
set_option maxHeartbeats 1000000 in
set_option maxRecDepth 100000 in
theorem c_X6_run (l : Launch) (hst : l.stackTraces = false) (G : m_G) (w w' : mW) (h : Nat) (p0 : Int32) (p1 : Int32) (o : Int32 ⊕ String) (hd : e_X6_run G.2.2.2 w h p0 p1 = some (o, w')) : vx_Met l yX6_run wsX6_run ({ frames := 9, cells := 7, slots := 1233, locals := 235 } : Room) (m_Pc G w [.ref (h), .int (p0), .int (p1)]) (m_Xi G o w') (m_XC G o w') 7 1233 (fun q => G.1 ≤ q) := by
  refine vx_ofW (cc := cX6_run) (maxL := 4) (ret := (some .boolean)) (by decide +kernel) rfl ?_
  intro p e s m args below meth c s₁ B hml hout hv
  obtain ⟨rfl, hM, hP⟩ := hv
  have hx := B.exec
  have hb := B.bytes
  have hr := B.returns
  have hts := atoms_spec (ws := wsX6_run) B.pre
  have hown : s.vm.findClass RX6 = some m.cls := findClass_of_methodNamed B.named
  have hlocks := B.notSynchronized
  have hin9 : ∀ w ∈ u_ws RX6 TX6 8, w ∈ wsX6_run := by decide +kernel
  have hS : va_S (fun q => G.1 ≤ q) s.heap s.heap [] := va_S.rf
  have hl := lv_entry ([.ref (h), .int (p0), .int (p1)]) (n := 4) (Nat.le_of_ble_eq_true rfl)
  rw [lg_entry_eq]
  generalize (lg_sl ([.ref (h), .int (p0), .int (p1)]) ++ List.replicate (4 - (lg_sl ([.ref (h), .int (p0), .int (p1)])).length) Slot.unset).toArray = ls at hl ⊢
  have hl : lv_has ls 4 [(0, .ref (h)), (1, .int (p0)), (2, .int (p1))] := hl
  refine lv_iload_n hx hb dX6_run_0 rfl (lv_at hl 1 rfl) ?_
  obtain ⟨o1, w2, hc3, hx5, hd⟩ := m_t_e hd
  refine m_callxv (k := 1) (n := 6) (vx_runS (As := [.int (p0)]) (rest := []) ⟨hx, hb, hml, hown, hts⟩ (c_X6_requireUser l hst G w w2 p0 o1 hc3) (va_cwS 1 hts gX6_run_X6_requireUser rfl rfl rfl (by decide +kernel) ⟨(Nat.le_of_ble_eq_true rfl), (Nat.le_of_ble_eq_true rfl)⟩) (m_preS hM hP hS) rfl rfl hl.1 rfl (lv_room (Nat.le_of_ble_eq_true rfl)) dX6_run_1 ⟨(Nat.le_of_ble_eq_true rfl), (Nat.le_of_ble_eq_true rfl)⟩) hS ⟨⟨(Nat.le_of_ble_eq_true rfl), (Nat.le_of_ble_eq_true rfl)⟩, (Nat.le_of_ble_eq_true rfl), (Nat.le_of_ble_eq_true rfl)⟩ hout hlocks hx5 (fun r4 ho6 H locs hP hS => ?_)
  have hd := hd r4 ho6
  refine lv_aload_n hx hb dX6_run_4 rfl (lv_at hl 0 rfl) ?_
  refine lv_iload_n hx hb dX6_run_5 rfl (lv_at hl 2 rfl) ?_
  obtain ⟨hk7, hd⟩ := m_g_e hd
  obtain ⟨o8, w9, hc10, hx12, hd⟩ := m_t_e hd
  refine m_callxq (k := 2) (n := 12) (vx_runV (As := [.int (p1)]) (rest := []) ⟨hx, hb, hml, hown, hts⟩ (c_X6_requireCell l hst G w2 w9 h p1 o8 hc10) (cwV 1 hts gX6_run_X6_requireCell rfl rfl rfl (by decide +kernel) ⟨(Nat.le_of_ble_eq_true rfl), (Nat.le_of_ble_eq_true rfl)⟩) (m_preV (C := RX6) (T := TX6) (N := 8) hM hP hS rfl (by decide) hk7) rfl rfl hl.1 rfl (lv_room (Nat.le_of_ble_eq_true rfl)) dX6_run_6 ⟨(Nat.le_of_ble_eq_true rfl), (Nat.le_of_ble_eq_true rfl)⟩) hS ⟨⟨(Nat.le_of_ble_eq_true rfl), (Nat.le_of_ble_eq_true rfl)⟩, (Nat.le_of_ble_eq_true rfl), (Nat.le_of_ble_eq_true rfl)⟩ hout hlocks hx12 (fun r11 ho13 H locs hP hS => ?_)
  have hd := hd r11 ho13
  refine lv_astore_n (lv' := [(3, .ref (r11)), (0, .ref (h)), (1, .int (p0)), (2, .int (p1))]) hx hb dX6_run_9 rfl hl (by decide) rfl (fun ls hl => ?_)
  refine lv_aload_n hx hb dX6_run_10 rfl (lv_at hl 0 rfl) ?_
  refine lv_iload_n hx hb dX6_run_11 rfl (lv_at hl 2 rfl) ?_
  refine lv_iconst (v := 2) hx hb dX6_run_12 (by decide) ?_
  obtain ⟨o14, w15, hc16, hx18, hd⟩ := m_t_e hd
  refine m_callxv (k := 3) (n := 18) (vx_runS (As := [.ref (r11), .int (p0), .int (2)]) (rest := []) ⟨hx, hb, hml, hown, hts⟩ (c_X6_requireRight l hst G w9 w15 r11 p0 2 o14 hc16) (va_cwS 3 hts gX6_run_X6_requireRight rfl rfl rfl (by decide +kernel) ⟨(Nat.le_of_ble_eq_true rfl), (Nat.le_of_ble_eq_true rfl)⟩) (m_preS hM hP hS) rfl rfl hl.1 rfl (lv_room (Nat.le_of_ble_eq_true rfl)) dX6_run_13 ⟨(Nat.le_of_ble_eq_true rfl), (Nat.le_of_ble_eq_true rfl)⟩) hS ⟨⟨(Nat.le_of_ble_eq_true rfl), (Nat.le_of_ble_eq_true rfl)⟩, (Nat.le_of_ble_eq_true rfl), (Nat.le_of_ble_eq_true rfl)⟩ hout hlocks hx18 (fun r17 ho19 H locs hP hS => ?_)
  have hd := hd r17 ho19
  refine lv_aload_n hx hb dX6_run_16 rfl (lv_at hl 1 rfl) ?_
  obtain ⟨hk20, hd⟩ := m_g_e hd
  obtain ⟨r21, hr21, hd⟩ := m_o_e hd
  refine m_getR (C := RX6) (T := TX6) (N := 8) (own := RX6) (ref := RX6) hx hb hts hin9 hown hM.1 hP 9 rfl 2 (r := r21) ⟨hk20, hr21⟩ (by decide) (hts (.fieldLink RX6 19 "CellNotebook" "allRuns" "Ljava/util/ArrayList;") (by decide +kernel)) (fun _ h9 => h9) dX6_run_17 ?_
  obtain ⟨hk22, hd⟩ := m_g_e hd
  obtain ⟨r23, w24, hc25, hd⟩ := m_b_e hd
  refine m_calli (k := 3) (n := 18) (va_runV (As := []) (rest := []) ⟨hx, hb, hml, hown, hts⟩ (c_Jx4a65c_size_8abf5 l G w15 w24 r21 r23 hc25) (cwV 0 hts gX6_run_Jx4a65c_size_8abf5 rfl rfl rfl (by decide +kernel) ⟨(Nat.le_of_ble_eq_true rfl), (Nat.le_of_ble_eq_true rfl)⟩) (m_preV (C := RJx4a65c) (T := TJx4a65c) (N := 3) hM hP hS rfl (by decide) hk22) rfl rfl hl.1 rfl (lv_room (Nat.le_of_ble_eq_true rfl)) dX6_run_20 ⟨(Nat.le_of_ble_eq_true rfl), (Nat.le_of_ble_eq_true rfl)⟩) hS ⟨(Nat.le_of_ble_eq_true rfl), (Nat.le_of_ble_eq_true rfl)⟩ (fun H locs hP hS => ?_)
  refine lv_sipush (v := 400) hx hb dX6_run_23 (by decide) ?_
  refine lv_icmp_lt (tgt := 39) hx hb dX6_run_26 (by decide) (fun c26 => ?_) (fun c26 => ?_)
  · have hd := m_i_t c26 hd
    refine lv_aload_n hx hb dX6_run_39 rfl (lv_at hl 1 rfl) ?_
    refine lv_iload_n hx hb dX6_run_40 rfl (lv_at hl 2 rfl) ?_
    refine lv_aload_n hx hb dX6_run_41 rfl (lv_at hl 0 rfl) ?_
    obtain ⟨hk27, hd⟩ := m_g_e hd
    obtain ⟨r28, w29, hc30, hd⟩ := m_b_e hd
    refine m_calli (k := 7) (n := 1233) (va_runV (As := [.int (p0), .ref (r11)]) (rest := []) ⟨hx, hb, hml, hown, hts⟩ (c_X6_makeRun l G w24 w29 h p0 r11 r28 hc30) (cwV 2 hts gX6_run_X6_makeRun rfl rfl rfl (by decide +kernel) ⟨(Nat.le_of_ble_eq_true rfl), (Nat.le_of_ble_eq_true rfl)⟩) (m_preV (C := RX6) (T := TX6) (N := 8) hM hP hS rfl (by decide) hk27) rfl rfl hl.1 rfl (lv_room (Nat.le_of_ble_eq_true rfl)) dX6_run_42 ⟨(Nat.le_of_ble_eq_true rfl), (Nat.le_of_ble_eq_true rfl)⟩) hS ⟨(Nat.le_of_ble_eq_true rfl), (Nat.le_of_ble_eq_true rfl)⟩ (fun H locs hP hS => ?_)
    obtain ⟨hn31, hd⟩ := m_g_e hd
    obtain ⟨e1, e2⟩ := m_s_e hd
    refine vx_ret ?_
    refine W.widen (k := 7) (n := 1233) (Nat.le_of_ble_eq_true rfl) (Nat.le_of_ble_eq_true rfl) ?_
    exact W.zret hx hb hr (m_narZ hn31).1 (fun t ht hW => ⟨⟨_, w29, rfl, ⟨e1, e2⟩, by show mP _ _ t.heap; rw [ht]; exact hP⟩, hS.F ht⟩) hS.2.2 dX6_run_45
  · have hd := m_i_f c26 hd
    obtain ⟨e1, e2⟩ := m_s_e hd
    exact m_throwS (own := RX6) (E := "java/lang/IllegalStateException") (ik := 53) (is := 161) (ic := 57) (text := "there were 400 runs") (w := w24) hx hb hst hown (hts (.classLink RX6 53 "java/lang/IllegalStateException") (by decide +kernel)) (hts (.initialized "java/lang/IllegalStateException") (by decide +kernel)) (m_hat (E := "java/lang/IllegalStateException") (fun w h => hts w ((by decide +kernel : ∀ w ∈ (vx_atS RX6 57 "java/lang/IllegalStateException" ["java/lang/RuntimeException", "java/lang/Exception"]).filter goodWord, w ∈ wsX6_run) w h)) (by decide +kernel) hM.2.1.2.1 (by decide)) (by decide +kernel) (by decide +kernel) (by decide) (by decide +kernel) ⟨rfl, by decide⟩ hM hP hS (hl.1.trans hml.symm) dX6_run_29 dX6_run_32 dX6_run_33 dX6_run_35 dX6_run_38 hout (Nat.le_of_ble_eq_true rfl) (Nat.le_of_ble_eq_true rfl) (Nat.le_of_ble_eq_true rfl) (Nat.le_of_ble_eq_true rfl) hlocks e1 e2 (Nat.le_of_ble_eq_true rfl) (Nat.le_of_ble_eq_true rfl)


noncomputable def e_X6_isLastRun_26 (w : mW) (s0 : Int32) : Option (Int32 × mW) := m_g (vp_nar .boolean s0 = s0) <| some (s0, w)
noncomputable def e_X6_isLastRun (w : mW) (h : Nat) (p0 : Nat) : Option (Int32 × mW) := m_g (m_kd w h = 10) <| m_o (m_fr w 9 5 h) fun r2 => m_g (m_kd w p0 = 7) <| m_o (m_fr w 6 1 p0) fun r4 => m_g (m_kd w r4 = 5) <| m_g (m_kd w r2 = 8) <| m_b (e_X4_lastRunOf w r2 (m_fi w 4 0 r4)) fun r7 w8 => m_g (m_kd w8 p0 = 7) <| if r7 = (m_fi w8 6 0 p0) then (e_X6_isLastRun_26 w8 1) else (e_X6_isLastRun_26 w8 0)
set_option maxHeartbeats 1000000 in
set_option maxRecDepth 100000 in
theorem c_X6_isLastRun (l : Launch) (G : m_G) (w w' : mW) (h : Nat) (p0 : Nat) (r : Int32) (hd : e_X6_isLastRun w h p0 = some (r, w')) : Met l yX6_isLastRun wsX6_isLastRun ({ frames := 1, cells := 0, slots := 0, locals := 21 } : Room) (m_Pc G w [.ref (h), .ref (p0)]) (m_Qi G r w') 0 0 (fun q => G.1 ≤ q) := by
  refine Met.ofW (cc := cX6_isLastRun) (maxL := 2) (ret := (some .boolean)) (by decide +kernel) rfl ?_
  intro p e s m args below meth c s₁ B hml hv
  obtain ⟨rfl, hM, hP⟩ := hv
  have hx := B.exec
  have hb := B.bytes
  have hr := B.returns
  have hts := atoms_spec (ws := wsX6_isLastRun) B.pre
  have hown : s.vm.findClass RX6 = some m.cls := findClass_of_methodNamed B.named
  have hlocks := B.notSynchronized
  have hin4 : ∀ w ∈ u_ws RX1 TX1 4, w ∈ wsX6_isLastRun := by decide +kernel
  have hin6 : ∀ w ∈ u_ws RX3 TX3 7, w ∈ wsX6_isLastRun := by decide +kernel
  have hin9 : ∀ w ∈ u_ws RX6 TX6 8, w ∈ wsX6_isLastRun := by decide +kernel
  have hS : va_S (fun q => G.1 ≤ q) s.heap s.heap [] := va_S.rf
  have J26 : ∀ (w : mW) (s0 : Int32) (H : Heap) (locs : List Loc) (ls : Array Slot), e_X6_isLastRun_26 w s0 = some (r, w') → mP G w H → va_S (fun q => G.1 ≤ q) s.heap H locs → lv_has ls 2 [] → W p l e ({ frames := 1, cells := 0, slots := 0, locals := 21 } : Room) s m ([.ref (h), .ref (p0)] : List Value).toArray below meth c H locs 0 0 (MQ below (m_Qi G r w') ([.ref (h), .ref (p0)] : List Value).toArray s 0 0 (fun q => G.1 ≤ q)) (F0 m 26 ls [.int (s0)]) := by
    intro w s0 H locs ls hd hP hS hl
    obtain ⟨hn112, hd⟩ := m_g_e hd
    obtain ⟨e1, e2⟩ := m_s_e hd
    refine W.widen (k := 0) (n := 0) (Nat.le_of_ble_eq_true rfl) (Nat.le_of_ble_eq_true rfl) ?_
    exact W.zret hx hb hr (m_narZ hn112).1 (fun t ht hW => ⟨⟨_, w, rfl, ⟨e1, e2⟩, by show mP _ _ t.heap; rw [ht]; exact hP⟩, hS.F ht⟩) hS.2.2 dX6_isLastRun_26
  have hl := lv_entry ([.ref (h), .ref (p0)]) (n := 2) (Nat.le_of_ble_eq_true rfl)
  rw [lg_entry_eq]
  generalize (lg_sl ([.ref (h), .ref (p0)]) ++ List.replicate (2 - (lg_sl ([.ref (h), .ref (p0)])).length) Slot.unset).toArray = ls at hl ⊢
  have hl : lv_has ls 2 [(0, .ref (h)), (1, .ref (p0))] := hl
  refine lv_aload_n hx hb dX6_isLastRun_0 rfl (lv_at hl 0 rfl) ?_
  obtain ⟨hk1, hd⟩ := m_g_e hd
  obtain ⟨r2, hr2, hd⟩ := m_o_e hd
  refine m_getR (C := RX6) (T := TX6) (N := 8) (own := RX6) (ref := RX6) hx hb hts hin9 hown hM.1 hP 9 rfl 5 (r := r2) ⟨hk1, hr2⟩ (by decide) (hts (.fieldLink RX6 31 "CellNotebook" "now" "LCellNotebook$Session;") (by decide +kernel)) (fun _ h9 => h9) dX6_isLastRun_1 ?_
  refine lv_aload_n hx hb dX6_isLastRun_4 rfl (lv_at hl 1 rfl) ?_
  obtain ⟨hk3, hd⟩ := m_g_e hd
  obtain ⟨r4, hr4, hd⟩ := m_o_e hd
  refine m_getR (C := RX3) (T := TX3) (N := 7) (own := RX6) (ref := RX3) hx hb hts hin6 hown hM.1 hP 6 rfl 1 (r := r4) ⟨hk3, hr4⟩ (by decide) (hts (.fieldLink RX6 244 "CellNotebook$Run" "cell" "LCellNotebook$Cell;") (by decide +kernel)) (fun _ h9 => h9) dX6_isLastRun_5 ?_
  obtain ⟨hk5, hd⟩ := m_g_e hd
  refine m_getI (C := RX1) (T := TX1) (N := 4) (own := RX6) (ref := RX1) hx hb hts hin4 hown hM.1 hP 4 rfl 0 hk5 (by decide) (hts (.fieldLink RX6 128 "CellNotebook$Cell" "number" "I") (by decide +kernel)) (fun _ h9 => h9) dX6_isLastRun_8 ?_
  obtain ⟨hk6, hd⟩ := m_g_e hd
  obtain ⟨r7, w8, hc9, hd⟩ := m_b_e hd
  refine m_calli (k := 0) (n := 0) (va_runV (As := [.int (m_fi w 4 0 r4)]) (rest := []) ⟨hx, hb, hml, hown, hts⟩ (c_X4_lastRunOf l G w w8 r2 (m_fi w 4 0 r4) r7 hc9) (cwV 1 hts gX6_isLastRun_X4_lastRunOf rfl rfl rfl (by decide +kernel) ⟨(Nat.le_of_ble_eq_true rfl), (Nat.le_of_ble_eq_true rfl)⟩) (m_preV (C := RX4) (T := TX4) (N := 2) hM hP hS rfl (by decide) hk6) rfl rfl hl.1 rfl (lv_room (Nat.le_of_ble_eq_true rfl)) dX6_isLastRun_11 ⟨(Nat.le_of_ble_eq_true rfl), (Nat.le_of_ble_eq_true rfl)⟩) hS ⟨(Nat.le_of_ble_eq_true rfl), (Nat.le_of_ble_eq_true rfl)⟩ (fun H locs hP hS => ?_)
  refine lv_aload_n hx hb dX6_isLastRun_14 rfl (lv_at hl 1 rfl) ?_
  obtain ⟨hk10, hd⟩ := m_g_e hd
  refine m_getI (C := RX3) (T := TX3) (N := 7) (own := RX6) (ref := RX3) hx hb hts hin6 hown hM.1 hP 6 rfl 0 hk10 (by decide) (hts (.fieldLink RX6 243 "CellNotebook$Run" "number" "I") (by decide +kernel)) (fun _ h9 => h9) dX6_isLastRun_15 ?_
  refine lv_icmp_ne (tgt := 25) hx hb dX6_isLastRun_18 (by decide) (fun c11 => ?_) (fun c11 => ?_)
  · have hd := m_i_f c11 hd
    refine lv_iconst (v := 0) hx hb dX6_isLastRun_25 (by decide) ?_
    refine W.widen (k := 0) (n := 0) (Nat.le_of_ble_eq_true rfl) (Nat.le_of_ble_eq_true rfl) ?_
    exact J26 w8 0 _ _ _ hd hP hS (lv_sub hl [] rfl)
  · have hd := m_i_t c11 hd
    refine lv_iconst (v := 1) hx hb dX6_isLastRun_21 (by decide) ?_
    refine lv_goto (tgt := 26) hx hb dX6_isLastRun_22 (by decide) ?_
    refine W.widen (k := 0) (n := 0) (Nat.le_of_ble_eq_true rfl) (Nat.le_of_ble_eq_true rfl) ?_
    exact J26 w8 1 _ _ _ hd hP hS (lv_sub hl [] rfl)


noncomputable def e_X6_runNumbered_32 (w : mW)  : Option (Option Nat × mW) := some (none, w)
noncomputable def e_X6_runNumbered (w : mW) (h : Nat) (p0 : Int32) : Option (Option Nat × mW) := if p0 < 1 then (e_X6_runNumbered_32 w) else (m_g (m_kd w h = 10) <| m_o (m_fr w 9 2 h) fun r3 => m_g (m_kd w r3 = 3) <| m_b (e_Jx4a65c_size_8abf5 w r3) fun r5 w6 => if r5 < p0 then (e_X6_runNumbered_32 w6) else (m_g (m_kd w6 h = 10) <| m_o (m_fr w6 9 2 h) fun r10 => m_g (m_kd w6 r10 = 3) <| m_b (e_Jx4a65c_get_915e3 w6 r10 (p0 - 1)) fun r12 w13 => m_g (m_kd w13 r12 = 7) <| some ((some r12), w13)))
set_option maxHeartbeats 1000000 in
set_option maxRecDepth 100000 in
theorem c_X6_runNumbered (l : Launch) (G : m_G) (w w' : mW) (h : Nat) (p0 : Int32) (r : Option Nat) (hd : e_X6_runNumbered w h p0 = some (r, w')) : Met l yX6_runNumbered wsX6_runNumbered ({ frames := 3, cells := 0, slots := 0, locals := 64 } : Room) (m_Pc G w [.ref (h), .int (p0)]) (m_Qq G r w') 0 0 (fun q => G.1 ≤ q) := by
  refine Met.ofW (cc := cX6_runNumbered) (maxL := 2) (ret := (some (.object "CellNotebook$Run"))) (by decide +kernel) rfl ?_
  intro p e s m args below meth c s₁ B hml hv
  obtain ⟨rfl, hM, hP⟩ := hv
  have hx := B.exec
  have hb := B.bytes
  have hr := B.returns
  have hts := atoms_spec (ws := wsX6_runNumbered) B.pre
  have hown : s.vm.findClass RX6 = some m.cls := findClass_of_methodNamed B.named
  have hlocks := B.notSynchronized
  have hin9 : ∀ w ∈ u_ws RX6 TX6 8, w ∈ wsX6_runNumbered := by decide +kernel
  have hS : va_S (fun q => G.1 ≤ q) s.heap s.heap [] := va_S.rf
  have J32 : ∀ (w : mW) (H : Heap) (locs : List Loc) (ls : Array Slot), e_X6_runNumbered_32 w = some (r, w') → mP G w H → va_S (fun q => G.1 ≤ q) s.heap H locs → lv_has ls 2 [] → W p l e ({ frames := 3, cells := 0, slots := 0, locals := 64 } : Room) s m ([.ref (h), .int (p0)] : List Value).toArray below meth c H locs 0 0 (MQ below (m_Qq G r w') ([.ref (h), .int (p0)] : List Value).toArray s 0 0 (fun q => G.1 ≤ q)) (F0 m 32 ls []) := by
    intro w H locs ls hd hP hS hl
    refine lv_null hx hb dX6_runNumbered_32 ?_
    obtain ⟨e1, e2⟩ := m_s_e hd
    refine W.widen (k := 0) (n := 0) (Nat.le_of_ble_eq_true rfl) (Nat.le_of_ble_eq_true rfl) ?_
    exact W.aret hx hb hr (Or.inl ⟨_, rfl⟩) (Or.inl rfl) (fun t ht hW => ⟨⟨none, w, rfl, ⟨e1, e2⟩, by show mP _ _ t.heap; rw [ht]; exact hP⟩, hS.F ht⟩) hS.2.2 dX6_runNumbered_33
  have hl := lv_entry ([.ref (h), .int (p0)]) (n := 2) (Nat.le_of_ble_eq_true rfl)
  rw [lg_entry_eq]
  generalize (lg_sl ([.ref (h), .int (p0)]) ++ List.replicate (2 - (lg_sl ([.ref (h), .int (p0)])).length) Slot.unset).toArray = ls at hl ⊢
  have hl : lv_has ls 2 [(0, .ref (h)), (1, .int (p0))] := hl
  refine lv_iload_n hx hb dX6_runNumbered_0 rfl (lv_at hl 1 rfl) ?_
  refine lv_iconst (v := 1) hx hb dX6_runNumbered_1 (by decide) ?_
  refine lv_icmp_lt (tgt := 32) hx hb dX6_runNumbered_2 (by decide) (fun c1 => ?_) (fun c1 => ?_)
  · have hd := m_i_t c1 hd
    refine W.widen (k := 0) (n := 0) (Nat.le_of_ble_eq_true rfl) (Nat.le_of_ble_eq_true rfl) ?_
    exact J32 w _ _ _ hd hP hS (lv_sub hl [] rfl)
  · have hd := m_i_f c1 hd
    refine lv_iload_n hx hb dX6_runNumbered_5 rfl (lv_at hl 1 rfl) ?_
    refine lv_aload_n hx hb dX6_runNumbered_6 rfl (lv_at hl 0 rfl) ?_
    obtain ⟨hk2, hd⟩ := m_g_e hd
    obtain ⟨r3, hr3, hd⟩ := m_o_e hd
    refine m_getR (C := RX6) (T := TX6) (N := 8) (own := RX6) (ref := RX6) hx hb hts hin9 hown hM.1 hP 9 rfl 2 (r := r3) ⟨hk2, hr3⟩ (by decide) (hts (.fieldLink RX6 19 "CellNotebook" "allRuns" "Ljava/util/ArrayList;") (by decide +kernel)) (fun _ h9 => h9) dX6_runNumbered_7 ?_
    obtain ⟨hk4, hd⟩ := m_g_e hd
    obtain ⟨r5, w6, hc7, hd⟩ := m_b_e hd
    refine m_calli (k := 0) (n := 0) (va_runV (As := []) (rest := [.int (p0)]) ⟨hx, hb, hml, hown, hts⟩ (c_Jx4a65c_size_8abf5 l G w w6 r3 r5 hc7) (cwV 0 hts gX6_runNumbered_Jx4a65c_size_8abf5 rfl rfl rfl (by decide +kernel) ⟨(Nat.le_of_ble_eq_true rfl), (Nat.le_of_ble_eq_true rfl)⟩) (m_preV (C := RJx4a65c) (T := TJx4a65c) (N := 3) hM hP hS rfl (by decide) hk4) rfl rfl hl.1 rfl (lv_room (Nat.le_of_ble_eq_true rfl)) dX6_runNumbered_10 ⟨(Nat.le_of_ble_eq_true rfl), (Nat.le_of_ble_eq_true rfl)⟩) hS ⟨(Nat.le_of_ble_eq_true rfl), (Nat.le_of_ble_eq_true rfl)⟩ (fun H locs hP hS => ?_)
    refine lv_icmp_gt (tgt := 32) hx hb dX6_runNumbered_13 (by decide) (fun c8 => ?_) (fun c8 => ?_)
    · have hd := m_i_t c8 hd
      refine W.widen (k := 0) (n := 0) (Nat.le_of_ble_eq_true rfl) (Nat.le_of_ble_eq_true rfl) ?_
      exact J32 w6 _ _ _ hd hP hS (lv_sub hl [] rfl)
    · have hd := m_i_f c8 hd
      refine lv_aload_n hx hb dX6_runNumbered_16 rfl (lv_at hl 0 rfl) ?_
      obtain ⟨hk9, hd⟩ := m_g_e hd
      obtain ⟨r10, hr10, hd⟩ := m_o_e hd
      refine m_getR (C := RX6) (T := TX6) (N := 8) (own := RX6) (ref := RX6) hx hb hts hin9 hown hM.1 hP 9 rfl 2 (r := r10) ⟨hk9, hr10⟩ (by decide) (hts (.fieldLink RX6 19 "CellNotebook" "allRuns" "Ljava/util/ArrayList;") (by decide +kernel)) (fun _ h9 => h9) dX6_runNumbered_17 ?_
      refine lv_iload_n hx hb dX6_runNumbered_20 rfl (lv_at hl 1 rfl) ?_
      refine lv_iconst (v := 1) hx hb dX6_runNumbered_21 (by decide) ?_
      refine lv_isub hx hb dX6_runNumbered_22 ?_
      obtain ⟨hk11, hd⟩ := m_g_e hd
      obtain ⟨r12, w13, hc14, hd⟩ := m_b_e hd
      refine m_callr (k := 0) (n := 0) (va_runV (As := [.int (p0 - 1)]) (rest := []) ⟨hx, hb, hml, hown, hts⟩ (c_Jx4a65c_get_915e3 l G w6 w13 r10 (p0 - 1) r12 hc14) (cwV 1 hts gX6_runNumbered_Jx4a65c_get_915e3 rfl rfl rfl (by decide +kernel) ⟨(Nat.le_of_ble_eq_true rfl), (Nat.le_of_ble_eq_true rfl)⟩) (m_preV (C := RJx4a65c) (T := TJx4a65c) (N := 3) hM hP hS rfl (by decide) hk11) rfl rfl hl.1 rfl (lv_room (Nat.le_of_ble_eq_true rfl)) dX6_runNumbered_23 ⟨(Nat.le_of_ble_eq_true rfl), (Nat.le_of_ble_eq_true rfl)⟩) hS ⟨(Nat.le_of_ble_eq_true rfl), (Nat.le_of_ble_eq_true rfl)⟩ (fun H locs hP hS => ?_)
      obtain ⟨hk15, hd⟩ := m_g_e hd
      refine va_castS (own := RX6) (nm := RX3) hx hb hown (hts (.classLink RX6 198 RX3) (by decide +kernel)) (hM.1.1 6 _ rfl).2 (m_recv hM.1 hP hk15 (by decide) rfl) dX6_runNumbered_26 ?_
      refine lv_goto (tgt := 33) hx hb dX6_runNumbered_29 (by decide) ?_
      obtain ⟨e1, e2⟩ := m_s_e hd
      refine W.widen (k := 0) (n := 0) (Nat.le_of_ble_eq_true rfl) (Nat.le_of_ble_eq_true rfl) ?_
      exact W.aret hx hb hr (Or.inl ⟨_, rfl⟩) (Or.inr ⟨_, rfl⟩) (fun t ht hW => ⟨⟨some r12, w13, rfl, ⟨e1, e2⟩, by show mP _ _ t.heap; rw [ht]; exact hP⟩, hS.F ht⟩) hS.2.2 dX6_runNumbered_33


noncomputable def e_X6_restsOnOther_59 (w : mW) (s0 : Int32) : Option (Int32 × mW) := m_g (vp_nar .boolean s0 = s0) <| some (s0, w)
noncomputable def e_X6_restsOnOther_54 (w : mW)  : Option (Int32 × mW) := e_X6_restsOnOther_59 w 1
noncomputable def e_X6_restsOnOther_28 (w : mW)  : Option (Int32 × mW) := m_g (vp_nar .boolean 0 = 0) <| some (0, w)
noncomputable def e_X6_restsOnOther (w : mW) (h : Nat) (p0 : Nat) (p1 : Int32) (p2 : Int32) : Option (Int32 × mW) := m_g (m_kd w p0 = 7) <| m_b (e_X3_stampSeen w p0 p1) fun r2 w3 => m_g (m_kd w3 h = 10) <| m_b (e_X6_runNumbered w3 h r2) fun r6 w7 => m_n r6 (e_X6_restsOnOther_28 w7) (fun q9 => m_g (m_kd w7 q9 = 7) <| m_o (m_fr w7 6 1 q9) fun r11 => m_g (m_kd w7 p0 = 7) <| m_o (m_fr w7 6 1 p0) fun r13 => if (some r11 : Option Nat) = some r13 then (e_X6_restsOnOther_28 w7) else (m_g (m_kd w7 h = 10) <| m_b (e_X6_isLastRun w7 h q9) fun r16 w17 => if r16 = (0 : Int32) then (e_X6_restsOnOther_54 w17) else (m_g (m_kd w17 q9 = 7) <| m_o (m_fr w17 6 1 q9) fun r21 => m_g (m_kd w17 r21 = 5) <| if (p2 &&& (1 <<< ((m_fi w17 4 0 r21) &&& 31))) = (0 : Int32) then (e_X6_restsOnOther_59 w17 0) else (e_X6_restsOnOther_54 w17))))
set_option maxHeartbeats 1000000 in
set_option maxRecDepth 100000 in
theorem c_X6_restsOnOther (l : Launch) (G : m_G) (w w' : mW) (h : Nat) (p0 : Nat) (p1 : Int32) (p2 : Int32) (r : Int32) (hd : e_X6_restsOnOther w h p0 p1 p2 = some (r, w')) : Met l yX6_restsOnOther wsX6_restsOnOther ({ frames := 4, cells := 0, slots := 0, locals := 85 } : Room) (m_Pc G w [.ref (h), .ref (p0), .int (p1), .int (p2)]) (m_Qi G r w') 0 0 (fun q => G.1 ≤ q) := by
  refine Met.ofW (cc := cX6_restsOnOther) (maxL := 5) (ret := (some .boolean)) (by decide +kernel) rfl ?_
  intro p e s m args below meth c s₁ B hml hv
  obtain ⟨rfl, hM, hP⟩ := hv
  have hx := B.exec
  have hb := B.bytes
  have hr := B.returns
  have hts := atoms_spec (ws := wsX6_restsOnOther) B.pre
  have hown : s.vm.findClass RX6 = some m.cls := findClass_of_methodNamed B.named
  have hlocks := B.notSynchronized
  have hin4 : ∀ w ∈ u_ws RX1 TX1 4, w ∈ wsX6_restsOnOther := by decide +kernel
  have hin6 : ∀ w ∈ u_ws RX3 TX3 7, w ∈ wsX6_restsOnOther := by decide +kernel
  have hS : va_S (fun q => G.1 ≤ q) s.heap s.heap [] := va_S.rf
  have J59 : ∀ (w : mW) (s0 : Int32) (H : Heap) (locs : List Loc) (ls : Array Slot), e_X6_restsOnOther_59 w s0 = some (r, w') → mP G w H → va_S (fun q => G.1 ≤ q) s.heap H locs → lv_has ls 5 [] → W p l e ({ frames := 4, cells := 0, slots := 0, locals := 85 } : Room) s m ([.ref (h), .ref (p0), .int (p1), .int (p2)] : List Value).toArray below meth c H locs 0 0 (MQ below (m_Qi G r w') ([.ref (h), .ref (p0), .int (p1), .int (p2)] : List Value).toArray s 0 0 (fun q => G.1 ≤ q)) (F0 m 59 ls [.int (s0)]) := by
    intro w s0 H locs ls hd hP hS hl
    obtain ⟨hn325, hd⟩ := m_g_e hd
    obtain ⟨e1, e2⟩ := m_s_e hd
    refine W.widen (k := 0) (n := 0) (Nat.le_of_ble_eq_true rfl) (Nat.le_of_ble_eq_true rfl) ?_
    exact W.zret hx hb hr (m_narZ hn325).1 (fun t ht hW => ⟨⟨_, w, rfl, ⟨e1, e2⟩, by show mP _ _ t.heap; rw [ht]; exact hP⟩, hS.F ht⟩) hS.2.2 dX6_restsOnOther_59
  have J54 : ∀ (w : mW) (H : Heap) (locs : List Loc) (ls : Array Slot), e_X6_restsOnOther_54 w = some (r, w') → mP G w H → va_S (fun q => G.1 ≤ q) s.heap H locs → lv_has ls 5 [] → W p l e ({ frames := 4, cells := 0, slots := 0, locals := 85 } : Room) s m ([.ref (h), .ref (p0), .int (p1), .int (p2)] : List Value).toArray below meth c H locs 0 0 (MQ below (m_Qi G r w') ([.ref (h), .ref (p0), .int (p1), .int (p2)] : List Value).toArray s 0 0 (fun q => G.1 ≤ q)) (F0 m 54 ls []) := by
    intro w H locs ls hd hP hS hl
    refine lv_iconst (v := 1) hx hb dX6_restsOnOther_54 (by decide) ?_
    refine lv_goto (tgt := 59) hx hb dX6_restsOnOther_55 (by decide) ?_
    refine W.widen (k := 0) (n := 0) (Nat.le_of_ble_eq_true rfl) (Nat.le_of_ble_eq_true rfl) ?_
    exact J59 w 1 _ _ _ hd hP hS (lv_sub hl [] rfl)
  have J28 : ∀ (w : mW) (H : Heap) (locs : List Loc) (ls : Array Slot), e_X6_restsOnOther_28 w = some (r, w') → mP G w H → va_S (fun q => G.1 ≤ q) s.heap H locs → lv_has ls 5 [] → W p l e ({ frames := 4, cells := 0, slots := 0, locals := 85 } : Room) s m ([.ref (h), .ref (p0), .int (p1), .int (p2)] : List Value).toArray below meth c H locs 0 0 (MQ below (m_Qi G r w') ([.ref (h), .ref (p0), .int (p1), .int (p2)] : List Value).toArray s 0 0 (fun q => G.1 ≤ q)) (F0 m 28 ls []) := by
    intro w H locs ls hd hP hS hl
    refine lv_iconst (v := 0) hx hb dX6_restsOnOther_28 (by decide) ?_
    obtain ⟨hn124, hd⟩ := m_g_e hd
    obtain ⟨e1, e2⟩ := m_s_e hd
    refine W.widen (k := 0) (n := 0) (Nat.le_of_ble_eq_true rfl) (Nat.le_of_ble_eq_true rfl) ?_
    exact W.zret hx hb hr (m_narZ hn124).1 (fun t ht hW => ⟨⟨_, w, rfl, ⟨e1, e2⟩, by show mP _ _ t.heap; rw [ht]; exact hP⟩, hS.F ht⟩) hS.2.2 dX6_restsOnOther_29
  have hl := lv_entry ([.ref (h), .ref (p0), .int (p1), .int (p2)]) (n := 5) (Nat.le_of_ble_eq_true rfl)
  rw [lg_entry_eq]
  generalize (lg_sl ([.ref (h), .ref (p0), .int (p1), .int (p2)]) ++ List.replicate (5 - (lg_sl ([.ref (h), .ref (p0), .int (p1), .int (p2)])).length) Slot.unset).toArray = ls at hl ⊢
  have hl : lv_has ls 5 [(0, .ref (h)), (1, .ref (p0)), (2, .int (p1)), (3, .int (p2))] := hl
  refine lv_aload_n hx hb dX6_restsOnOther_0 rfl (lv_at hl 0 rfl) ?_
  refine lv_aload_n hx hb dX6_restsOnOther_1 rfl (lv_at hl 1 rfl) ?_
  refine lv_iload_n hx hb dX6_restsOnOther_2 rfl (lv_at hl 2 rfl) ?_
  obtain ⟨hk1, hd⟩ := m_g_e hd
  obtain ⟨r2, w3, hc4, hd⟩ := m_b_e hd
  refine m_calli (k := 0) (n := 0) (va_runV (As := [.int (p1)]) (rest := [.ref (h)]) ⟨hx, hb, hml, hown, hts⟩ (c_X3_stampSeen l G w w3 p0 p1 r2 hc4) (cwV 1 hts gX6_restsOnOther_X3_stampSeen rfl rfl rfl (by decide +kernel) ⟨(Nat.le_of_ble_eq_true rfl), (Nat.le_of_ble_eq_true rfl)⟩) (m_preV (C := RX3) (T := TX3) (N := 7) hM hP hS rfl (by decide) hk1) rfl rfl hl.1 rfl (lv_room (Nat.le_of_ble_eq_true rfl)) dX6_restsOnOther_3 ⟨(Nat.le_of_ble_eq_true rfl), (Nat.le_of_ble_eq_true rfl)⟩) hS ⟨(Nat.le_of_ble_eq_true rfl), (Nat.le_of_ble_eq_true rfl)⟩ (fun H locs hP hS => ?_)
  obtain ⟨hk5, hd⟩ := m_g_e hd
  obtain ⟨r6, w7, hc8, hd⟩ := m_b_e hd
  refine m_callq (k := 0) (n := 0) (va_runV (As := [.int (r2)]) (rest := []) ⟨hx, hb, hml, hown, hts⟩ (c_X6_runNumbered l G w3 w7 h r2 r6 hc8) (cwV 1 hts gX6_restsOnOther_X6_runNumbered rfl rfl rfl (by decide +kernel) ⟨(Nat.le_of_ble_eq_true rfl), (Nat.le_of_ble_eq_true rfl)⟩) (m_preV (C := RX6) (T := TX6) (N := 8) hM hP hS rfl (by decide) hk5) rfl rfl hl.1 rfl (lv_room (Nat.le_of_ble_eq_true rfl)) dX6_restsOnOther_6 ⟨(Nat.le_of_ble_eq_true rfl), (Nat.le_of_ble_eq_true rfl)⟩) hS ⟨(Nat.le_of_ble_eq_true rfl), (Nat.le_of_ble_eq_true rfl)⟩ (fun H locs hP hS => ?_)
  cases r6 with
  | none =>
    have hd := m_n_e hd
    refine lv_astoreN (lv' := [(4, .null), (0, .ref (h)), (1, .ref (p0)), (2, .int (p1)), (3, .int (p2))]) hx hb dX6_restsOnOther_9 hl (by decide) rfl (fun ls hl => ?_)
    refine lv_aloadN hx hb dX6_restsOnOther_11 (lv_at hl 0 rfl) ?_
    refine lv_ifnullN (tgt := 28) hx hb dX6_restsOnOther_13 (by decide) ?_
    refine W.widen (k := 0) (n := 0) (Nat.le_of_ble_eq_true rfl) (Nat.le_of_ble_eq_true rfl) ?_
    exact J28 w7 _ _ _ hd hP hS (lv_sub hl [] rfl)
  | some q9 =>
    have hd := m_n_s hd
    refine lv_astore (lv' := [(4, .ref (q9)), (0, .ref (h)), (1, .ref (p0)), (2, .int (p1)), (3, .int (p2))]) hx hb dX6_restsOnOther_9 hl (by decide) rfl (fun ls hl => ?_)
    refine lv_aload hx hb dX6_restsOnOther_11 (lv_at hl 0 rfl) ?_
    refine lv_ifnull hx hb dX6_restsOnOther_13 ?_
    refine lv_aload hx hb dX6_restsOnOther_16 (lv_at hl 0 rfl) ?_
    obtain ⟨hk10, hd⟩ := m_g_e hd
    obtain ⟨r11, hr11, hd⟩ := m_o_e hd
    refine m_getR (C := RX3) (T := TX3) (N := 7) (own := RX6) (ref := RX3) hx hb hts hin6 hown hM.1 hP 6 rfl 1 (r := r11) ⟨hk10, hr11⟩ (by decide) (hts (.fieldLink RX6 244 "CellNotebook$Run" "cell" "LCellNotebook$Cell;") (by decide +kernel)) (fun _ h9 => h9) dX6_restsOnOther_18 ?_
    refine lv_aload_n hx hb dX6_restsOnOther_21 rfl (lv_at hl 2 rfl) ?_
    obtain ⟨hk12, hd⟩ := m_g_e hd
    obtain ⟨r13, hr13, hd⟩ := m_o_e hd
    refine m_getR (C := RX3) (T := TX3) (N := 7) (own := RX6) (ref := RX3) hx hb hts hin6 hown hM.1 hP 6 rfl 1 (r := r13) ⟨hk12, hr13⟩ (by decide) (hts (.fieldLink RX6 244 "CellNotebook$Run" "cell" "LCellNotebook$Cell;") (by decide +kernel)) (fun _ h9 => h9) dX6_restsOnOther_22 ?_
    refine lv_acmp_ne (tgt := 30) (rx := some r11) (ry := some r13) hx hb dX6_restsOnOther_25 (by decide) (fun c14 => ?_) (fun c14 => ?_)
    · have hd := m_i_f c14 hd
      refine lv_aload_n hx hb dX6_restsOnOther_30 rfl (lv_at hl 1 rfl) ?_
      refine lv_aload hx hb dX6_restsOnOther_31 (lv_at hl 0 rfl) ?_
      obtain ⟨hk15, hd⟩ := m_g_e hd
      obtain ⟨r16, w17, hc18, hd⟩ := m_b_e hd
      refine m_calli (k := 0) (n := 0) (va_runV (As := [.ref (q9)]) (rest := []) ⟨hx, hb, hml, hown, hts⟩ (c_X6_isLastRun l G w7 w17 h q9 r16 hc18) (cwV 1 hts gX6_restsOnOther_X6_isLastRun rfl rfl rfl (by decide +kernel) ⟨(Nat.le_of_ble_eq_true rfl), (Nat.le_of_ble_eq_true rfl)⟩) (m_preV (C := RX6) (T := TX6) (N := 8) hM hP hS rfl (by decide) hk15) rfl rfl hl.1 rfl (lv_room (Nat.le_of_ble_eq_true rfl)) dX6_restsOnOther_33 ⟨(Nat.le_of_ble_eq_true rfl), (Nat.le_of_ble_eq_true rfl)⟩) hS ⟨(Nat.le_of_ble_eq_true rfl), (Nat.le_of_ble_eq_true rfl)⟩ (fun H locs hP hS => ?_)
      refine lv_if_eq (tgt := 54) hx hb dX6_restsOnOther_36 (by decide) (fun c19 => ?_) (fun c19 => ?_)
      · have hd := m_i_t c19 hd
        refine W.widen (k := 0) (n := 0) (Nat.le_of_ble_eq_true rfl) (Nat.le_of_ble_eq_true rfl) ?_
        exact J54 w17 _ _ _ hd hP hS (lv_sub hl [] rfl)
      · have hd := m_i_f c19 hd
        refine lv_iload_n hx hb dX6_restsOnOther_39 rfl (lv_at hl 4 rfl) ?_
        refine lv_iconst (v := 1) hx hb dX6_restsOnOther_40 (by decide) ?_
        refine lv_aload hx hb dX6_restsOnOther_41 (lv_at hl 0 rfl) ?_
        obtain ⟨hk20, hd⟩ := m_g_e hd
        obtain ⟨r21, hr21, hd⟩ := m_o_e hd
        refine m_getR (C := RX3) (T := TX3) (N := 7) (own := RX6) (ref := RX3) hx hb hts hin6 hown hM.1 hP 6 rfl 1 (r := r21) ⟨hk20, hr21⟩ (by decide) (hts (.fieldLink RX6 244 "CellNotebook$Run" "cell" "LCellNotebook$Cell;") (by decide +kernel)) (fun _ h9 => h9) dX6_restsOnOther_43 ?_
        obtain ⟨hk22, hd⟩ := m_g_e hd
        refine m_getI (C := RX1) (T := TX1) (N := 4) (own := RX6) (ref := RX1) hx hb hts hin4 hown hM.1 hP 4 rfl 0 hk22 (by decide) (hts (.fieldLink RX6 128 "CellNotebook$Cell" "number" "I") (by decide +kernel)) (fun _ h9 => h9) dX6_restsOnOther_46 ?_
        refine lv_ishl hx hb dX6_restsOnOther_49 ?_
        refine lv_iand hx hb dX6_restsOnOther_50 ?_
        refine lv_if_eq (tgt := 58) hx hb dX6_restsOnOther_51 (by decide) (fun c23 => ?_) (fun c23 => ?_)
        · have hd := m_i_t c23 hd
          refine lv_iconst (v := 0) hx hb dX6_restsOnOther_58 (by decide) ?_
          refine W.widen (k := 0) (n := 0) (Nat.le_of_ble_eq_true rfl) (Nat.le_of_ble_eq_true rfl) ?_
          exact J59 w17 0 _ _ _ hd hP hS (lv_sub hl [] rfl)
        · have hd := m_i_f c23 hd
          refine W.widen (k := 0) (n := 0) (Nat.le_of_ble_eq_true rfl) (Nat.le_of_ble_eq_true rfl) ?_
          exact J54 w17 _ _ _ hd hP hS (lv_sub hl [] rfl)
    · have hd := m_i_t c14 hd
      refine W.widen (k := 0) (n := 0) (Nat.le_of_ble_eq_true rfl) (Nat.le_of_ble_eq_true rfl) ?_
      exact J28 w7 _ _ _ hd hP hS (lv_sub hl [] rfl)


noncomputable def e_X6_reasons_90 (k24 : mW → Nat → Nat → Int32 → Int32 → Int32 → Int32 → Option (Int32 × mW)) (w : mW) (x0 : Nat) (x1 : Nat) (x2 : Int32) (x3 : Int32) (x4 : Int32) (x5 : Int32) : Option (Int32 × mW) := k24 w x0 x1 x2 x3 x4 (x5 + 1)
noncomputable def e_X6_reasons_73 (k24 : mW → Nat → Nat → Int32 → Int32 → Int32 → Int32 → Option (Int32 × mW)) (w : mW) (x0 : Nat) (x1 : Nat) (x2 : Int32) (x3 : Int32) (x4 : Int32) (x5 : Int32) : Option (Int32 × mW) := m_g (m_kd w x0 = 10) <| m_b (e_X6_restsOnOther w x0 x1 x5 x3) fun r426 w427 => if r426 = (0 : Int32) then (e_X6_reasons_90 k24 w427 x0 x1 x2 x3 x4 x5) else (e_X6_reasons_90 k24 w427 x0 x1 x2 x3 (x4 ||| 4) x5)
noncomputable def e_X6_reasons_67 (k24 : mW → Nat → Nat → Int32 → Int32 → Int32 → Int32 → Option (Int32 × mW)) (w : mW) (x0 : Nat) (x1 : Nat) (x2 : Int32) (x3 : Int32) (x4 : Int32) (x5 : Int32) : Option (Int32 × mW) := e_X6_reasons_73 k24 w x0 x1 x2 x3 (x4 ||| 2) x5
noncomputable def e_X6_reasons_24_b (k24 : mW → Nat → Nat → Int32 → Int32 → Int32 → Int32 → Option (Int32 × mW)) (w : mW) (x0 : Nat) (x1 : Nat) (x2 : Int32) (x3 : Int32) (x4 : Int32) (x5 : Int32) : Option (Int32 × mW) := if 8 ≤ x5 then (some (x4, w)) else (m_g (m_kd w x1 = 7) <| m_b (e_X3_sawName w x1 x5) fun r207 w208 => if r207 = (0 : Int32) then (e_X6_reasons_90 k24 w208 x0 x1 x2 x3 x4 x5) else (if x5 = x2 then (e_X6_reasons_67 k24 w208 x0 x1 x2 x3 x4 x5) else (m_g (m_kd w208 x0 = 10) <| m_o (m_fr w208 9 5 x0) fun r213 => m_g (m_kd w208 r213 = 8) <| m_o (m_fr w208 7 0 r213) fun r215 => m_g (m_kd w208 r215 = 6) <| m_b (e_X2_stampOf w208 r215 x5) fun r217 w218 => m_g (m_kd w218 x1 = 7) <| m_b (e_X3_stampSeen w218 x1 x5) fun r221 w222 => if r217 = r221 then (e_X6_reasons_73 k24 w222 x0 x1 x2 x3 x4 x5) else (e_X6_reasons_67 k24 w222 x0 x1 x2 x3 x4 x5))))
noncomputable def e_X6_reasons_24 (n : Nat) : mW → Nat → Nat → Int32 → Int32 → Int32 → Int32 → Option (Int32 × mW) := Nat.rec (motive := fun _ => mW → Nat → Nat → Int32 → Int32 → Int32 → Int32 → Option (Int32 × mW)) (fun _ _ _ _ _ _ _ => none) (fun _ k => e_X6_reasons_24_b  k) n
noncomputable def e_X6_reasons_19 (w : mW) (x0 : Nat) (x1 : Nat) (x2 : Int32) (x3 : Int32) (s0 : Int32) : Option (Int32 × mW) := e_X6_reasons_24 m_N w x0 x1 x2 x3 s0 0
noncomputable def e_X6_reasons (w : mW) (h : Nat) (p0 : Nat) (p1 : Int32) (p2 : Int32) : Option (Int32 × mW) := m_g (m_kd w p0 = 7) <| m_o (m_fr w 6 1 p0) fun r2 => m_g (m_kd w r2 = 5) <| if (m_fi w 4 2 r2) < (m_fi w 6 0 p0) then (e_X6_reasons_19 w h p0 p1 p2 0) else (e_X6_reasons_19 w h p0 p1 p2 1)
set_option maxHeartbeats 1000000 in
set_option maxRecDepth 100000 in
theorem c_X6_reasons (l : Launch) (G : m_G) (w w' : mW) (h : Nat) (p0 : Nat) (p1 : Int32) (p2 : Int32) (r : Int32) (hd : e_X6_reasons w h p0 p1 p2 = some (r, w')) : Met l yX6_reasons wsX6_reasons ({ frames := 5, cells := 0, slots := 0, locals := 109 } : Room) (m_Pc G w [.ref (h), .ref (p0), .int (p1), .int (p2)]) (m_Qi G r w') 0 0 (fun q => G.1 ≤ q) := by
  refine Met.ofW (cc := cX6_reasons) (maxL := 6) (ret := (some .int)) (by decide +kernel) rfl ?_
  intro p e s m args below meth c s₁ B hml hv
  obtain ⟨rfl, hM, hP⟩ := hv
  have hx := B.exec
  have hb := B.bytes
  have hr := B.returns
  have hts := atoms_spec (ws := wsX6_reasons) B.pre
  have hown : s.vm.findClass RX6 = some m.cls := findClass_of_methodNamed B.named
  have hlocks := B.notSynchronized
  have hin4 : ∀ w ∈ u_ws RX1 TX1 4, w ∈ wsX6_reasons := by decide +kernel
  have hin6 : ∀ w ∈ u_ws RX3 TX3 7, w ∈ wsX6_reasons := by decide +kernel
  have hin7 : ∀ w ∈ u_ws RX4 TX4 2, w ∈ wsX6_reasons := by decide +kernel
  have hin9 : ∀ w ∈ u_ws RX6 TX6 8, w ∈ wsX6_reasons := by decide +kernel
  have hS : va_S (fun q => G.1 ≤ q) s.heap s.heap [] := va_S.rf
  have J24 : ∀ (n24 : Nat) (w : mW) (x0 : Nat) (x1 : Nat) (x2 : Int32) (x3 : Int32) (x4 : Int32) (x5 : Int32) (H : Heap) (locs : List Loc) (ls : Array Slot), e_X6_reasons_24 n24 w x0 x1 x2 x3 x4 x5 = some (r, w') → mP G w H → va_S (fun q => G.1 ≤ q) s.heap H locs → lv_has ls 6 [(0, .ref (x0)), (1, .ref (x1)), (2, .int (x2)), (3, .int (x3)), (4, .int (x4)), (5, .int (x5))] → W p l e ({ frames := 5, cells := 0, slots := 0, locals := 109 } : Room) s m ([.ref (h), .ref (p0), .int (p1), .int (p2)] : List Value).toArray below meth c H locs 0 0 (MQ below (m_Qi G r w') ([.ref (h), .ref (p0), .int (p1), .int (p2)] : List Value).toArray s 0 0 (fun q => G.1 ≤ q)) (F0 m 24 ls []) := by
    intro n24
    induction n24 with
    | zero => intro w x0 x1 x2 x3 x4 x5 H locs ls hd; exact absurd (show (none : Option (Int32 × mW)) = some _ from hd) (fun h => nomatch h)
    | succ n24 ih24 =>
      have J90 : ∀ (w : mW) (x0 : Nat) (x1 : Nat) (x2 : Int32) (x3 : Int32) (x4 : Int32) (x5 : Int32) (H : Heap) (locs : List Loc) (ls : Array Slot), e_X6_reasons_90 (e_X6_reasons_24 n24) w x0 x1 x2 x3 x4 x5 = some (r, w') → mP G w H → va_S (fun q => G.1 ≤ q) s.heap H locs → lv_has ls 6 [(0, .ref (x0)), (1, .ref (x1)), (2, .int (x2)), (3, .int (x3)), (4, .int (x4)), (5, .int (x5))] → W p l e ({ frames := 5, cells := 0, slots := 0, locals := 109 } : Room) s m ([.ref (h), .ref (p0), .int (p1), .int (p2)] : List Value).toArray below meth c H locs 0 0 (MQ below (m_Qi G r w') ([.ref (h), .ref (p0), .int (p1), .int (p2)] : List Value).toArray s 0 0 (fun q => G.1 ≤ q)) (F0 m 90 ls []) := by
        intro w x0 x1 x2 x3 x4 x5 H locs ls hd hP hS hl
        refine lv_iinc (v := x5 + 1) (lv' := [(5, .int (x5 + 1)), (0, .ref (x0)), (1, .ref (x1)), (2, .int (x2)), (3, .int (x3)), (4, .int (x4))]) hx hb dX6_reasons_90 hl (k := 5) rfl rfl (by decide) rfl (fun ls hl => ?_)
        refine lv_goto (tgt := 24) hx hb dX6_reasons_93 (by decide) ?_
        refine W.widen (k := 0) (n := 0) (Nat.le_of_ble_eq_true rfl) (Nat.le_of_ble_eq_true rfl) ?_
        exact ih24 w x0 x1 x2 x3 x4 (x5 + 1) _ _ _ hd hP hS (lv_sub hl [1, 2, 3, 4, 5, 0] rfl)
      have J73 : ∀ (w : mW) (x0 : Nat) (x1 : Nat) (x2 : Int32) (x3 : Int32) (x4 : Int32) (x5 : Int32) (H : Heap) (locs : List Loc) (ls : Array Slot), e_X6_reasons_73 (e_X6_reasons_24 n24) w x0 x1 x2 x3 x4 x5 = some (r, w') → mP G w H → va_S (fun q => G.1 ≤ q) s.heap H locs → lv_has ls 6 [(0, .ref (x0)), (1, .ref (x1)), (2, .int (x2)), (3, .int (x3)), (4, .int (x4)), (5, .int (x5))] → W p l e ({ frames := 5, cells := 0, slots := 0, locals := 109 } : Room) s m ([.ref (h), .ref (p0), .int (p1), .int (p2)] : List Value).toArray below meth c H locs 0 0 (MQ below (m_Qi G r w') ([.ref (h), .ref (p0), .int (p1), .int (p2)] : List Value).toArray s 0 0 (fun q => G.1 ≤ q)) (F0 m 73 ls []) := by
        intro w x0 x1 x2 x3 x4 x5 H locs ls hd hP hS hl
        refine lv_aload_n hx hb dX6_reasons_73 rfl (lv_at hl 0 rfl) ?_
        refine lv_aload_n hx hb dX6_reasons_74 rfl (lv_at hl 1 rfl) ?_
        refine lv_iload hx hb dX6_reasons_75 (lv_at hl 5 rfl) ?_
        refine lv_iload_n hx hb dX6_reasons_77 rfl (lv_at hl 3 rfl) ?_
        obtain ⟨hk425, hd⟩ := m_g_e hd
        obtain ⟨r426, w427, hc428, hd⟩ := m_b_e hd
        refine m_calli (k := 0) (n := 0) (va_runV (As := [.ref (x1), .int (x5), .int (x3)]) (rest := []) ⟨hx, hb, hml, hown, hts⟩ (c_X6_restsOnOther l G w w427 x0 x1 x5 x3 r426 hc428) (cwV 3 hts gX6_reasons_X6_restsOnOther rfl rfl rfl (by decide +kernel) ⟨(Nat.le_of_ble_eq_true rfl), (Nat.le_of_ble_eq_true rfl)⟩) (m_preV (C := RX6) (T := TX6) (N := 8) hM hP hS rfl (by decide) hk425) rfl rfl hl.1 rfl (lv_room (Nat.le_of_ble_eq_true rfl)) dX6_reasons_78 ⟨(Nat.le_of_ble_eq_true rfl), (Nat.le_of_ble_eq_true rfl)⟩) hS ⟨(Nat.le_of_ble_eq_true rfl), (Nat.le_of_ble_eq_true rfl)⟩ (fun H locs hP hS => ?_)
        refine lv_if_eq (tgt := 90) hx hb dX6_reasons_81 (by decide) (fun c429 => ?_) (fun c429 => ?_)
        · have hd := m_i_t c429 hd
          refine W.widen (k := 0) (n := 0) (Nat.le_of_ble_eq_true rfl) (Nat.le_of_ble_eq_true rfl) ?_
          exact J90 w427 x0 x1 x2 x3 x4 x5 _ _ _ hd hP hS (lv_sub hl [0, 1, 2, 3, 4, 5] rfl)
        · have hd := m_i_f c429 hd
          refine lv_iload hx hb dX6_reasons_84 (lv_at hl 4 rfl) ?_
          refine lv_iconst (v := 4) hx hb dX6_reasons_86 (by decide) ?_
          refine lv_ior hx hb dX6_reasons_87 ?_
          refine lv_istore (lv' := [(4, .int (x4 ||| 4)), (0, .ref (x0)), (1, .ref (x1)), (2, .int (x2)), (3, .int (x3)), (5, .int (x5))]) hx hb dX6_reasons_88 hl (by decide) rfl (fun ls hl => ?_)
          refine W.widen (k := 0) (n := 0) (Nat.le_of_ble_eq_true rfl) (Nat.le_of_ble_eq_true rfl) ?_
          exact J90 w427 x0 x1 x2 x3 (x4 ||| 4) x5 _ _ _ hd hP hS (lv_sub hl [1, 2, 3, 4, 0, 5] rfl)
      have J67 : ∀ (w : mW) (x0 : Nat) (x1 : Nat) (x2 : Int32) (x3 : Int32) (x4 : Int32) (x5 : Int32) (H : Heap) (locs : List Loc) (ls : Array Slot), e_X6_reasons_67 (e_X6_reasons_24 n24) w x0 x1 x2 x3 x4 x5 = some (r, w') → mP G w H → va_S (fun q => G.1 ≤ q) s.heap H locs → lv_has ls 6 [(0, .ref (x0)), (1, .ref (x1)), (2, .int (x2)), (3, .int (x3)), (4, .int (x4)), (5, .int (x5))] → W p l e ({ frames := 5, cells := 0, slots := 0, locals := 109 } : Room) s m ([.ref (h), .ref (p0), .int (p1), .int (p2)] : List Value).toArray below meth c H locs 0 0 (MQ below (m_Qi G r w') ([.ref (h), .ref (p0), .int (p1), .int (p2)] : List Value).toArray s 0 0 (fun q => G.1 ≤ q)) (F0 m 67 ls []) := by
        intro w x0 x1 x2 x3 x4 x5 H locs ls hd hP hS hl
        refine lv_iload hx hb dX6_reasons_67 (lv_at hl 4 rfl) ?_
        refine lv_iconst (v := 2) hx hb dX6_reasons_69 (by decide) ?_
        refine lv_ior hx hb dX6_reasons_70 ?_
        refine lv_istore (lv' := [(4, .int (x4 ||| 2)), (0, .ref (x0)), (1, .ref (x1)), (2, .int (x2)), (3, .int (x3)), (5, .int (x5))]) hx hb dX6_reasons_71 hl (by decide) rfl (fun ls hl => ?_)
        refine W.widen (k := 0) (n := 0) (Nat.le_of_ble_eq_true rfl) (Nat.le_of_ble_eq_true rfl) ?_
        exact J73 w x0 x1 x2 x3 (x4 ||| 2) x5 _ _ _ hd hP hS (lv_sub hl [1, 2, 3, 4, 0, 5] rfl)
      intro w x0 x1 x2 x3 x4 x5 H locs ls hd hP hS hl
      have hd : e_X6_reasons_24_b (e_X6_reasons_24 n24) w x0 x1 x2 x3 x4 x5 = some (r, w') := hd
      refine lv_iload hx hb dX6_reasons_24 (lv_at hl 5 rfl) ?_
      refine lv_bipush (v := 8) hx hb dX6_reasons_26 (by decide) ?_
      refine lv_icmp_ge (tgt := 96) hx hb dX6_reasons_28 (by decide) (fun c205 => ?_) (fun c205 => ?_)
      · have hd := m_i_t c205 hd
        refine lv_iload hx hb dX6_reasons_96 (lv_at hl 4 rfl) ?_
        obtain ⟨e1, e2⟩ := m_s_e hd
        refine W.widen (k := 0) (n := 0) (Nat.le_of_ble_eq_true rfl) (Nat.le_of_ble_eq_true rfl) ?_
        exact W.iret hx hb hr (fun t ht hW => ⟨⟨_, w, rfl, ⟨e1, e2⟩, by show mP _ _ t.heap; rw [ht]; exact hP⟩, hS.F ht⟩) hS.2.2 dX6_reasons_98
      · have hd := m_i_f c205 hd
        refine lv_aload_n hx hb dX6_reasons_31 rfl (lv_at hl 1 rfl) ?_
        refine lv_iload hx hb dX6_reasons_32 (lv_at hl 5 rfl) ?_
        obtain ⟨hk206, hd⟩ := m_g_e hd
        obtain ⟨r207, w208, hc209, hd⟩ := m_b_e hd
        refine m_calli (k := 0) (n := 0) (va_runV (As := [.int (x5)]) (rest := []) ⟨hx, hb, hml, hown, hts⟩ (c_X3_sawName l G w w208 x1 x5 r207 hc209) (cwV 1 hts gX6_reasons_X3_sawName rfl rfl rfl (by decide +kernel) ⟨(Nat.le_of_ble_eq_true rfl), (Nat.le_of_ble_eq_true rfl)⟩) (m_preV (C := RX3) (T := TX3) (N := 7) hM hP hS rfl (by decide) hk206) rfl rfl hl.1 rfl (lv_room (Nat.le_of_ble_eq_true rfl)) dX6_reasons_34 ⟨(Nat.le_of_ble_eq_true rfl), (Nat.le_of_ble_eq_true rfl)⟩) hS ⟨(Nat.le_of_ble_eq_true rfl), (Nat.le_of_ble_eq_true rfl)⟩ (fun H locs hP hS => ?_)
        refine lv_if_eq (tgt := 90) hx hb dX6_reasons_37 (by decide) (fun c210 => ?_) (fun c210 => ?_)
        · have hd := m_i_t c210 hd
          refine W.widen (k := 0) (n := 0) (Nat.le_of_ble_eq_true rfl) (Nat.le_of_ble_eq_true rfl) ?_
          exact J90 w208 x0 x1 x2 x3 x4 x5 _ _ _ hd hP hS (lv_sub hl [0, 1, 2, 3, 4, 5] rfl)
        · have hd := m_i_f c210 hd
          refine lv_iload hx hb dX6_reasons_40 (lv_at hl 5 rfl) ?_
          refine lv_iload_n hx hb dX6_reasons_42 rfl (lv_at hl 2 rfl) ?_
          refine lv_icmp_eq (tgt := 67) hx hb dX6_reasons_43 (by decide) (fun c211 => ?_) (fun c211 => ?_)
          · have hd := m_i_t c211 hd
            refine W.widen (k := 0) (n := 0) (Nat.le_of_ble_eq_true rfl) (Nat.le_of_ble_eq_true rfl) ?_
            exact J67 w208 x0 x1 x2 x3 x4 x5 _ _ _ hd hP hS (lv_sub hl [0, 1, 2, 3, 4, 5] rfl)
          · have hd := m_i_f c211 hd
            refine lv_aload_n hx hb dX6_reasons_46 rfl (lv_at hl 0 rfl) ?_
            obtain ⟨hk212, hd⟩ := m_g_e hd
            obtain ⟨r213, hr213, hd⟩ := m_o_e hd
            refine m_getR (C := RX6) (T := TX6) (N := 8) (own := RX6) (ref := RX6) hx hb hts hin9 hown hM.1 hP 9 rfl 5 (r := r213) ⟨hk212, hr213⟩ (by decide) (hts (.fieldLink RX6 31 "CellNotebook" "now" "LCellNotebook$Session;") (by decide +kernel)) (fun _ h9 => h9) dX6_reasons_47 ?_
            obtain ⟨hk214, hd⟩ := m_g_e hd
            obtain ⟨r215, hr215, hd⟩ := m_o_e hd
            refine m_getR (C := RX4) (T := TX4) (N := 2) (own := RX6) (ref := RX4) hx hb hts hin7 hown hM.1 hP 7 rfl 0 (r := r215) ⟨hk214, hr215⟩ (by decide) (hts (.fieldLink RX6 177 "CellNotebook$Session" "names" "LCellNotebook$Names;") (by decide +kernel)) (fun _ h9 => h9) dX6_reasons_50 ?_
            refine lv_iload hx hb dX6_reasons_53 (lv_at hl 5 rfl) ?_
            obtain ⟨hk216, hd⟩ := m_g_e hd
            obtain ⟨r217, w218, hc219, hd⟩ := m_b_e hd
            refine m_calli (k := 0) (n := 0) (va_runV (As := [.int (x5)]) (rest := []) ⟨hx, hb, hml, hown, hts⟩ (c_X2_stampOf l G w208 w218 r215 x5 r217 hc219) (cwV 1 hts gX6_reasons_X2_stampOf rfl rfl rfl (by decide +kernel) ⟨(Nat.le_of_ble_eq_true rfl), (Nat.le_of_ble_eq_true rfl)⟩) (m_preV (C := RX2) (T := TX2) (N := 2) hM hP hS rfl (by decide) hk216) rfl rfl hl.1 rfl (lv_room (Nat.le_of_ble_eq_true rfl)) dX6_reasons_55 ⟨(Nat.le_of_ble_eq_true rfl), (Nat.le_of_ble_eq_true rfl)⟩) hS ⟨(Nat.le_of_ble_eq_true rfl), (Nat.le_of_ble_eq_true rfl)⟩ (fun H locs hP hS => ?_)
            refine lv_aload_n hx hb dX6_reasons_58 rfl (lv_at hl 1 rfl) ?_
            refine lv_iload hx hb dX6_reasons_59 (lv_at hl 5 rfl) ?_
            obtain ⟨hk220, hd⟩ := m_g_e hd
            obtain ⟨r221, w222, hc223, hd⟩ := m_b_e hd
            refine m_calli (k := 0) (n := 0) (va_runV (As := [.int (x5)]) (rest := [.int (r217)]) ⟨hx, hb, hml, hown, hts⟩ (c_X3_stampSeen l G w218 w222 x1 x5 r221 hc223) (cwV 1 hts gX6_reasons_X3_stampSeen rfl rfl rfl (by decide +kernel) ⟨(Nat.le_of_ble_eq_true rfl), (Nat.le_of_ble_eq_true rfl)⟩) (m_preV (C := RX3) (T := TX3) (N := 7) hM hP hS rfl (by decide) hk220) rfl rfl hl.1 rfl (lv_room (Nat.le_of_ble_eq_true rfl)) dX6_reasons_61 ⟨(Nat.le_of_ble_eq_true rfl), (Nat.le_of_ble_eq_true rfl)⟩) hS ⟨(Nat.le_of_ble_eq_true rfl), (Nat.le_of_ble_eq_true rfl)⟩ (fun H locs hP hS => ?_)
            refine lv_icmp_eq (tgt := 73) hx hb dX6_reasons_64 (by decide) (fun c224 => ?_) (fun c224 => ?_)
            · have hd := m_i_t c224 hd
              refine W.widen (k := 0) (n := 0) (Nat.le_of_ble_eq_true rfl) (Nat.le_of_ble_eq_true rfl) ?_
              exact J73 w222 x0 x1 x2 x3 x4 x5 _ _ _ hd hP hS (lv_sub hl [0, 1, 2, 3, 4, 5] rfl)
            · have hd := m_i_f c224 hd
              refine W.widen (k := 0) (n := 0) (Nat.le_of_ble_eq_true rfl) (Nat.le_of_ble_eq_true rfl) ?_
              exact J67 w222 x0 x1 x2 x3 x4 x5 _ _ _ hd hP hS (lv_sub hl [0, 1, 2, 3, 4, 5] rfl)
  have J19 : ∀ (w : mW) (x0 : Nat) (x1 : Nat) (x2 : Int32) (x3 : Int32) (s0 : Int32) (H : Heap) (locs : List Loc) (ls : Array Slot), e_X6_reasons_19 w x0 x1 x2 x3 s0 = some (r, w') → mP G w H → va_S (fun q => G.1 ≤ q) s.heap H locs → lv_has ls 6 [(0, .ref (x0)), (1, .ref (x1)), (2, .int (x2)), (3, .int (x3))] → W p l e ({ frames := 5, cells := 0, slots := 0, locals := 109 } : Room) s m ([.ref (h), .ref (p0), .int (p1), .int (p2)] : List Value).toArray below meth c H locs 0 0 (MQ below (m_Qi G r w') ([.ref (h), .ref (p0), .int (p1), .int (p2)] : List Value).toArray s 0 0 (fun q => G.1 ≤ q)) (F0 m 19 ls [.int (s0)]) := by
    intro w x0 x1 x2 x3 s0 H locs ls hd hP hS hl
    refine lv_istore (lv' := [(4, .int (s0)), (0, .ref (x0)), (1, .ref (x1)), (2, .int (x2)), (3, .int (x3))]) hx hb dX6_reasons_19 hl (by decide) rfl (fun ls hl => ?_)
    refine lv_iconst (v := 0) hx hb dX6_reasons_21 (by decide) ?_
    refine lv_istore (lv' := [(5, .int (0)), (4, .int (s0)), (0, .ref (x0)), (1, .ref (x1)), (2, .int (x2)), (3, .int (x3))]) hx hb dX6_reasons_22 hl (by decide) rfl (fun ls hl => ?_)
    refine W.widen (k := 0) (n := 0) (Nat.le_of_ble_eq_true rfl) (Nat.le_of_ble_eq_true rfl) ?_
    exact J24 m_N w x0 x1 x2 x3 s0 0 _ _ _ hd hP hS (lv_sub hl [2, 3, 4, 5, 1, 0] rfl)
  have hl := lv_entry ([.ref (h), .ref (p0), .int (p1), .int (p2)]) (n := 6) (Nat.le_of_ble_eq_true rfl)
  rw [lg_entry_eq]
  generalize (lg_sl ([.ref (h), .ref (p0), .int (p1), .int (p2)]) ++ List.replicate (6 - (lg_sl ([.ref (h), .ref (p0), .int (p1), .int (p2)])).length) Slot.unset).toArray = ls at hl ⊢
  have hl : lv_has ls 6 [(0, .ref (h)), (1, .ref (p0)), (2, .int (p1)), (3, .int (p2))] := hl
  refine lv_aload_n hx hb dX6_reasons_0 rfl (lv_at hl 1 rfl) ?_
  obtain ⟨hk1, hd⟩ := m_g_e hd
  obtain ⟨r2, hr2, hd⟩ := m_o_e hd
  refine m_getR (C := RX3) (T := TX3) (N := 7) (own := RX6) (ref := RX3) hx hb hts hin6 hown hM.1 hP 6 rfl 1 (r := r2) ⟨hk1, hr2⟩ (by decide) (hts (.fieldLink RX6 244 "CellNotebook$Run" "cell" "LCellNotebook$Cell;") (by decide +kernel)) (fun _ h9 => h9) dX6_reasons_1 ?_
  obtain ⟨hk3, hd⟩ := m_g_e hd
  refine m_getI (C := RX1) (T := TX1) (N := 4) (own := RX6) (ref := RX1) hx hb hts hin4 hown hM.1 hP 4 rfl 2 hk3 (by decide) (hts (.fieldLink RX6 104 "CellNotebook$Cell" "runsAtChange" "I") (by decide +kernel)) (fun _ h9 => h9) dX6_reasons_4 ?_
  refine lv_aload_n hx hb dX6_reasons_7 rfl (lv_at hl 1 rfl) ?_
  refine m_getI (C := RX3) (T := TX3) (N := 7) (own := RX6) (ref := RX3) hx hb hts hin6 hown hM.1 hP 6 rfl 0 hk1 (by decide) (hts (.fieldLink RX6 243 "CellNotebook$Run" "number" "I") (by decide +kernel)) (fun _ h9 => h9) dX6_reasons_8 ?_
  refine lv_icmp_lt (tgt := 18) hx hb dX6_reasons_11 (by decide) (fun c4 => ?_) (fun c4 => ?_)
  · have hd := m_i_t c4 hd
    refine lv_iconst (v := 0) hx hb dX6_reasons_18 (by decide) ?_
    refine W.widen (k := 0) (n := 0) (Nat.le_of_ble_eq_true rfl) (Nat.le_of_ble_eq_true rfl) ?_
    exact J19 w h p0 p1 p2 0 _ _ _ hd hP hS (lv_sub hl [0, 1, 2, 3] rfl)
  · have hd := m_i_f c4 hd
    refine lv_iconst (v := 1) hx hb dX6_reasons_14 (by decide) ?_
    refine lv_goto (tgt := 19) hx hb dX6_reasons_15 (by decide) ?_
    refine W.widen (k := 0) (n := 0) (Nat.le_of_ble_eq_true rfl) (Nat.le_of_ble_eq_true rfl) ?_
    exact J19 w h p0 p1 p2 1 _ _ _ hd hP hS (lv_sub hl [0, 1, 2, 3] rfl)

