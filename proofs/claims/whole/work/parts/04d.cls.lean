noncomputable def e_X6_staleCells_61 (k4 : mW → Nat → Int32 → Int32 → Int32 → Option (Int32 × mW)) (w : mW) (x0 : Nat) (x1 : Int32) (x2 : Int32) (x3 : Int32) : Option (Int32 × mW) := k4 w x0 x1 x2 (x3 + 1)
noncomputable def e_X6_staleCells_4_b (k4 : mW → Nat → Int32 → Int32 → Int32 → Option (Int32 × mW)) (w : mW) (x0 : Nat) (x1 : Int32) (x2 : Int32) (x3 : Int32) : Option (Int32 × mW) := m_g (m_kd w x0 = 10) <| m_o (m_fr w 9 2 x0) fun r102 => m_g (m_kd w r102 = 3) <| m_b (e_Jx4a65c_size_8abf5 w r102) fun r104 w105 => if r104 ≤ x3 then (some (x2, w105)) else (m_g (m_kd w105 x0 = 10) <| m_o (m_fr w105 9 2 x0) fun r109 => m_g (m_kd w105 r109 = 3) <| m_b (e_Jx4a65c_get_915e3 w105 r109 x3) fun r111 w112 => m_g (m_kd w112 r111 = 7) <| m_g (m_kd w112 x0 = 10) <| m_b (e_X6_isLastRun w112 x0 r111) fun r116 w117 => if r116 = (0 : Int32) then (e_X6_staleCells_61 k4 w117 x0 x1 x2 x3) else (m_g (m_kd w117 x0 = 10) <| m_b (e_X6_reasons w117 x0 r111 x1 x2) fun r121 w122 => if r121 = (0 : Int32) then (e_X6_staleCells_61 k4 w122 x0 x1 x2 x3) else (m_g (m_kd w122 r111 = 7) <| m_o (m_fr w122 6 1 r111) fun r126 => m_g (m_kd w122 r126 = 5) <| e_X6_staleCells_61 k4 w122 x0 x1 (x2 ||| (1 <<< ((m_fi w122 4 0 r126) &&& 31))) x3)))
noncomputable def e_X6_staleCells_4 (n : Nat) : mW → Nat → Int32 → Int32 → Int32 → Option (Int32 × mW) := Nat.rec (motive := fun _ => mW → Nat → Int32 → Int32 → Int32 → Option (Int32 × mW)) (fun _ _ _ _ _ => none) (fun _ k => e_X6_staleCells_4_b  k) n
noncomputable def e_X6_staleCells (w : mW) (h : Nat) (p0 : Int32) : Option (Int32 × mW) := e_X6_staleCells_4 m_N w h p0 0 0
set_option maxHeartbeats 1000000 in
set_option maxRecDepth 100000 in
theorem c_X6_staleCells (l : Launch) (G : m_G) (w w' : mW) (h : Nat) (p0 : Int32) (r : Int32) (hd : e_X6_staleCells w h p0 = some (r, w')) : Met l yX6_staleCells wsX6_staleCells ({ frames := 6, cells := 0, slots := 0, locals := 134 } : Room) (m_Pc G w [.ref (h), .int (p0)]) (m_Qi G r w') 0 0 (fun q => G.1 ≤ q) := by
  refine Met.ofW (cc := cX6_staleCells) (maxL := 5) (ret := (some .int)) (by decide +kernel) rfl ?_
  intro p e s m args below meth c s₁ B hml hv
  obtain ⟨rfl, hM, hP⟩ := hv
  have hx := B.exec
  have hb := B.bytes
  have hr := B.returns
  have hts := atoms_spec (ws := wsX6_staleCells) B.pre
  have hown : s.vm.findClass RX6 = some m.cls := findClass_of_methodNamed B.named
  have hlocks := B.notSynchronized
  have hin4 : ∀ w ∈ u_ws RX1 TX1 4, w ∈ wsX6_staleCells := by decide +kernel
  have hin6 : ∀ w ∈ u_ws RX3 TX3 7, w ∈ wsX6_staleCells := by decide +kernel
  have hin9 : ∀ w ∈ u_ws RX6 TX6 8, w ∈ wsX6_staleCells := by decide +kernel
  have hS : va_S (fun q => G.1 ≤ q) s.heap s.heap [] := va_S.rf
  have J4 : ∀ (n4 : Nat) (w : mW) (x0 : Nat) (x1 : Int32) (x2 : Int32) (x3 : Int32) (H : Heap) (locs : List Loc) (ls : Array Slot), e_X6_staleCells_4 n4 w x0 x1 x2 x3 = some (r, w') → mP G w H → va_S (fun q => G.1 ≤ q) s.heap H locs → lv_has ls 5 [(0, .ref (x0)), (1, .int (x1)), (2, .int (x2)), (3, .int (x3))] → W p l e ({ frames := 6, cells := 0, slots := 0, locals := 134 } : Room) s m ([.ref (h), .int (p0)] : List Value).toArray below meth c H locs 0 0 (MQ below (m_Qi G r w') ([.ref (h), .int (p0)] : List Value).toArray s 0 0 (fun q => G.1 ≤ q)) (F0 m 4 ls []) := by
    intro n4
    induction n4 with
    | zero => intro w x0 x1 x2 x3 H locs ls hd; exact absurd (show (none : Option (Int32 × mW)) = some _ from hd) (fun h => nomatch h)
    | succ n4 ih4 =>
      have J61 : ∀ (w : mW) (x0 : Nat) (x1 : Int32) (x2 : Int32) (x3 : Int32) (H : Heap) (locs : List Loc) (ls : Array Slot), e_X6_staleCells_61 (e_X6_staleCells_4 n4) w x0 x1 x2 x3 = some (r, w') → mP G w H → va_S (fun q => G.1 ≤ q) s.heap H locs → lv_has ls 5 [(0, .ref (x0)), (1, .int (x1)), (2, .int (x2)), (3, .int (x3))] → W p l e ({ frames := 6, cells := 0, slots := 0, locals := 134 } : Room) s m ([.ref (h), .int (p0)] : List Value).toArray below meth c H locs 0 0 (MQ below (m_Qi G r w') ([.ref (h), .int (p0)] : List Value).toArray s 0 0 (fun q => G.1 ≤ q)) (F0 m 61 ls []) := by
        intro w x0 x1 x2 x3 H locs ls hd hP hS hl
        refine lv_iinc (v := x3 + 1) (lv' := [(3, .int (x3 + 1)), (0, .ref (x0)), (1, .int (x1)), (2, .int (x2))]) hx hb dX6_staleCells_61 hl (k := 3) rfl rfl (by decide) rfl (fun ls hl => ?_)
        refine lv_goto (tgt := 4) hx hb dX6_staleCells_64 (by decide) ?_
        refine W.widen (k := 0) (n := 0) (Nat.le_of_ble_eq_true rfl) (Nat.le_of_ble_eq_true rfl) ?_
        exact ih4 w x0 x1 x2 (x3 + 1) _ _ _ hd hP hS (lv_sub hl [1, 2, 3, 0] rfl)
      intro w x0 x1 x2 x3 H locs ls hd hP hS hl
      have hd : e_X6_staleCells_4_b (e_X6_staleCells_4 n4) w x0 x1 x2 x3 = some (r, w') := hd
      refine lv_iload_n hx hb dX6_staleCells_4 rfl (lv_at hl 3 rfl) ?_
      refine lv_aload_n hx hb dX6_staleCells_5 rfl (lv_at hl 0 rfl) ?_
      obtain ⟨hk101, hd⟩ := m_g_e hd
      obtain ⟨r102, hr102, hd⟩ := m_o_e hd
      refine m_getR (C := RX6) (T := TX6) (N := 8) (own := RX6) (ref := RX6) hx hb hts hin9 hown hM.1 hP 9 rfl 2 (r := r102) ⟨hk101, hr102⟩ (by decide) (hts (.fieldLink RX6 19 "CellNotebook" "allRuns" "Ljava/util/ArrayList;") (by decide +kernel)) (fun _ h9 => h9) dX6_staleCells_6 ?_
      obtain ⟨hk103, hd⟩ := m_g_e hd
      obtain ⟨r104, w105, hc106, hd⟩ := m_b_e hd
      refine m_calli (k := 0) (n := 0) (va_runV (As := []) (rest := [.int (x3)]) ⟨hx, hb, hml, hown, hts⟩ (c_Jx4a65c_size_8abf5 l G w w105 r102 r104 hc106) (cwV 0 hts gX6_staleCells_Jx4a65c_size_8abf5 rfl rfl rfl (by decide +kernel) ⟨(Nat.le_of_ble_eq_true rfl), (Nat.le_of_ble_eq_true rfl)⟩) (m_preV (C := RJx4a65c) (T := TJx4a65c) (N := 3) hM hP hS rfl (by decide) hk103) rfl rfl hl.1 rfl (lv_room (Nat.le_of_ble_eq_true rfl)) dX6_staleCells_9 ⟨(Nat.le_of_ble_eq_true rfl), (Nat.le_of_ble_eq_true rfl)⟩) hS ⟨(Nat.le_of_ble_eq_true rfl), (Nat.le_of_ble_eq_true rfl)⟩ (fun H locs hP hS => ?_)
      refine lv_icmp_ge (tgt := 67) hx hb dX6_staleCells_12 (by decide) (fun c107 => ?_) (fun c107 => ?_)
      · have hd := m_i_t c107 hd
        refine lv_iload_n hx hb dX6_staleCells_67 rfl (lv_at hl 2 rfl) ?_
        obtain ⟨e1, e2⟩ := m_s_e hd
        refine W.widen (k := 0) (n := 0) (Nat.le_of_ble_eq_true rfl) (Nat.le_of_ble_eq_true rfl) ?_
        exact W.iret hx hb hr (fun t ht hW => ⟨⟨_, w105, rfl, ⟨e1, e2⟩, by show mP _ _ t.heap; rw [ht]; exact hP⟩, hS.F ht⟩) hS.2.2 dX6_staleCells_68
      · have hd := m_i_f c107 hd
        refine lv_aload_n hx hb dX6_staleCells_15 rfl (lv_at hl 0 rfl) ?_
        obtain ⟨hk108, hd⟩ := m_g_e hd
        obtain ⟨r109, hr109, hd⟩ := m_o_e hd
        refine m_getR (C := RX6) (T := TX6) (N := 8) (own := RX6) (ref := RX6) hx hb hts hin9 hown hM.1 hP 9 rfl 2 (r := r109) ⟨hk108, hr109⟩ (by decide) (hts (.fieldLink RX6 19 "CellNotebook" "allRuns" "Ljava/util/ArrayList;") (by decide +kernel)) (fun _ h9 => h9) dX6_staleCells_16 ?_
        refine lv_iload_n hx hb dX6_staleCells_19 rfl (lv_at hl 3 rfl) ?_
        obtain ⟨hk110, hd⟩ := m_g_e hd
        obtain ⟨r111, w112, hc113, hd⟩ := m_b_e hd
        refine m_callr (k := 0) (n := 0) (va_runV (As := [.int (x3)]) (rest := []) ⟨hx, hb, hml, hown, hts⟩ (c_Jx4a65c_get_915e3 l G w105 w112 r109 x3 r111 hc113) (cwV 1 hts gX6_staleCells_Jx4a65c_get_915e3 rfl rfl rfl (by decide +kernel) ⟨(Nat.le_of_ble_eq_true rfl), (Nat.le_of_ble_eq_true rfl)⟩) (m_preV (C := RJx4a65c) (T := TJx4a65c) (N := 3) hM hP hS rfl (by decide) hk110) rfl rfl hl.1 rfl (lv_room (Nat.le_of_ble_eq_true rfl)) dX6_staleCells_20 ⟨(Nat.le_of_ble_eq_true rfl), (Nat.le_of_ble_eq_true rfl)⟩) hS ⟨(Nat.le_of_ble_eq_true rfl), (Nat.le_of_ble_eq_true rfl)⟩ (fun H locs hP hS => ?_)
        obtain ⟨hk114, hd⟩ := m_g_e hd
        refine va_castS (own := RX6) (nm := RX3) hx hb hown (hts (.classLink RX6 198 RX3) (by decide +kernel)) (hM.1.1 6 _ rfl).2 (m_recv hM.1 hP hk114 (by decide) rfl) dX6_staleCells_23 ?_
        refine lv_astore (lv' := [(4, .ref (r111)), (0, .ref (x0)), (1, .int (x1)), (2, .int (x2)), (3, .int (x3))]) hx hb dX6_staleCells_26 hl (by decide) rfl (fun ls hl => ?_)
        refine lv_aload_n hx hb dX6_staleCells_28 rfl (lv_at hl 1 rfl) ?_
        refine lv_aload hx hb dX6_staleCells_29 (lv_at hl 0 rfl) ?_
        obtain ⟨hk115, hd⟩ := m_g_e hd
        obtain ⟨r116, w117, hc118, hd⟩ := m_b_e hd
        refine m_calli (k := 0) (n := 0) (va_runV (As := [.ref (r111)]) (rest := []) ⟨hx, hb, hml, hown, hts⟩ (c_X6_isLastRun l G w112 w117 x0 r111 r116 hc118) (cwV 1 hts gX6_staleCells_X6_isLastRun rfl rfl rfl (by decide +kernel) ⟨(Nat.le_of_ble_eq_true rfl), (Nat.le_of_ble_eq_true rfl)⟩) (m_preV (C := RX6) (T := TX6) (N := 8) hM hP hS rfl (by decide) hk115) rfl rfl hl.1 rfl (lv_room (Nat.le_of_ble_eq_true rfl)) dX6_staleCells_31 ⟨(Nat.le_of_ble_eq_true rfl), (Nat.le_of_ble_eq_true rfl)⟩) hS ⟨(Nat.le_of_ble_eq_true rfl), (Nat.le_of_ble_eq_true rfl)⟩ (fun H locs hP hS => ?_)
        refine lv_if_eq (tgt := 61) hx hb dX6_staleCells_34 (by decide) (fun c119 => ?_) (fun c119 => ?_)
        · have hd := m_i_t c119 hd
          refine W.widen (k := 0) (n := 0) (Nat.le_of_ble_eq_true rfl) (Nat.le_of_ble_eq_true rfl) ?_
          exact J61 w117 x0 x1 x2 x3 _ _ _ hd hP hS (lv_sub hl [1, 2, 3, 4] rfl)
        · have hd := m_i_f c119 hd
          refine lv_aload_n hx hb dX6_staleCells_37 rfl (lv_at hl 1 rfl) ?_
          refine lv_aload hx hb dX6_staleCells_38 (lv_at hl 0 rfl) ?_
          refine lv_iload_n hx hb dX6_staleCells_40 rfl (lv_at hl 2 rfl) ?_
          refine lv_iload_n hx hb dX6_staleCells_41 rfl (lv_at hl 3 rfl) ?_
          obtain ⟨hk120, hd⟩ := m_g_e hd
          obtain ⟨r121, w122, hc123, hd⟩ := m_b_e hd
          refine m_calli (k := 0) (n := 0) (va_runV (As := [.ref (r111), .int (x1), .int (x2)]) (rest := []) ⟨hx, hb, hml, hown, hts⟩ (c_X6_reasons l G w117 w122 x0 r111 x1 x2 r121 hc123) (cwV 3 hts gX6_staleCells_X6_reasons rfl rfl rfl (by decide +kernel) ⟨(Nat.le_of_ble_eq_true rfl), (Nat.le_of_ble_eq_true rfl)⟩) (m_preV (C := RX6) (T := TX6) (N := 8) hM hP hS rfl (by decide) hk120) rfl rfl hl.1 rfl (lv_room (Nat.le_of_ble_eq_true rfl)) dX6_staleCells_42 ⟨(Nat.le_of_ble_eq_true rfl), (Nat.le_of_ble_eq_true rfl)⟩) hS ⟨(Nat.le_of_ble_eq_true rfl), (Nat.le_of_ble_eq_true rfl)⟩ (fun H locs hP hS => ?_)
          refine lv_if_eq (tgt := 61) hx hb dX6_staleCells_45 (by decide) (fun c124 => ?_) (fun c124 => ?_)
          · have hd := m_i_t c124 hd
            refine W.widen (k := 0) (n := 0) (Nat.le_of_ble_eq_true rfl) (Nat.le_of_ble_eq_true rfl) ?_
            exact J61 w122 x0 x1 x2 x3 _ _ _ hd hP hS (lv_sub hl [1, 2, 3, 4] rfl)
          · have hd := m_i_f c124 hd
            refine lv_iload_n hx hb dX6_staleCells_48 rfl (lv_at hl 3 rfl) ?_
            refine lv_iconst (v := 1) hx hb dX6_staleCells_49 (by decide) ?_
            refine lv_aload hx hb dX6_staleCells_50 (lv_at hl 0 rfl) ?_
            obtain ⟨hk125, hd⟩ := m_g_e hd
            obtain ⟨r126, hr126, hd⟩ := m_o_e hd
            refine m_getR (C := RX3) (T := TX3) (N := 7) (own := RX6) (ref := RX3) hx hb hts hin6 hown hM.1 hP 6 rfl 1 (r := r126) ⟨hk125, hr126⟩ (by decide) (hts (.fieldLink RX6 244 "CellNotebook$Run" "cell" "LCellNotebook$Cell;") (by decide +kernel)) (fun _ h9 => h9) dX6_staleCells_52 ?_
            obtain ⟨hk127, hd⟩ := m_g_e hd
            refine m_getI (C := RX1) (T := TX1) (N := 4) (own := RX6) (ref := RX1) hx hb hts hin4 hown hM.1 hP 4 rfl 0 hk127 (by decide) (hts (.fieldLink RX6 128 "CellNotebook$Cell" "number" "I") (by decide +kernel)) (fun _ h9 => h9) dX6_staleCells_55 ?_
            refine lv_ishl hx hb dX6_staleCells_58 ?_
            refine lv_ior hx hb dX6_staleCells_59 ?_
            refine lv_istore_n (lv' := [(2, .int (x2 ||| (1 <<< ((m_fi w122 4 0 r126) &&& 31)))), (4, .ref (r111)), (0, .ref (x0)), (1, .int (x1)), (3, .int (x3))]) hx hb dX6_staleCells_60 rfl hl (by decide) rfl (fun ls hl => ?_)
            refine W.widen (k := 0) (n := 0) (Nat.le_of_ble_eq_true rfl) (Nat.le_of_ble_eq_true rfl) ?_
            exact J61 w122 x0 x1 (x2 ||| (1 <<< ((m_fi w122 4 0 r126) &&& 31))) x3 _ _ _ hd hP hS (lv_sub hl [2, 3, 0, 4] rfl)
  have hl := lv_entry ([.ref (h), .int (p0)]) (n := 5) (Nat.le_of_ble_eq_true rfl)
  rw [lg_entry_eq]
  generalize (lg_sl ([.ref (h), .int (p0)]) ++ List.replicate (5 - (lg_sl ([.ref (h), .int (p0)])).length) Slot.unset).toArray = ls at hl ⊢
  have hl : lv_has ls 5 [(0, .ref (h)), (1, .int (p0))] := hl
  refine lv_iconst (v := 0) hx hb dX6_staleCells_0 (by decide) ?_
  refine lv_istore_n (lv' := [(2, .int (0)), (0, .ref (h)), (1, .int (p0))]) hx hb dX6_staleCells_1 rfl hl (by decide) rfl (fun ls hl => ?_)
  refine lv_iconst (v := 0) hx hb dX6_staleCells_2 (by decide) ?_
  refine lv_istore_n (lv' := [(3, .int (0)), (2, .int (0)), (0, .ref (h)), (1, .int (p0))]) hx hb dX6_staleCells_3 rfl hl (by decide) rfl (fun ls hl => ?_)
  refine W.widen (k := 0) (n := 0) (Nat.le_of_ble_eq_true rfl) (Nat.le_of_ble_eq_true rfl) ?_
  exact J4 m_N w h p0 0 0 _ _ _ hd hP hS (lv_sub hl [2, 3, 1, 0] rfl)


noncomputable def e_X6_needsRun_34 (w : mW) (s0 : Int32) : Option (Int32 × mW) := m_g (vp_nar .boolean s0 = s0) <| some (s0, w)
noncomputable def e_X6_needsRun_29 (w : mW)  : Option (Int32 × mW) := e_X6_needsRun_34 w 1
noncomputable def e_X6_needsRun (w : mW) (h : Nat) (p0 : Nat) : Option (Int32 × mW) := m_g (m_kd w h = 10) <| m_o (m_fr w 9 5 h) fun r2 => m_g (m_kd w p0 = 5) <| m_g (m_kd w r2 = 8) <| m_b (e_X4_lastRunOf w r2 (m_fi w 4 0 p0)) fun r5 w6 => if r5 = (0 : Int32) then (e_X6_needsRun_29 w6) else (m_g (m_kd w6 h = 10) <| m_b (e_X6_staleCells w6 h ((-1))) fun r10 w11 => m_g (m_kd w11 p0 = 5) <| if (r10 &&& (1 <<< ((m_fi w11 4 0 p0) &&& 31))) = (0 : Int32) then (e_X6_needsRun_34 w11 0) else (e_X6_needsRun_29 w11))
set_option maxHeartbeats 1000000 in
set_option maxRecDepth 100000 in
theorem c_X6_needsRun (l : Launch) (G : m_G) (w w' : mW) (h : Nat) (p0 : Nat) (r : Int32) (hd : e_X6_needsRun w h p0 = some (r, w')) : Met l yX6_needsRun wsX6_needsRun ({ frames := 7, cells := 0, slots := 0, locals := 158 } : Room) (m_Pc G w [.ref (h), .ref (p0)]) (m_Qi G r w') 0 0 (fun q => G.1 ≤ q) := by
  refine Met.ofW (cc := cX6_needsRun) (maxL := 2) (ret := (some .boolean)) (by decide +kernel) rfl ?_
  intro p e s m args below meth c s₁ B hml hv
  obtain ⟨rfl, hM, hP⟩ := hv
  have hx := B.exec
  have hb := B.bytes
  have hr := B.returns
  have hts := atoms_spec (ws := wsX6_needsRun) B.pre
  have hown : s.vm.findClass RX6 = some m.cls := findClass_of_methodNamed B.named
  have hlocks := B.notSynchronized
  have hin4 : ∀ w ∈ u_ws RX1 TX1 4, w ∈ wsX6_needsRun := by decide +kernel
  have hin9 : ∀ w ∈ u_ws RX6 TX6 8, w ∈ wsX6_needsRun := by decide +kernel
  have hS : va_S (fun q => G.1 ≤ q) s.heap s.heap [] := va_S.rf
  have J34 : ∀ (w : mW) (s0 : Int32) (H : Heap) (locs : List Loc) (ls : Array Slot), e_X6_needsRun_34 w s0 = some (r, w') → mP G w H → va_S (fun q => G.1 ≤ q) s.heap H locs → lv_has ls 2 [] → W p l e ({ frames := 7, cells := 0, slots := 0, locals := 158 } : Room) s m ([.ref (h), .ref (p0)] : List Value).toArray below meth c H locs 0 0 (MQ below (m_Qi G r w') ([.ref (h), .ref (p0)] : List Value).toArray s 0 0 (fun q => G.1 ≤ q)) (F0 m 34 ls [.int (s0)]) := by
    intro w s0 H locs ls hd hP hS hl
    obtain ⟨hn215, hd⟩ := m_g_e hd
    obtain ⟨e1, e2⟩ := m_s_e hd
    refine W.widen (k := 0) (n := 0) (Nat.le_of_ble_eq_true rfl) (Nat.le_of_ble_eq_true rfl) ?_
    exact W.zret hx hb hr (m_narZ hn215).1 (fun t ht hW => ⟨⟨_, w, rfl, ⟨e1, e2⟩, by show mP _ _ t.heap; rw [ht]; exact hP⟩, hS.F ht⟩) hS.2.2 dX6_needsRun_34
  have J29 : ∀ (w : mW) (H : Heap) (locs : List Loc) (ls : Array Slot), e_X6_needsRun_29 w = some (r, w') → mP G w H → va_S (fun q => G.1 ≤ q) s.heap H locs → lv_has ls 2 [] → W p l e ({ frames := 7, cells := 0, slots := 0, locals := 158 } : Room) s m ([.ref (h), .ref (p0)] : List Value).toArray below meth c H locs 0 0 (MQ below (m_Qi G r w') ([.ref (h), .ref (p0)] : List Value).toArray s 0 0 (fun q => G.1 ≤ q)) (F0 m 29 ls []) := by
    intro w H locs ls hd hP hS hl
    refine lv_iconst (v := 1) hx hb dX6_needsRun_29 (by decide) ?_
    refine lv_goto (tgt := 34) hx hb dX6_needsRun_30 (by decide) ?_
    refine W.widen (k := 0) (n := 0) (Nat.le_of_ble_eq_true rfl) (Nat.le_of_ble_eq_true rfl) ?_
    exact J34 w 1 _ _ _ hd hP hS (lv_sub hl [] rfl)
  have hl := lv_entry ([.ref (h), .ref (p0)]) (n := 2) (Nat.le_of_ble_eq_true rfl)
  rw [lg_entry_eq]
  generalize (lg_sl ([.ref (h), .ref (p0)]) ++ List.replicate (2 - (lg_sl ([.ref (h), .ref (p0)])).length) Slot.unset).toArray = ls at hl ⊢
  have hl : lv_has ls 2 [(0, .ref (h)), (1, .ref (p0))] := hl
  refine lv_aload_n hx hb dX6_needsRun_0 rfl (lv_at hl 0 rfl) ?_
  obtain ⟨hk1, hd⟩ := m_g_e hd
  obtain ⟨r2, hr2, hd⟩ := m_o_e hd
  refine m_getR (C := RX6) (T := TX6) (N := 8) (own := RX6) (ref := RX6) hx hb hts hin9 hown hM.1 hP 9 rfl 5 (r := r2) ⟨hk1, hr2⟩ (by decide) (hts (.fieldLink RX6 31 "CellNotebook" "now" "LCellNotebook$Session;") (by decide +kernel)) (fun _ h9 => h9) dX6_needsRun_1 ?_
  refine lv_aload_n hx hb dX6_needsRun_4 rfl (lv_at hl 1 rfl) ?_
  obtain ⟨hk3, hd⟩ := m_g_e hd
  refine m_getI (C := RX1) (T := TX1) (N := 4) (own := RX6) (ref := RX1) hx hb hts hin4 hown hM.1 hP 4 rfl 0 hk3 (by decide) (hts (.fieldLink RX6 128 "CellNotebook$Cell" "number" "I") (by decide +kernel)) (fun _ h9 => h9) dX6_needsRun_5 ?_
  obtain ⟨hk4, hd⟩ := m_g_e hd
  obtain ⟨r5, w6, hc7, hd⟩ := m_b_e hd
  refine m_calli (k := 0) (n := 0) (va_runV (As := [.int (m_fi w 4 0 p0)]) (rest := []) ⟨hx, hb, hml, hown, hts⟩ (c_X4_lastRunOf l G w w6 r2 (m_fi w 4 0 p0) r5 hc7) (cwV 1 hts gX6_needsRun_X4_lastRunOf rfl rfl rfl (by decide +kernel) ⟨(Nat.le_of_ble_eq_true rfl), (Nat.le_of_ble_eq_true rfl)⟩) (m_preV (C := RX4) (T := TX4) (N := 2) hM hP hS rfl (by decide) hk4) rfl rfl hl.1 rfl (lv_room (Nat.le_of_ble_eq_true rfl)) dX6_needsRun_8 ⟨(Nat.le_of_ble_eq_true rfl), (Nat.le_of_ble_eq_true rfl)⟩) hS ⟨(Nat.le_of_ble_eq_true rfl), (Nat.le_of_ble_eq_true rfl)⟩ (fun H locs hP hS => ?_)
  refine lv_if_eq (tgt := 29) hx hb dX6_needsRun_11 (by decide) (fun c8 => ?_) (fun c8 => ?_)
  · have hd := m_i_t c8 hd
    refine W.widen (k := 0) (n := 0) (Nat.le_of_ble_eq_true rfl) (Nat.le_of_ble_eq_true rfl) ?_
    exact J29 w6 _ _ _ hd hP hS (lv_sub hl [] rfl)
  · have hd := m_i_f c8 hd
    refine lv_aload_n hx hb dX6_needsRun_14 rfl (lv_at hl 0 rfl) ?_
    refine lv_iconst (v := (-1)) hx hb dX6_needsRun_15 (by decide) ?_
    obtain ⟨hk9, hd⟩ := m_g_e hd
    obtain ⟨r10, w11, hc12, hd⟩ := m_b_e hd
    refine m_calli (k := 0) (n := 0) (va_runV (As := [.int ((-1))]) (rest := []) ⟨hx, hb, hml, hown, hts⟩ (c_X6_staleCells l G w6 w11 h ((-1)) r10 hc12) (cwV 1 hts gX6_needsRun_X6_staleCells rfl rfl rfl (by decide +kernel) ⟨(Nat.le_of_ble_eq_true rfl), (Nat.le_of_ble_eq_true rfl)⟩) (m_preV (C := RX6) (T := TX6) (N := 8) hM hP hS rfl (by decide) hk9) rfl rfl hl.1 rfl (lv_room (Nat.le_of_ble_eq_true rfl)) dX6_needsRun_16 ⟨(Nat.le_of_ble_eq_true rfl), (Nat.le_of_ble_eq_true rfl)⟩) hS ⟨(Nat.le_of_ble_eq_true rfl), (Nat.le_of_ble_eq_true rfl)⟩ (fun H locs hP hS => ?_)
    refine lv_iconst (v := 1) hx hb dX6_needsRun_19 (by decide) ?_
    refine lv_aload_n hx hb dX6_needsRun_20 rfl (lv_at hl 1 rfl) ?_
    obtain ⟨hk13, hd⟩ := m_g_e hd
    refine m_getI (C := RX1) (T := TX1) (N := 4) (own := RX6) (ref := RX1) hx hb hts hin4 hown hM.1 hP 4 rfl 0 hk13 (by decide) (hts (.fieldLink RX6 128 "CellNotebook$Cell" "number" "I") (by decide +kernel)) (fun _ h9 => h9) dX6_needsRun_21 ?_
    refine lv_ishl hx hb dX6_needsRun_24 ?_
    refine lv_iand hx hb dX6_needsRun_25 ?_
    refine lv_if_eq (tgt := 33) hx hb dX6_needsRun_26 (by decide) (fun c14 => ?_) (fun c14 => ?_)
    · have hd := m_i_t c14 hd
      refine lv_iconst (v := 0) hx hb dX6_needsRun_33 (by decide) ?_
      refine W.widen (k := 0) (n := 0) (Nat.le_of_ble_eq_true rfl) (Nat.le_of_ble_eq_true rfl) ?_
      exact J34 w11 0 _ _ _ hd hP hS (lv_sub hl [] rfl)
    · have hd := m_i_f c14 hd
      refine W.widen (k := 0) (n := 0) (Nat.le_of_ble_eq_true rfl) (Nat.le_of_ble_eq_true rfl) ?_
      exact J29 w11 _ _ _ hd hP hS (lv_sub hl [] rfl)


noncomputable def e_X6_refresh_31_b (t0 : Nat × Nat × Nat × Nat) (k31 : mW → Nat → Int32 → Int32 → Int32 → Option ((Int32 ⊕ String) × mW)) (w : mW) (x0 : Nat) (x1 : Int32) (x2 : Int32) (x3 : Int32) : Option ((Int32 ⊕ String) × mW) := m_g (m_kd w x0 = 10) <| m_o (m_fr w 9 1 x0) fun r115 => m_g (m_kd w r115 = 3) <| m_b (e_Jx4a65c_size_8abf5 w r115) fun r117 w118 => if r117 ≤ x3 then (some (.inl x2, w118)) else (m_g (m_kd w118 x0 = 10) <| m_o (m_fr w118 9 1 x0) fun r122 => m_g (m_kd w118 r122 = 3) <| m_b (e_Jx4a65c_get_915e3 w118 r122 x3) fun r124 w125 => m_g (m_kd w125 r124 = 5) <| m_b (e_X1_allows w125 r124 x1 2) fun r128 w129 => if r128 = (0 : Int32) then (k31 w129 x0 x1 x2 (x3 + 1)) else (m_g (m_kd w129 x0 = 10) <| m_b (e_X6_needsRun w129 x0 r124) fun r133 w134 => if r133 = (0 : Int32) then (k31 w134 x0 x1 x2 (x3 + 1)) else (m_g (m_kd w134 x0 = 10) <| m_b (e_X6_makeRun t0 w134 x0 x1 r124) fun r138 w139 => k31 w139 x0 x1 (x2 + 1) (x3 + 1))))
noncomputable def e_X6_refresh_31 (t0 : Nat × Nat × Nat × Nat) (n : Nat) : mW → Nat → Int32 → Int32 → Int32 → Option ((Int32 ⊕ String) × mW) := Nat.rec (motive := fun _ => mW → Nat → Int32 → Int32 → Int32 → Option ((Int32 ⊕ String) × mW)) (fun _ _ _ _ _ => none) (fun _ k => e_X6_refresh_31_b t0  k) n
noncomputable def e_X6_refresh (t0 : Nat × Nat × Nat × Nat) (w : mW) (h : Nat) (p0 : Int32) : Option ((Int32 ⊕ String) × mW) := m_t (e_X6_requireUser w p0) fun r4 w2 => m_g (m_kd w2 h = 10) <| m_o (m_fr w2 9 2 h) fun r8 => m_g (m_kd w2 r8 = 3) <| m_b (e_Jx4a65c_size_8abf5 w2 r8) fun r10 w11 => if r10 ≤ 380 then (e_X6_refresh_31 t0 m_N w11 h p0 0 0) else (some (.inr "java/lang/IllegalStateException", w11))
theorem m_refmono (t0 : Nat × Nat × Nat × Nat) : ∀ (n : Nat) (w : mW) (x0 : Nat) (x1 x2 x3 : Int32) (o : Int32 ⊕ String) (w' : mW), e_X6_refresh_31 t0 n w x0 x1 x2 x3 = some (o, w') → 0 ≤ x2.toInt → x2.toInt + (n : Int) ≤ 200000 → ∃ r, o = .inl r ∧ x2.toInt ≤ r.toInt := by
  intro n
  induction n with
  | zero => intro w x0 x1 x2 x3 o w' hd; exact absurd (show (none : Option ((Int32 ⊕ String) × mW)) = some _ from hd) (fun h => nomatch h)
  | succ n ih =>
    intro w x0 x1 x2 x3 o w' hd h0 h1
    have hd : e_X6_refresh_31_b t0 (e_X6_refresh_31 t0 n) w x0 x1 x2 x3 = some (o, w') := hd
    obtain ⟨_, hd⟩ := m_g_e hd
    obtain ⟨_, _, hd⟩ := m_o_e hd
    obtain ⟨_, hd⟩ := m_g_e hd
    obtain ⟨r1, w1, _, hd⟩ := m_b_e hd
    by_cases c1 : r1 ≤ x3
    · have hd := m_i_t c1 hd
      obtain ⟨e1, e2⟩ := m_s_e hd
      exact ⟨x2, e1.symm, Int.le_refl _⟩
    · have hd := m_i_f c1 hd
      obtain ⟨_, hd⟩ := m_g_e hd
      obtain ⟨_, _, hd⟩ := m_o_e hd
      obtain ⟨_, hd⟩ := m_g_e hd
      obtain ⟨r2, w2, _, hd⟩ := m_b_e hd
      obtain ⟨_, hd⟩ := m_g_e hd
      obtain ⟨r3, w3, _, hd⟩ := m_b_e hd
      by_cases c2 : r3 = 0
      · have hd := m_i_t c2 hd
        exact ih _ _ _ _ _ _ _ hd h0 (by omega)
      · have hd := m_i_f c2 hd
        obtain ⟨_, hd⟩ := m_g_e hd
        obtain ⟨r4, w4, _, hd⟩ := m_b_e hd
        by_cases c3 : r4 = 0
        · have hd := m_i_t c3 hd
          exact ih _ _ _ _ _ _ _ hd h0 (by omega)
        · have hd := m_i_f c3 hd
          obtain ⟨_, hd⟩ := m_g_e hd
          obtain ⟨r5, w5, _, hd⟩ := m_b_e hd
          have hx1 : (x2 + 1).toInt = x2.toInt + 1 := m_inc h0 (by omega)
          obtain ⟨r, q1, q2⟩ := ih _ _ _ _ _ _ _ hd (by omega) (by omega)
          exact ⟨r, q1, by omega⟩
set_option maxHeartbeats 1000000 in
set_option maxRecDepth 100000 in
theorem c_X6_refresh (l : Launch) (hst : l.stackTraces = false) (G : m_G) (w w' : mW) (h : Nat) (p0 : Int32) (o : Int32 ⊕ String) (K : Nat) (hK : ∀ r, o = .inl r → r.toInt ≤ K) (hd : e_X6_refresh G.2.2.2 w h p0 = some (o, w')) : vx_Met l yX6_refresh wsX6_refresh ({ frames := 9, cells := (2 + 4 * K), slots := (12 + 1215 * K), locals := 235 } : Room) (m_Pc G w [.ref (h), .int (p0)]) (m_Xi G o w') (m_XC G o w') (2 + 4 * K) (12 + 1215 * K) (fun q => G.1 ≤ q) := by
  refine vx_ofW (cc := cX6_refresh) (maxL := 5) (ret := (some .int)) (by decide +kernel) rfl ?_
  intro p e s m args below meth c s₁ B hml hout hv
  obtain ⟨rfl, hM, hP⟩ := hv
  have hx := B.exec
  have hb := B.bytes
  have hr := B.returns
  have hts := atoms_spec (ws := wsX6_refresh) B.pre
  have hown : s.vm.findClass RX6 = some m.cls := findClass_of_methodNamed B.named
  have hlocks := B.notSynchronized
  have hin9 : ∀ w ∈ u_ws RX6 TX6 8, w ∈ wsX6_refresh := by decide +kernel
  have hS : va_S (fun q => G.1 ≤ q) s.heap s.heap [] := va_S.rf
  have J31 : ∀ (n31 : Nat) (cb sb : Nat) (w : mW) (x0 : Nat) (x1 : Int32) (x2 : Int32) (x3 : Int32), (0 ≤ x2.toInt ∧ x2.toInt + (n31 : Int) ≤ 100000) → (cb + 4 * (K - x2.toInt.toNat) ≤ 2 + 4 * K) → (sb + 1215 * (K - x2.toInt.toNat) ≤ 12 + 1215 * K) → ∀ (H : Heap) (locs : List Loc) (ls : Array Slot), e_X6_refresh_31 G.2.2.2 n31 w x0 x1 x2 x3 = some (o, w') → mP G w H → va_S (fun q => G.1 ≤ q) s.heap H locs → lv_has ls 5 [(0, .ref (x0)), (1, .int (x1)), (2, .int (x2)), (3, .int (x3))] → W p l e ({ frames := 9, cells := (2 + 4 * K), slots := (12 + 1215 * K), locals := 235 } : Room) s m ([.ref (h), .int (p0)] : List Value).toArray below meth c H locs cb sb (vx_MQ below (m_Xi G o w') (m_XC G o w') ([.ref (h), .int (p0)] : List Value).toArray s (2 + 4 * K) (12 + 1215 * K) (fun q => G.1 ≤ q)) (F0 m 31 ls []) := by
    intro n31
    induction n31 with
    | zero => intro cb sb w x0 x1 x2 x3 hx2 hcb hsb H locs ls hd; exact absurd (show (none : Option ((Int32 ⊕ String) × mW)) = some _ from hd) (fun h => nomatch h)
    | succ n31 ih31 =>
      intro cb sb w x0 x1 x2 x3 hx2 hcb hsb H locs ls hd hP hS hl
      have hd : e_X6_refresh_31_b G.2.2.2 (e_X6_refresh_31 G.2.2.2 n31) w x0 x1 x2 x3 = some (o, w') := hd
      refine lv_iload_n hx hb dX6_refresh_31 rfl (lv_at hl 3 rfl) ?_
      refine lv_aload_n hx hb dX6_refresh_32 rfl (lv_at hl 0 rfl) ?_
      obtain ⟨hk114, hd⟩ := m_g_e hd
      obtain ⟨r115, hr115, hd⟩ := m_o_e hd
      refine m_getR (C := RX6) (T := TX6) (N := 8) (own := RX6) (ref := RX6) hx hb hts hin9 hown hM.1 hP 9 rfl 1 (r := r115) ⟨hk114, hr115⟩ (by decide) (hts (.fieldLink RX6 16 "CellNotebook" "order" "Ljava/util/ArrayList;") (by decide +kernel)) (fun _ h9 => h9) dX6_refresh_33 ?_
      obtain ⟨hk116, hd⟩ := m_g_e hd
      obtain ⟨r117, w118, hc119, hd⟩ := m_b_e hd
      refine m_calli (k := cb + 0) (n := sb + 0) (va_runV (As := []) (rest := [.int (x3)]) ⟨hx, hb, hml, hown, hts⟩ (c_Jx4a65c_size_8abf5 l G w w118 r115 r117 hc119) (cwV 0 hts gX6_refresh_Jx4a65c_size_8abf5 rfl rfl rfl (by decide +kernel) ⟨(Nat.le_of_ble_eq_true rfl), (Nat.le_of_ble_eq_true rfl)⟩) (m_preV (C := RJx4a65c) (T := TJx4a65c) (N := 3) hM hP hS rfl (by decide) hk116) rfl rfl hl.1 rfl (lv_room (Nat.le_of_ble_eq_true rfl)) dX6_refresh_36 ⟨(by show cb + 0 ≤ (2 + 4 * K); omega), (by show sb + 0 ≤ (12 + 1215 * K); omega)⟩) hS ⟨(Nat.le_refl _), (Nat.le_refl _)⟩ (fun H locs hP hS => ?_)
      refine lv_icmp_ge (tgt := 91) hx hb dX6_refresh_39 (by decide) (fun c120 => ?_) (fun c120 => ?_)
      · have hd := m_i_t c120 hd
        refine lv_iload_n hx hb dX6_refresh_91 rfl (lv_at hl 2 rfl) ?_
        obtain ⟨e1, e2⟩ := m_s_e hd
        refine vx_ret ?_
        refine W.widen (k := (2 + 4 * K)) (n := (12 + 1215 * K)) (by omega) (by omega) ?_
        exact W.iret hx hb hr (fun t ht hW => ⟨⟨_, w118, rfl, ⟨e1, e2⟩, by show mP _ _ t.heap; rw [ht]; exact hP⟩, hS.F ht⟩) hS.2.2 dX6_refresh_92
      · have hd := m_i_f c120 hd
        refine lv_aload_n hx hb dX6_refresh_42 rfl (lv_at hl 0 rfl) ?_
        obtain ⟨hk121, hd⟩ := m_g_e hd
        obtain ⟨r122, hr122, hd⟩ := m_o_e hd
        refine m_getR (C := RX6) (T := TX6) (N := 8) (own := RX6) (ref := RX6) hx hb hts hin9 hown hM.1 hP 9 rfl 1 (r := r122) ⟨hk121, hr122⟩ (by decide) (hts (.fieldLink RX6 16 "CellNotebook" "order" "Ljava/util/ArrayList;") (by decide +kernel)) (fun _ h9 => h9) dX6_refresh_43 ?_
        refine lv_iload_n hx hb dX6_refresh_46 rfl (lv_at hl 3 rfl) ?_
        obtain ⟨hk123, hd⟩ := m_g_e hd
        obtain ⟨r124, w125, hc126, hd⟩ := m_b_e hd
        refine m_callr (k := cb + 0) (n := sb + 0) (va_runV (As := [.int (x3)]) (rest := []) ⟨hx, hb, hml, hown, hts⟩ (c_Jx4a65c_get_915e3 l G w118 w125 r122 x3 r124 hc126) (cwV 1 hts gX6_refresh_Jx4a65c_get_915e3 rfl rfl rfl (by decide +kernel) ⟨(Nat.le_of_ble_eq_true rfl), (Nat.le_of_ble_eq_true rfl)⟩) (m_preV (C := RJx4a65c) (T := TJx4a65c) (N := 3) hM hP hS rfl (by decide) hk123) rfl rfl hl.1 rfl (lv_room (Nat.le_of_ble_eq_true rfl)) dX6_refresh_47 ⟨(by show cb + 0 ≤ (2 + 4 * K); omega), (by show sb + 0 ≤ (12 + 1215 * K); omega)⟩) hS ⟨(Nat.le_refl _), (Nat.le_refl _)⟩ (fun H locs hP hS => ?_)
        obtain ⟨hk127, hd⟩ := m_g_e hd
        refine va_castS (own := RX6) (nm := RX1) hx hb hown (hts (.classLink RX6 60 RX1) (by decide +kernel)) (hM.1.1 4 _ rfl).2 (m_recv hM.1 hP hk127 (by decide) rfl) dX6_refresh_50 ?_
        refine lv_astore (lv' := [(4, .ref (r124)), (0, .ref (x0)), (1, .int (x1)), (2, .int (x2)), (3, .int (x3))]) hx hb dX6_refresh_53 hl (by decide) rfl (fun ls hl => ?_)
        refine lv_aload hx hb dX6_refresh_55 (lv_at hl 0 rfl) ?_
        refine lv_iload_n hx hb dX6_refresh_57 rfl (lv_at hl 2 rfl) ?_
        refine lv_iconst (v := 2) hx hb dX6_refresh_58 (by decide) ?_
        obtain ⟨r128, w129, hc130, hd⟩ := m_b_e hd
        refine m_calli (k := cb + 0) (n := sb + 0) (va_runV (As := [.int (x1), .int (2)]) (rest := []) ⟨hx, hb, hml, hown, hts⟩ (c_X1_allows l G w125 w129 r124 x1 2 r128 hc130) (cwV 2 hts gX6_refresh_X1_allows rfl rfl rfl (by decide +kernel) ⟨(Nat.le_of_ble_eq_true rfl), (Nat.le_of_ble_eq_true rfl)⟩) (m_preV (C := RX1) (T := TX1) (N := 4) hM hP hS rfl (by decide) hk127) rfl rfl hl.1 rfl (lv_room (Nat.le_of_ble_eq_true rfl)) dX6_refresh_59 ⟨(by show cb + 0 ≤ (2 + 4 * K); omega), (by show sb + 0 ≤ (12 + 1215 * K); omega)⟩) hS ⟨(Nat.le_refl _), (Nat.le_refl _)⟩ (fun H locs hP hS => ?_)
        refine lv_if_eq (tgt := 85) hx hb dX6_refresh_62 (by decide) (fun c131 => ?_) (fun c131 => ?_)
        · have hd := m_i_t c131 hd
          refine lv_iinc (v := x3 + 1) (lv' := [(3, .int (x3 + 1)), (4, .ref (r124)), (0, .ref (x0)), (1, .int (x1)), (2, .int (x2))]) hx hb dX6_refresh_85 hl (k := 4) rfl rfl (by decide) rfl (fun ls hl => ?_)
          refine lv_goto (tgt := 31) hx hb dX6_refresh_88 (by decide) ?_
          exact ih31 (cb + 0) (sb + 0) w129 x0 x1 x2 (x3 + 1) (by omega) (by omega) (by omega) _ _ _ hd hP hS (lv_sub hl [2, 3, 4, 0] rfl)
        · have hd := m_i_f c131 hd
          refine lv_aload_n hx hb dX6_refresh_65 rfl (lv_at hl 1 rfl) ?_
          refine lv_aload hx hb dX6_refresh_66 (lv_at hl 0 rfl) ?_
          obtain ⟨hk132, hd⟩ := m_g_e hd
          obtain ⟨r133, w134, hc135, hd⟩ := m_b_e hd
          refine m_calli (k := cb + 0) (n := sb + 0) (va_runV (As := [.ref (r124)]) (rest := []) ⟨hx, hb, hml, hown, hts⟩ (c_X6_needsRun l G w129 w134 x0 r124 r133 hc135) (cwV 1 hts gX6_refresh_X6_needsRun rfl rfl rfl (by decide +kernel) ⟨(Nat.le_of_ble_eq_true rfl), (Nat.le_of_ble_eq_true rfl)⟩) (m_preV (C := RX6) (T := TX6) (N := 8) hM hP hS rfl (by decide) hk132) rfl rfl hl.1 rfl (lv_room (Nat.le_of_ble_eq_true rfl)) dX6_refresh_68 ⟨(by show cb + 0 ≤ (2 + 4 * K); omega), (by show sb + 0 ≤ (12 + 1215 * K); omega)⟩) hS ⟨(Nat.le_refl _), (Nat.le_refl _)⟩ (fun H locs hP hS => ?_)
          refine lv_if_eq (tgt := 85) hx hb dX6_refresh_71 (by decide) (fun c136 => ?_) (fun c136 => ?_)
          · have hd := m_i_t c136 hd
            refine lv_iinc (v := x3 + 1) (lv' := [(3, .int (x3 + 1)), (4, .ref (r124)), (0, .ref (x0)), (1, .int (x1)), (2, .int (x2))]) hx hb dX6_refresh_85 hl (k := 4) rfl rfl (by decide) rfl (fun ls hl => ?_)
            refine lv_goto (tgt := 31) hx hb dX6_refresh_88 (by decide) ?_
            exact ih31 (cb + 0) (sb + 0) w134 x0 x1 x2 (x3 + 1) (by omega) (by omega) (by omega) _ _ _ hd hP hS (lv_sub hl [2, 3, 4, 0] rfl)
          · have hd := m_i_f c136 hd
            refine lv_aload_n hx hb dX6_refresh_74 rfl (lv_at hl 1 rfl) ?_
            refine lv_iload_n hx hb dX6_refresh_75 rfl (lv_at hl 2 rfl) ?_
            refine lv_aload hx hb dX6_refresh_76 (lv_at hl 0 rfl) ?_
            obtain ⟨hk137, hd⟩ := m_g_e hd
            obtain ⟨r138, w139, hc140, hd⟩ := m_b_e hd
            have hx1 : (x2 + 1).toInt = x2.toInt + 1 := m_inc hx2.1 (by omega)
            have hxK : x2.toInt + 1 ≤ (K : Int) := by
              obtain ⟨rr, q1, q2⟩ := m_refmono _ _ _ _ _ _ _ _ _ hd (by omega) (by omega)
              have q3 := hK rr q1
              omega
            refine m_calli (k := cb + 4) (n := sb + 1215) (va_runV (As := [.int (x1), .ref (r124)]) (rest := []) ⟨hx, hb, hml, hown, hts⟩ (c_X6_makeRun l G w134 w139 x0 x1 r124 r138 hc140) (cwV 2 hts gX6_refresh_X6_makeRun rfl rfl rfl (by decide +kernel) ⟨(Nat.le_of_ble_eq_true rfl), (Nat.le_of_ble_eq_true rfl)⟩) (m_preV (C := RX6) (T := TX6) (N := 8) hM hP hS rfl (by decide) hk137) rfl rfl hl.1 rfl (lv_room (Nat.le_of_ble_eq_true rfl)) dX6_refresh_78 ⟨(by show cb + 4 ≤ (2 + 4 * K); omega), (by show sb + 1215 ≤ (12 + 1215 * K); omega)⟩) hS ⟨(Nat.le_refl _), (Nat.le_refl _)⟩ (fun H locs hP hS => ?_)
            refine lv_pop hx hb dX6_refresh_81 rfl ?_
            refine lv_iinc (v := x2 + 1) (lv' := [(2, .int (x2 + 1)), (4, .ref (r124)), (0, .ref (x0)), (1, .int (x1)), (3, .int (x3))]) hx hb dX6_refresh_82 hl (k := 3) rfl rfl (by decide) rfl (fun ls hl => ?_)
            refine lv_iinc (v := x3 + 1) (lv' := [(3, .int (x3 + 1)), (2, .int (x2 + 1)), (4, .ref (r124)), (0, .ref (x0)), (1, .int (x1))]) hx hb dX6_refresh_85 hl (k := 4) rfl rfl (by decide) rfl (fun ls hl => ?_)
            refine lv_goto (tgt := 31) hx hb dX6_refresh_88 (by decide) ?_
            exact ih31 (cb + 4) (sb + 1215) w139 x0 x1 (x2 + 1) (x3 + 1) (by omega) (by omega) (by omega) _ _ _ hd hP hS (lv_sub hl [3, 4, 1, 0] rfl)
  have hl := lv_entry ([.ref (h), .int (p0)]) (n := 5) (Nat.le_of_ble_eq_true rfl)
  rw [lg_entry_eq]
  generalize (lg_sl ([.ref (h), .int (p0)]) ++ List.replicate (5 - (lg_sl ([.ref (h), .int (p0)])).length) Slot.unset).toArray = ls at hl ⊢
  have hl : lv_has ls 5 [(0, .ref (h)), (1, .int (p0))] := hl
  refine lv_iload_n hx hb dX6_refresh_0 rfl (lv_at hl 1 rfl) ?_
  obtain ⟨o1, w2, hc3, hx5, hd⟩ := m_t_e hd
  refine m_callxv (k := 1) (n := 6) (vx_runS (As := [.int (p0)]) (rest := []) ⟨hx, hb, hml, hown, hts⟩ (c_X6_requireUser l hst G w w2 p0 o1 hc3) (va_cwS 1 hts gX6_refresh_X6_requireUser rfl rfl rfl (by decide +kernel) ⟨(Nat.le_of_ble_eq_true rfl), (Nat.le_of_ble_eq_true rfl)⟩) (m_preS hM hP hS) rfl rfl hl.1 rfl (lv_room (Nat.le_of_ble_eq_true rfl)) dX6_refresh_1 ⟨(by show 1 ≤ (2 + 4 * K); omega), (by show 6 ≤ (12 + 1215 * K); omega)⟩) hS ⟨⟨(Nat.le_of_ble_eq_true rfl), (Nat.le_of_ble_eq_true rfl)⟩, (by omega), (by omega)⟩ hout hlocks hx5 (fun r4 ho6 H locs hP hS => ?_)
  have hd := hd r4 ho6
  refine lv_aload_n hx hb dX6_refresh_4 rfl (lv_at hl 0 rfl) ?_
  obtain ⟨hk7, hd⟩ := m_g_e hd
  obtain ⟨r8, hr8, hd⟩ := m_o_e hd
  refine m_getR (C := RX6) (T := TX6) (N := 8) (own := RX6) (ref := RX6) hx hb hts hin9 hown hM.1 hP 9 rfl 2 (r := r8) ⟨hk7, hr8⟩ (by decide) (hts (.fieldLink RX6 19 "CellNotebook" "allRuns" "Ljava/util/ArrayList;") (by decide +kernel)) (fun _ h9 => h9) dX6_refresh_5 ?_
  obtain ⟨hk9, hd⟩ := m_g_e hd
  obtain ⟨r10, w11, hc12, hd⟩ := m_b_e hd
  refine m_calli (k := 1) (n := 6) (va_runV (As := []) (rest := []) ⟨hx, hb, hml, hown, hts⟩ (c_Jx4a65c_size_8abf5 l G w2 w11 r8 r10 hc12) (cwV 0 hts gX6_refresh_Jx4a65c_size_8abf5 rfl rfl rfl (by decide +kernel) ⟨(Nat.le_of_ble_eq_true rfl), (Nat.le_of_ble_eq_true rfl)⟩) (m_preV (C := RJx4a65c) (T := TJx4a65c) (N := 3) hM hP hS rfl (by decide) hk9) rfl rfl hl.1 rfl (lv_room (Nat.le_of_ble_eq_true rfl)) dX6_refresh_8 ⟨(by show 1 ≤ (2 + 4 * K); omega), (by show 6 ≤ (12 + 1215 * K); omega)⟩) hS ⟨(Nat.le_of_ble_eq_true rfl), (Nat.le_of_ble_eq_true rfl)⟩ (fun H locs hP hS => ?_)
  refine lv_sipush (v := 380) hx hb dX6_refresh_11 (by decide) ?_
  refine lv_icmp_le (tgt := 27) hx hb dX6_refresh_14 (by decide) (fun c13 => ?_) (fun c13 => ?_)
  · have hd := m_i_t c13 hd
    refine lv_iconst (v := 0) hx hb dX6_refresh_27 (by decide) ?_
    refine lv_istore_n (lv' := [(2, .int (0)), (0, .ref (h)), (1, .int (p0))]) hx hb dX6_refresh_28 rfl hl (by decide) rfl (fun ls hl => ?_)
    refine lv_iconst (v := 0) hx hb dX6_refresh_29 (by decide) ?_
    refine lv_istore_n (lv' := [(3, .int (0)), (2, .int (0)), (0, .ref (h)), (1, .int (p0))]) hx hb dX6_refresh_30 rfl hl (by decide) rfl (fun ls hl => ?_)
    exact J31 m_N 1 6 w11 h p0 0 0 (by decide) (Nat.add_le_add (by decide) (Nat.mul_le_mul_left _ (Nat.sub_le _ _))) (Nat.add_le_add (by decide) (Nat.mul_le_mul_left _ (Nat.sub_le _ _))) _ _ _ hd hP hS (lv_sub hl [2, 3, 1, 0] rfl)
  · have hd := m_i_f c13 hd
    obtain ⟨e1, e2⟩ := m_s_e hd
    exact m_throwS (own := RX6) (E := "java/lang/IllegalStateException") (ik := 53) (is := 167) (ic := 57) (text := "there were more than 380 runs") (w := w11) hx hb hst hown (hts (.classLink RX6 53 "java/lang/IllegalStateException") (by decide +kernel)) (hts (.initialized "java/lang/IllegalStateException") (by decide +kernel)) (m_hat (E := "java/lang/IllegalStateException") (fun w h => hts w ((by decide +kernel : ∀ w ∈ (vx_atS RX6 57 "java/lang/IllegalStateException" ["java/lang/RuntimeException", "java/lang/Exception"]).filter goodWord, w ∈ wsX6_refresh) w h)) (by decide +kernel) hM.2.1.2.1 (by decide)) (by decide +kernel) (by decide +kernel) (by decide) (by decide +kernel) ⟨rfl, by decide⟩ hM hP hS (hl.1.trans hml.symm) dX6_refresh_17 dX6_refresh_20 dX6_refresh_21 dX6_refresh_23 dX6_refresh_26 hout (Nat.le_of_ble_eq_true rfl) (Nat.le_of_ble_eq_true rfl) (by show 2 ≤ (2 + 4 * K); omega) (by show 12 ≤ (12 + 1215 * K); omega) hlocks e1 e2 (by show 2 ≤ (2 + 4 * K); omega) (by show 12 ≤ (12 + 1215 * K); omega)


noncomputable def e_X6_isSet (w : mW) (h : Nat) (p0 : Int32) : Option ((Int32 ⊕ String) × mW) := m_t (e_X6_requireName w p0) fun r4 w2 => m_g (m_kd w2 h = 10) <| m_o (m_fr w2 9 5 h) fun r8 => m_g (m_kd w2 r8 = 8) <| m_o (m_fr w2 7 0 r8) fun r10 => m_g (m_kd w2 r10 = 6) <| m_b (e_X2_hold w2 r10 p0) fun r12 w13 => m_g (vp_nar .boolean r12 = r12) <| some (.inl r12, w13)
set_option maxHeartbeats 1000000 in
set_option maxRecDepth 100000 in
theorem c_X6_isSet (l : Launch) (hst : l.stackTraces = false) (G : m_G) (w w' : mW) (h : Nat) (p0 : Int32) (o : Int32 ⊕ String) (hd : e_X6_isSet w h p0 = some (o, w')) : vx_Met l yX6_isSet wsX6_isSet ({ frames := 9, cells := 1, slots := 6, locals := 160 } : Room) (m_Pc G w [.ref (h), .int (p0)]) (m_Xi G o w') (m_XC G o w') 1 6 (fun q => G.1 ≤ q) := by
  refine vx_ofW (cc := cX6_isSet) (maxL := 2) (ret := (some .boolean)) (by decide +kernel) rfl ?_
  intro p e s m args below meth c s₁ B hml hout hv
  obtain ⟨rfl, hM, hP⟩ := hv
  have hx := B.exec
  have hb := B.bytes
  have hr := B.returns
  have hts := atoms_spec (ws := wsX6_isSet) B.pre
  have hown : s.vm.findClass RX6 = some m.cls := findClass_of_methodNamed B.named
  have hlocks := B.notSynchronized
  have hin7 : ∀ w ∈ u_ws RX4 TX4 2, w ∈ wsX6_isSet := by decide +kernel
  have hin9 : ∀ w ∈ u_ws RX6 TX6 8, w ∈ wsX6_isSet := by decide +kernel
  have hS : va_S (fun q => G.1 ≤ q) s.heap s.heap [] := va_S.rf
  have hl := lv_entry ([.ref (h), .int (p0)]) (n := 2) (Nat.le_of_ble_eq_true rfl)
  rw [lg_entry_eq]
  generalize (lg_sl ([.ref (h), .int (p0)]) ++ List.replicate (2 - (lg_sl ([.ref (h), .int (p0)])).length) Slot.unset).toArray = ls at hl ⊢
  have hl : lv_has ls 2 [(0, .ref (h)), (1, .int (p0))] := hl
  refine lv_iload_n hx hb dX6_isSet_0 rfl (lv_at hl 1 rfl) ?_
  obtain ⟨o1, w2, hc3, hx5, hd⟩ := m_t_e hd
  refine m_callxv (k := 1) (n := 6) (vx_runS (As := [.int (p0)]) (rest := []) ⟨hx, hb, hml, hown, hts⟩ (c_X6_requireName l hst G w w2 p0 o1 hc3) (va_cwS 1 hts gX6_isSet_X6_requireName rfl rfl rfl (by decide +kernel) ⟨(Nat.le_of_ble_eq_true rfl), (Nat.le_of_ble_eq_true rfl)⟩) (m_preS hM hP hS) rfl rfl hl.1 rfl (lv_room (Nat.le_of_ble_eq_true rfl)) dX6_isSet_1 ⟨(Nat.le_of_ble_eq_true rfl), (Nat.le_of_ble_eq_true rfl)⟩) hS ⟨⟨(Nat.le_of_ble_eq_true rfl), (Nat.le_of_ble_eq_true rfl)⟩, (Nat.le_of_ble_eq_true rfl), (Nat.le_of_ble_eq_true rfl)⟩ hout hlocks hx5 (fun r4 ho6 H locs hP hS => ?_)
  have hd := hd r4 ho6
  refine lv_aload_n hx hb dX6_isSet_4 rfl (lv_at hl 0 rfl) ?_
  obtain ⟨hk7, hd⟩ := m_g_e hd
  obtain ⟨r8, hr8, hd⟩ := m_o_e hd
  refine m_getR (C := RX6) (T := TX6) (N := 8) (own := RX6) (ref := RX6) hx hb hts hin9 hown hM.1 hP 9 rfl 5 (r := r8) ⟨hk7, hr8⟩ (by decide) (hts (.fieldLink RX6 31 "CellNotebook" "now" "LCellNotebook$Session;") (by decide +kernel)) (fun _ h9 => h9) dX6_isSet_5 ?_
  obtain ⟨hk9, hd⟩ := m_g_e hd
  obtain ⟨r10, hr10, hd⟩ := m_o_e hd
  refine m_getR (C := RX4) (T := TX4) (N := 2) (own := RX6) (ref := RX4) hx hb hts hin7 hown hM.1 hP 7 rfl 0 (r := r10) ⟨hk9, hr10⟩ (by decide) (hts (.fieldLink RX6 177 "CellNotebook$Session" "names" "LCellNotebook$Names;") (by decide +kernel)) (fun _ h9 => h9) dX6_isSet_8 ?_
  refine lv_iload_n hx hb dX6_isSet_11 rfl (lv_at hl 1 rfl) ?_
  obtain ⟨hk11, hd⟩ := m_g_e hd
  obtain ⟨r12, w13, hc14, hd⟩ := m_b_e hd
  refine m_calli (k := 1) (n := 6) (va_runV (As := [.int (p0)]) (rest := []) ⟨hx, hb, hml, hown, hts⟩ (c_X2_hold l G w2 w13 r10 p0 r12 hc14) (cwV 1 hts gX6_isSet_X2_hold rfl rfl rfl (by decide +kernel) ⟨(Nat.le_of_ble_eq_true rfl), (Nat.le_of_ble_eq_true rfl)⟩) (m_preV (C := RX2) (T := TX2) (N := 2) hM hP hS rfl (by decide) hk11) rfl rfl hl.1 rfl (lv_room (Nat.le_of_ble_eq_true rfl)) dX6_isSet_12 ⟨(Nat.le_of_ble_eq_true rfl), (Nat.le_of_ble_eq_true rfl)⟩) hS ⟨(Nat.le_of_ble_eq_true rfl), (Nat.le_of_ble_eq_true rfl)⟩ (fun H locs hP hS => ?_)
  obtain ⟨hn15, hd⟩ := m_g_e hd
  obtain ⟨e1, e2⟩ := m_s_e hd
  refine vx_ret ?_
  refine W.widen (k := 1) (n := 6) (Nat.le_of_ble_eq_true rfl) (Nat.le_of_ble_eq_true rfl) ?_
  exact W.zret hx hb hr (m_narZ hn15).1 (fun t ht hW => ⟨⟨_, w13, rfl, ⟨e1, e2⟩, by show mP _ _ t.heap; rw [ht]; exact hP⟩, hS.F ht⟩) hS.2.2 dX6_isSet_15


noncomputable def e_X6_requireValue (w : mW) (p0 : Nat) (p1 : Int32) : Option ((Int32 ⊕ String) × mW) := m_g (m_kd w p0 = 6) <| m_b (e_X2_hold w p0 p1) fun r2 w3 => if r2 = (0 : Int32) then (some (.inr "java/lang/IllegalStateException", w3)) else (m_g (m_kd w3 p0 = 6) <| m_b (e_X2_valueOf w3 p0 p1) fun r7 w8 => some (.inl r7, w8))
set_option maxHeartbeats 1000000 in
set_option maxRecDepth 100000 in
theorem c_X6_requireValue (l : Launch) (hst : l.stackTraces = false) (G : m_G) (w w' : mW) (p0 : Nat) (p1 : Int32) (o : Int32 ⊕ String) (hd : e_X6_requireValue w p0 p1 = some (o, w')) : vx_Met l yX6_requireValue wsX6_requireValue ({ frames := 8, cells := 1, slots := 6, locals := 140 } : Room) (m_Pc G w [.ref (p0), .int (p1)]) (m_Xi G o w') (m_XC G o w') 1 6 (fun q => G.1 ≤ q) := by
  refine vx_ofW (cc := cX6_requireValue) (maxL := 2) (ret := (some .int)) (by decide +kernel) rfl ?_
  intro p e s m args below meth c s₁ B hml hout hv
  obtain ⟨rfl, hM, hP⟩ := hv
  have hx := B.exec
  have hb := B.bytes
  have hr := B.returns
  have hts := atoms_spec (ws := wsX6_requireValue) B.pre
  have hown : s.vm.findClass RX6 = some m.cls := findClass_of_methodNamed B.named
  have hlocks := B.notSynchronized
  have hS : va_S (fun q => G.1 ≤ q) s.heap s.heap [] := va_S.rf
  have hl := lv_entry ([.ref (p0), .int (p1)]) (n := 2) (Nat.le_of_ble_eq_true rfl)
  rw [lg_entry_eq]
  generalize (lg_sl ([.ref (p0), .int (p1)]) ++ List.replicate (2 - (lg_sl ([.ref (p0), .int (p1)])).length) Slot.unset).toArray = ls at hl ⊢
  have hl : lv_has ls 2 [(0, .ref (p0)), (1, .int (p1))] := hl
  refine lv_aload_n hx hb dX6_requireValue_0 rfl (lv_at hl 0 rfl) ?_
  refine lv_iload_n hx hb dX6_requireValue_1 rfl (lv_at hl 1 rfl) ?_
  obtain ⟨hk1, hd⟩ := m_g_e hd
  obtain ⟨r2, w3, hc4, hd⟩ := m_b_e hd
  refine m_calli (k := 0) (n := 0) (va_runV (As := [.int (p1)]) (rest := []) ⟨hx, hb, hml, hown, hts⟩ (c_X2_hold l G w w3 p0 p1 r2 hc4) (cwV 1 hts gX6_requireValue_X2_hold rfl rfl rfl (by decide +kernel) ⟨(Nat.le_of_ble_eq_true rfl), (Nat.le_of_ble_eq_true rfl)⟩) (m_preV (C := RX2) (T := TX2) (N := 2) hM hP hS rfl (by decide) hk1) rfl rfl hl.1 rfl (lv_room (Nat.le_of_ble_eq_true rfl)) dX6_requireValue_2 ⟨(Nat.le_of_ble_eq_true rfl), (Nat.le_of_ble_eq_true rfl)⟩) hS ⟨(Nat.le_of_ble_eq_true rfl), (Nat.le_of_ble_eq_true rfl)⟩ (fun H locs hP hS => ?_)
  refine lv_if_ne (tgt := 19) hx hb dX6_requireValue_5 (by decide) (fun c5 => ?_) (fun c5 => ?_)
  · have hd := m_i_f c5 hd
    refine lv_aload_n hx hb dX6_requireValue_19 rfl (lv_at hl 0 rfl) ?_
    refine lv_iload_n hx hb dX6_requireValue_20 rfl (lv_at hl 1 rfl) ?_
    obtain ⟨hk6, hd⟩ := m_g_e hd
    obtain ⟨r7, w8, hc9, hd⟩ := m_b_e hd
    refine m_calli (k := 0) (n := 0) (va_runV (As := [.int (p1)]) (rest := []) ⟨hx, hb, hml, hown, hts⟩ (c_X2_valueOf l G w3 w8 p0 p1 r7 hc9) (cwV 1 hts gX6_requireValue_X2_valueOf rfl rfl rfl (by decide +kernel) ⟨(Nat.le_of_ble_eq_true rfl), (Nat.le_of_ble_eq_true rfl)⟩) (m_preV (C := RX2) (T := TX2) (N := 2) hM hP hS rfl (by decide) hk6) rfl rfl hl.1 rfl (lv_room (Nat.le_of_ble_eq_true rfl)) dX6_requireValue_21 ⟨(Nat.le_of_ble_eq_true rfl), (Nat.le_of_ble_eq_true rfl)⟩) hS ⟨(Nat.le_of_ble_eq_true rfl), (Nat.le_of_ble_eq_true rfl)⟩ (fun H locs hP hS => ?_)
    obtain ⟨e1, e2⟩ := m_s_e hd
    refine vx_ret ?_
    refine W.widen (k := 1) (n := 6) (Nat.le_of_ble_eq_true rfl) (Nat.le_of_ble_eq_true rfl) ?_
    exact W.iret hx hb hr (fun t ht hW => ⟨⟨_, w8, rfl, ⟨e1, e2⟩, by show mP _ _ t.heap; rw [ht]; exact hP⟩, hS.F ht⟩) hS.2.2 dX6_requireValue_24
  · have hd := m_i_t c5 hd
    obtain ⟨e1, e2⟩ := m_s_e hd
    exact m_throwW (own := RX6) (E := "java/lang/IllegalStateException") (ik := 53) (is := 268) (ic := 57) (text := "the name is unset") (w := w3) hx hb hst hown (hts (.classLink RX6 53 "java/lang/IllegalStateException") (by decide +kernel)) (hts (.initialized "java/lang/IllegalStateException") (by decide +kernel)) (m_hat (E := "java/lang/IllegalStateException") (fun w h => hts w ((by decide +kernel : ∀ w ∈ (vx_atS RX6 57 "java/lang/IllegalStateException" ["java/lang/RuntimeException", "java/lang/Exception"]).filter goodWord, w ∈ wsX6_requireValue) w h)) (by decide +kernel) hM.2.1.2.1 (by decide)) (by decide +kernel) (by decide +kernel) (by decide) (by decide +kernel) ⟨rfl, by decide⟩ hM hP hS (hl.1.trans hml.symm) dX6_requireValue_8 dX6_requireValue_11 dX6_requireValue_12 dX6_requireValue_15 dX6_requireValue_18 hout (Nat.le_of_ble_eq_true rfl) (Nat.le_of_ble_eq_true rfl) (Nat.le_of_ble_eq_true rfl) (Nat.le_of_ble_eq_true rfl) hlocks e1 e2 (Nat.le_of_ble_eq_true rfl) (Nat.le_of_ble_eq_true rfl)


noncomputable def e_X6_value (w : mW) (h : Nat) (p0 : Int32) : Option ((Int32 ⊕ String) × mW) := m_t (e_X6_requireName w p0) fun r4 w2 => m_g (m_kd w2 h = 10) <| m_o (m_fr w2 9 5 h) fun r8 => m_g (m_kd w2 r8 = 8) <| m_o (m_fr w2 7 0 r8) fun r10 => m_t (e_X6_requireValue w2 r10 p0) fun r14 w12 => some (.inl r14, w12)
set_option maxHeartbeats 1000000 in
set_option maxRecDepth 100000 in
theorem c_X6_value (l : Launch) (hst : l.stackTraces = false) (G : m_G) (w w' : mW) (h : Nat) (p0 : Int32) (o : Int32 ⊕ String) (hd : e_X6_value w h p0 = some (o, w')) : vx_Met l yX6_value wsX6_value ({ frames := 9, cells := 2, slots := 12, locals := 161 } : Room) (m_Pc G w [.ref (h), .int (p0)]) (m_Xi G o w') (m_XC G o w') 2 12 (fun q => G.1 ≤ q) := by
  refine vx_ofW (cc := cX6_value) (maxL := 2) (ret := (some .int)) (by decide +kernel) rfl ?_
  intro p e s m args below meth c s₁ B hml hout hv
  obtain ⟨rfl, hM, hP⟩ := hv
  have hx := B.exec
  have hb := B.bytes
  have hr := B.returns
  have hts := atoms_spec (ws := wsX6_value) B.pre
  have hown : s.vm.findClass RX6 = some m.cls := findClass_of_methodNamed B.named
  have hlocks := B.notSynchronized
  have hin7 : ∀ w ∈ u_ws RX4 TX4 2, w ∈ wsX6_value := by decide +kernel
  have hin9 : ∀ w ∈ u_ws RX6 TX6 8, w ∈ wsX6_value := by decide +kernel
  have hS : va_S (fun q => G.1 ≤ q) s.heap s.heap [] := va_S.rf
  have hl := lv_entry ([.ref (h), .int (p0)]) (n := 2) (Nat.le_of_ble_eq_true rfl)
  rw [lg_entry_eq]
  generalize (lg_sl ([.ref (h), .int (p0)]) ++ List.replicate (2 - (lg_sl ([.ref (h), .int (p0)])).length) Slot.unset).toArray = ls at hl ⊢
  have hl : lv_has ls 2 [(0, .ref (h)), (1, .int (p0))] := hl
  refine lv_iload_n hx hb dX6_value_0 rfl (lv_at hl 1 rfl) ?_
  obtain ⟨o1, w2, hc3, hx5, hd⟩ := m_t_e hd
  refine m_callxv (k := 1) (n := 6) (vx_runS (As := [.int (p0)]) (rest := []) ⟨hx, hb, hml, hown, hts⟩ (c_X6_requireName l hst G w w2 p0 o1 hc3) (va_cwS 1 hts gX6_value_X6_requireName rfl rfl rfl (by decide +kernel) ⟨(Nat.le_of_ble_eq_true rfl), (Nat.le_of_ble_eq_true rfl)⟩) (m_preS hM hP hS) rfl rfl hl.1 rfl (lv_room (Nat.le_of_ble_eq_true rfl)) dX6_value_1 ⟨(Nat.le_of_ble_eq_true rfl), (Nat.le_of_ble_eq_true rfl)⟩) hS ⟨⟨(Nat.le_of_ble_eq_true rfl), (Nat.le_of_ble_eq_true rfl)⟩, (Nat.le_of_ble_eq_true rfl), (Nat.le_of_ble_eq_true rfl)⟩ hout hlocks hx5 (fun r4 ho6 H locs hP hS => ?_)
  have hd := hd r4 ho6
  refine lv_aload_n hx hb dX6_value_4 rfl (lv_at hl 0 rfl) ?_
  obtain ⟨hk7, hd⟩ := m_g_e hd
  obtain ⟨r8, hr8, hd⟩ := m_o_e hd
  refine m_getR (C := RX6) (T := TX6) (N := 8) (own := RX6) (ref := RX6) hx hb hts hin9 hown hM.1 hP 9 rfl 5 (r := r8) ⟨hk7, hr8⟩ (by decide) (hts (.fieldLink RX6 31 "CellNotebook" "now" "LCellNotebook$Session;") (by decide +kernel)) (fun _ h9 => h9) dX6_value_5 ?_
  obtain ⟨hk9, hd⟩ := m_g_e hd
  obtain ⟨r10, hr10, hd⟩ := m_o_e hd
  refine m_getR (C := RX4) (T := TX4) (N := 2) (own := RX6) (ref := RX4) hx hb hts hin7 hown hM.1 hP 7 rfl 0 (r := r10) ⟨hk9, hr10⟩ (by decide) (hts (.fieldLink RX6 177 "CellNotebook$Session" "names" "LCellNotebook$Names;") (by decide +kernel)) (fun _ h9 => h9) dX6_value_8 ?_
  refine lv_iload_n hx hb dX6_value_11 rfl (lv_at hl 1 rfl) ?_
  obtain ⟨o11, w12, hc13, hx15, hd⟩ := m_t_e hd
  refine m_callxi (k := 2) (n := 12) (vx_runS (As := [.ref (r10), .int (p0)]) (rest := []) ⟨hx, hb, hml, hown, hts⟩ (c_X6_requireValue l hst G w2 w12 r10 p0 o11 hc13) (va_cwS 2 hts gX6_value_X6_requireValue rfl rfl rfl (by decide +kernel) ⟨(Nat.le_of_ble_eq_true rfl), (Nat.le_of_ble_eq_true rfl)⟩) (m_preS hM hP hS) rfl rfl hl.1 rfl (lv_room (Nat.le_of_ble_eq_true rfl)) dX6_value_12 ⟨(Nat.le_of_ble_eq_true rfl), (Nat.le_of_ble_eq_true rfl)⟩) hS ⟨⟨(Nat.le_of_ble_eq_true rfl), (Nat.le_of_ble_eq_true rfl)⟩, (Nat.le_of_ble_eq_true rfl), (Nat.le_of_ble_eq_true rfl)⟩ hout hlocks hx15 (fun r14 ho16 H locs hP hS => ?_)
  have hd := hd r14 ho16
  obtain ⟨e1, e2⟩ := m_s_e hd
  refine vx_ret ?_
  refine W.widen (k := 2) (n := 12) (Nat.le_of_ble_eq_true rfl) (Nat.le_of_ble_eq_true rfl) ?_
  exact W.iret hx hb hr (fun t ht hW => ⟨⟨_, w12, rfl, ⟨e1, e2⟩, by show mP _ _ t.heap; rw [ht]; exact hP⟩, hS.F ht⟩) hS.2.2 dX6_value_15


noncomputable def e_X6_stamp (w : mW) (h : Nat) (p0 : Int32) : Option ((Int32 ⊕ String) × mW) := m_t (e_X6_requireName w p0) fun r4 w2 => m_g (m_kd w2 h = 10) <| m_o (m_fr w2 9 5 h) fun r8 => m_g (m_kd w2 r8 = 8) <| m_o (m_fr w2 7 0 r8) fun r10 => m_g (m_kd w2 r10 = 6) <| m_b (e_X2_stampOf w2 r10 p0) fun r12 w13 => some (.inl r12, w13)
set_option maxHeartbeats 1000000 in
set_option maxRecDepth 100000 in
theorem c_X6_stamp (l : Launch) (hst : l.stackTraces = false) (G : m_G) (w w' : mW) (h : Nat) (p0 : Int32) (o : Int32 ⊕ String) (hd : e_X6_stamp w h p0 = some (o, w')) : vx_Met l yX6_stamp wsX6_stamp ({ frames := 9, cells := 1, slots := 6, locals := 160 } : Room) (m_Pc G w [.ref (h), .int (p0)]) (m_Xi G o w') (m_XC G o w') 1 6 (fun q => G.1 ≤ q) := by
  refine vx_ofW (cc := cX6_stamp) (maxL := 2) (ret := (some .int)) (by decide +kernel) rfl ?_
  intro p e s m args below meth c s₁ B hml hout hv
  obtain ⟨rfl, hM, hP⟩ := hv
  have hx := B.exec
  have hb := B.bytes
  have hr := B.returns
  have hts := atoms_spec (ws := wsX6_stamp) B.pre
  have hown : s.vm.findClass RX6 = some m.cls := findClass_of_methodNamed B.named
  have hlocks := B.notSynchronized
  have hin7 : ∀ w ∈ u_ws RX4 TX4 2, w ∈ wsX6_stamp := by decide +kernel
  have hin9 : ∀ w ∈ u_ws RX6 TX6 8, w ∈ wsX6_stamp := by decide +kernel
  have hS : va_S (fun q => G.1 ≤ q) s.heap s.heap [] := va_S.rf
  have hl := lv_entry ([.ref (h), .int (p0)]) (n := 2) (Nat.le_of_ble_eq_true rfl)
  rw [lg_entry_eq]
  generalize (lg_sl ([.ref (h), .int (p0)]) ++ List.replicate (2 - (lg_sl ([.ref (h), .int (p0)])).length) Slot.unset).toArray = ls at hl ⊢
  have hl : lv_has ls 2 [(0, .ref (h)), (1, .int (p0))] := hl
  refine lv_iload_n hx hb dX6_stamp_0 rfl (lv_at hl 1 rfl) ?_
  obtain ⟨o1, w2, hc3, hx5, hd⟩ := m_t_e hd
  refine m_callxv (k := 1) (n := 6) (vx_runS (As := [.int (p0)]) (rest := []) ⟨hx, hb, hml, hown, hts⟩ (c_X6_requireName l hst G w w2 p0 o1 hc3) (va_cwS 1 hts gX6_stamp_X6_requireName rfl rfl rfl (by decide +kernel) ⟨(Nat.le_of_ble_eq_true rfl), (Nat.le_of_ble_eq_true rfl)⟩) (m_preS hM hP hS) rfl rfl hl.1 rfl (lv_room (Nat.le_of_ble_eq_true rfl)) dX6_stamp_1 ⟨(Nat.le_of_ble_eq_true rfl), (Nat.le_of_ble_eq_true rfl)⟩) hS ⟨⟨(Nat.le_of_ble_eq_true rfl), (Nat.le_of_ble_eq_true rfl)⟩, (Nat.le_of_ble_eq_true rfl), (Nat.le_of_ble_eq_true rfl)⟩ hout hlocks hx5 (fun r4 ho6 H locs hP hS => ?_)
  have hd := hd r4 ho6
  refine lv_aload_n hx hb dX6_stamp_4 rfl (lv_at hl 0 rfl) ?_
  obtain ⟨hk7, hd⟩ := m_g_e hd
  obtain ⟨r8, hr8, hd⟩ := m_o_e hd
  refine m_getR (C := RX6) (T := TX6) (N := 8) (own := RX6) (ref := RX6) hx hb hts hin9 hown hM.1 hP 9 rfl 5 (r := r8) ⟨hk7, hr8⟩ (by decide) (hts (.fieldLink RX6 31 "CellNotebook" "now" "LCellNotebook$Session;") (by decide +kernel)) (fun _ h9 => h9) dX6_stamp_5 ?_
  obtain ⟨hk9, hd⟩ := m_g_e hd
  obtain ⟨r10, hr10, hd⟩ := m_o_e hd
  refine m_getR (C := RX4) (T := TX4) (N := 2) (own := RX6) (ref := RX4) hx hb hts hin7 hown hM.1 hP 7 rfl 0 (r := r10) ⟨hk9, hr10⟩ (by decide) (hts (.fieldLink RX6 177 "CellNotebook$Session" "names" "LCellNotebook$Names;") (by decide +kernel)) (fun _ h9 => h9) dX6_stamp_8 ?_
  refine lv_iload_n hx hb dX6_stamp_11 rfl (lv_at hl 1 rfl) ?_
  obtain ⟨hk11, hd⟩ := m_g_e hd
  obtain ⟨r12, w13, hc14, hd⟩ := m_b_e hd
  refine m_calli (k := 1) (n := 6) (va_runV (As := [.int (p0)]) (rest := []) ⟨hx, hb, hml, hown, hts⟩ (c_X2_stampOf l G w2 w13 r10 p0 r12 hc14) (cwV 1 hts gX6_stamp_X2_stampOf rfl rfl rfl (by decide +kernel) ⟨(Nat.le_of_ble_eq_true rfl), (Nat.le_of_ble_eq_true rfl)⟩) (m_preV (C := RX2) (T := TX2) (N := 2) hM hP hS rfl (by decide) hk11) rfl rfl hl.1 rfl (lv_room (Nat.le_of_ble_eq_true rfl)) dX6_stamp_12 ⟨(Nat.le_of_ble_eq_true rfl), (Nat.le_of_ble_eq_true rfl)⟩) hS ⟨(Nat.le_of_ble_eq_true rfl), (Nat.le_of_ble_eq_true rfl)⟩ (fun H locs hP hS => ?_)
  obtain ⟨e1, e2⟩ := m_s_e hd
  refine vx_ret ?_
  refine W.widen (k := 1) (n := 6) (Nat.le_of_ble_eq_true rfl) (Nat.le_of_ble_eq_true rfl) ?_
  exact W.iret hx hb hr (fun t ht hW => ⟨⟨_, w13, rfl, ⟨e1, e2⟩, by show mP _ _ t.heap; rw [ht]; exact hP⟩, hS.F ht⟩) hS.2.2 dX6_stamp_15


noncomputable def e_X6_lastRun (w : mW) (h : Nat) (p0 : Int32) : Option ((Int32 ⊕ String) × mW) := m_g (m_kd w h = 10) <| m_o (m_fr w 9 5 h) fun r2 => m_t (e_X6_requireCell w h p0) fun r6 w4 => m_g (m_kd w4 r6 = 5) <| m_g (m_kd w4 r2 = 8) <| m_b (e_X4_lastRunOf w4 r2 (m_fi w4 4 0 r6)) fun r11 w12 => some (.inl r11, w12)
set_option maxHeartbeats 1000000 in
set_option maxRecDepth 100000 in
theorem c_X6_lastRun (l : Launch) (hst : l.stackTraces = false) (G : m_G) (w w' : mW) (h : Nat) (p0 : Int32) (o : Int32 ⊕ String) (hd : e_X6_lastRun w h p0 = some (o, w')) : vx_Met l yX6_lastRun wsX6_lastRun ({ frames := 9, cells := 1, slots := 6, locals := 161 } : Room) (m_Pc G w [.ref (h), .int (p0)]) (m_Xi G o w') (m_XC G o w') 1 6 (fun q => G.1 ≤ q) := by
  refine vx_ofW (cc := cX6_lastRun) (maxL := 2) (ret := (some .int)) (by decide +kernel) rfl ?_
  intro p e s m args below meth c s₁ B hml hout hv
  obtain ⟨rfl, hM, hP⟩ := hv
  have hx := B.exec
  have hb := B.bytes
  have hr := B.returns
  have hts := atoms_spec (ws := wsX6_lastRun) B.pre
  have hown : s.vm.findClass RX6 = some m.cls := findClass_of_methodNamed B.named
  have hlocks := B.notSynchronized
  have hin4 : ∀ w ∈ u_ws RX1 TX1 4, w ∈ wsX6_lastRun := by decide +kernel
  have hin9 : ∀ w ∈ u_ws RX6 TX6 8, w ∈ wsX6_lastRun := by decide +kernel
  have hS : va_S (fun q => G.1 ≤ q) s.heap s.heap [] := va_S.rf
  have hl := lv_entry ([.ref (h), .int (p0)]) (n := 2) (Nat.le_of_ble_eq_true rfl)
  rw [lg_entry_eq]
  generalize (lg_sl ([.ref (h), .int (p0)]) ++ List.replicate (2 - (lg_sl ([.ref (h), .int (p0)])).length) Slot.unset).toArray = ls at hl ⊢
  have hl : lv_has ls 2 [(0, .ref (h)), (1, .int (p0))] := hl
  refine lv_aload_n hx hb dX6_lastRun_0 rfl (lv_at hl 0 rfl) ?_
  obtain ⟨hk1, hd⟩ := m_g_e hd
  obtain ⟨r2, hr2, hd⟩ := m_o_e hd
  refine m_getR (C := RX6) (T := TX6) (N := 8) (own := RX6) (ref := RX6) hx hb hts hin9 hown hM.1 hP 9 rfl 5 (r := r2) ⟨hk1, hr2⟩ (by decide) (hts (.fieldLink RX6 31 "CellNotebook" "now" "LCellNotebook$Session;") (by decide +kernel)) (fun _ h9 => h9) dX6_lastRun_1 ?_
  refine lv_aload_n hx hb dX6_lastRun_4 rfl (lv_at hl 0 rfl) ?_
  refine lv_iload_n hx hb dX6_lastRun_5 rfl (lv_at hl 1 rfl) ?_
  obtain ⟨o3, w4, hc5, hx7, hd⟩ := m_t_e hd
  refine m_callxq (k := 1) (n := 6) (vx_runV (As := [.int (p0)]) (rest := [.ref (r2)]) ⟨hx, hb, hml, hown, hts⟩ (c_X6_requireCell l hst G w w4 h p0 o3 hc5) (cwV 1 hts gX6_lastRun_X6_requireCell rfl rfl rfl (by decide +kernel) ⟨(Nat.le_of_ble_eq_true rfl), (Nat.le_of_ble_eq_true rfl)⟩) (m_preV (C := RX6) (T := TX6) (N := 8) hM hP hS rfl (by decide) hk1) rfl rfl hl.1 rfl (lv_room (Nat.le_of_ble_eq_true rfl)) dX6_lastRun_6 ⟨(Nat.le_of_ble_eq_true rfl), (Nat.le_of_ble_eq_true rfl)⟩) hS ⟨⟨(Nat.le_of_ble_eq_true rfl), (Nat.le_of_ble_eq_true rfl)⟩, (Nat.le_of_ble_eq_true rfl), (Nat.le_of_ble_eq_true rfl)⟩ hout hlocks hx7 (fun r6 ho8 H locs hP hS => ?_)
  have hd := hd r6 ho8
  obtain ⟨hk9, hd⟩ := m_g_e hd
  refine m_getI (C := RX1) (T := TX1) (N := 4) (own := RX6) (ref := RX1) hx hb hts hin4 hown hM.1 hP 4 rfl 0 hk9 (by decide) (hts (.fieldLink RX6 128 "CellNotebook$Cell" "number" "I") (by decide +kernel)) (fun _ h9 => h9) dX6_lastRun_9 ?_
  obtain ⟨hk10, hd⟩ := m_g_e hd
  obtain ⟨r11, w12, hc13, hd⟩ := m_b_e hd
  refine m_calli (k := 1) (n := 6) (va_runV (As := [.int (m_fi w4 4 0 r6)]) (rest := []) ⟨hx, hb, hml, hown, hts⟩ (c_X4_lastRunOf l G w4 w12 r2 (m_fi w4 4 0 r6) r11 hc13) (cwV 1 hts gX6_lastRun_X4_lastRunOf rfl rfl rfl (by decide +kernel) ⟨(Nat.le_of_ble_eq_true rfl), (Nat.le_of_ble_eq_true rfl)⟩) (m_preV (C := RX4) (T := TX4) (N := 2) hM hP hS rfl (by decide) hk10) rfl rfl hl.1 rfl (lv_room (Nat.le_of_ble_eq_true rfl)) dX6_lastRun_12 ⟨(Nat.le_of_ble_eq_true rfl), (Nat.le_of_ble_eq_true rfl)⟩) hS ⟨(Nat.le_of_ble_eq_true rfl), (Nat.le_of_ble_eq_true rfl)⟩ (fun H locs hP hS => ?_)
  obtain ⟨e1, e2⟩ := m_s_e hd
  refine vx_ret ?_
  refine W.widen (k := 1) (n := 6) (Nat.le_of_ble_eq_true rfl) (Nat.le_of_ble_eq_true rfl) ?_
  exact W.iret hx hb hr (fun t ht hW => ⟨⟨_, w12, rfl, ⟨e1, e2⟩, by show mP _ _ t.heap; rw [ht]; exact hP⟩, hS.F ht⟩) hS.2.2 dX6_lastRun_15


noncomputable def e_X6_lastRunMadeOf (w : mW) (h : Nat) (p0 : Nat) : Option (Option Nat × mW) := m_g (m_kd w h = 10) <| m_o (m_fr w 9 5 h) fun r2 => m_g (m_kd w p0 = 5) <| m_g (m_kd w r2 = 8) <| m_b (e_X4_lastRunOf w r2 (m_fi w 4 0 p0)) fun r5 w6 => m_g (m_kd w6 h = 10) <| m_b (e_X6_runNumbered w6 h r5) fun r9 w10 => m_n r9 (some (none, w10)) (fun q12 => some ((some q12), w10))
set_option maxHeartbeats 1000000 in
set_option maxRecDepth 100000 in
theorem c_X6_lastRunMadeOf (l : Launch) (G : m_G) (w w' : mW) (h : Nat) (p0 : Nat) (r : Option Nat) (hd : e_X6_lastRunMadeOf w h p0 = some (r, w')) : Met l yX6_lastRunMadeOf wsX6_lastRunMadeOf ({ frames := 4, cells := 0, slots := 0, locals := 85 } : Room) (m_Pc G w [.ref (h), .ref (p0)]) (m_Qq G r w') 0 0 (fun q => G.1 ≤ q) := by
  refine Met.ofW (cc := cX6_lastRunMadeOf) (maxL := 2) (ret := (some (.object "CellNotebook$Run"))) (by decide +kernel) rfl ?_
  intro p e s m args below meth c s₁ B hml hv
  obtain ⟨rfl, hM, hP⟩ := hv
  have hx := B.exec
  have hb := B.bytes
  have hr := B.returns
  have hts := atoms_spec (ws := wsX6_lastRunMadeOf) B.pre
  have hown : s.vm.findClass RX6 = some m.cls := findClass_of_methodNamed B.named
  have hlocks := B.notSynchronized
  have hin4 : ∀ w ∈ u_ws RX1 TX1 4, w ∈ wsX6_lastRunMadeOf := by decide +kernel
  have hin9 : ∀ w ∈ u_ws RX6 TX6 8, w ∈ wsX6_lastRunMadeOf := by decide +kernel
  have hS : va_S (fun q => G.1 ≤ q) s.heap s.heap [] := va_S.rf
  have hl := lv_entry ([.ref (h), .ref (p0)]) (n := 2) (Nat.le_of_ble_eq_true rfl)
  rw [lg_entry_eq]
  generalize (lg_sl ([.ref (h), .ref (p0)]) ++ List.replicate (2 - (lg_sl ([.ref (h), .ref (p0)])).length) Slot.unset).toArray = ls at hl ⊢
  have hl : lv_has ls 2 [(0, .ref (h)), (1, .ref (p0))] := hl
  refine lv_aload_n hx hb dX6_lastRunMadeOf_0 rfl (lv_at hl 0 rfl) ?_
  refine lv_aload_n hx hb dX6_lastRunMadeOf_1 rfl (lv_at hl 0 rfl) ?_
  obtain ⟨hk1, hd⟩ := m_g_e hd
  obtain ⟨r2, hr2, hd⟩ := m_o_e hd
  refine m_getR (C := RX6) (T := TX6) (N := 8) (own := RX6) (ref := RX6) hx hb hts hin9 hown hM.1 hP 9 rfl 5 (r := r2) ⟨hk1, hr2⟩ (by decide) (hts (.fieldLink RX6 31 "CellNotebook" "now" "LCellNotebook$Session;") (by decide +kernel)) (fun _ h9 => h9) dX6_lastRunMadeOf_2 ?_
  refine lv_aload_n hx hb dX6_lastRunMadeOf_5 rfl (lv_at hl 1 rfl) ?_
  obtain ⟨hk3, hd⟩ := m_g_e hd
  refine m_getI (C := RX1) (T := TX1) (N := 4) (own := RX6) (ref := RX1) hx hb hts hin4 hown hM.1 hP 4 rfl 0 hk3 (by decide) (hts (.fieldLink RX6 128 "CellNotebook$Cell" "number" "I") (by decide +kernel)) (fun _ h9 => h9) dX6_lastRunMadeOf_6 ?_
  obtain ⟨hk4, hd⟩ := m_g_e hd
  obtain ⟨r5, w6, hc7, hd⟩ := m_b_e hd
  refine m_calli (k := 0) (n := 0) (va_runV (As := [.int (m_fi w 4 0 p0)]) (rest := [.ref (h)]) ⟨hx, hb, hml, hown, hts⟩ (c_X4_lastRunOf l G w w6 r2 (m_fi w 4 0 p0) r5 hc7) (cwV 1 hts gX6_lastRunMadeOf_X4_lastRunOf rfl rfl rfl (by decide +kernel) ⟨(Nat.le_of_ble_eq_true rfl), (Nat.le_of_ble_eq_true rfl)⟩) (m_preV (C := RX4) (T := TX4) (N := 2) hM hP hS rfl (by decide) hk4) rfl rfl hl.1 rfl (lv_room (Nat.le_of_ble_eq_true rfl)) dX6_lastRunMadeOf_9 ⟨(Nat.le_of_ble_eq_true rfl), (Nat.le_of_ble_eq_true rfl)⟩) hS ⟨(Nat.le_of_ble_eq_true rfl), (Nat.le_of_ble_eq_true rfl)⟩ (fun H locs hP hS => ?_)
  obtain ⟨hk8, hd⟩ := m_g_e hd
  obtain ⟨r9, w10, hc11, hd⟩ := m_b_e hd
  refine m_callq (k := 0) (n := 0) (va_runV (As := [.int (r5)]) (rest := []) ⟨hx, hb, hml, hown, hts⟩ (c_X6_runNumbered l G w6 w10 h r5 r9 hc11) (cwV 1 hts gX6_lastRunMadeOf_X6_runNumbered rfl rfl rfl (by decide +kernel) ⟨(Nat.le_of_ble_eq_true rfl), (Nat.le_of_ble_eq_true rfl)⟩) (m_preV (C := RX6) (T := TX6) (N := 8) hM hP hS rfl (by decide) hk8) rfl rfl hl.1 rfl (lv_room (Nat.le_of_ble_eq_true rfl)) dX6_lastRunMadeOf_12 ⟨(Nat.le_of_ble_eq_true rfl), (Nat.le_of_ble_eq_true rfl)⟩) hS ⟨(Nat.le_of_ble_eq_true rfl), (Nat.le_of_ble_eq_true rfl)⟩ (fun H locs hP hS => ?_)
  cases r9 with
  | none =>
    have hd := m_n_e hd
    obtain ⟨e1, e2⟩ := m_s_e hd
    refine W.widen (k := 0) (n := 0) (Nat.le_of_ble_eq_true rfl) (Nat.le_of_ble_eq_true rfl) ?_
    exact W.aret hx hb hr (Or.inl ⟨_, rfl⟩) (Or.inl rfl) (fun t ht hW => ⟨⟨none, w10, rfl, ⟨e1, e2⟩, by show mP _ _ t.heap; rw [ht]; exact hP⟩, hS.F ht⟩) hS.2.2 dX6_lastRunMadeOf_15
  | some q12 =>
    have hd := m_n_s hd
    obtain ⟨e1, e2⟩ := m_s_e hd
    refine W.widen (k := 0) (n := 0) (Nat.le_of_ble_eq_true rfl) (Nat.le_of_ble_eq_true rfl) ?_
    exact W.aret hx hb hr (Or.inl ⟨_, rfl⟩) (Or.inr ⟨_, rfl⟩) (fun t ht hW => ⟨⟨some q12, w10, rfl, ⟨e1, e2⟩, by show mP _ _ t.heap; rw [ht]; exact hP⟩, hS.F ht⟩) hS.2.2 dX6_lastRunMadeOf_15


noncomputable def e_X6_hasResult_26 (w : mW) (s0 : Int32) : Option ((Int32 ⊕ String) × mW) := m_g (vp_nar .boolean s0 = s0) <| some (.inl s0, w)
noncomputable def e_X6_hasResult_25 (w : mW)  : Option ((Int32 ⊕ String) × mW) := e_X6_hasResult_26 w 0
noncomputable def e_X6_hasResult (w : mW) (h : Nat) (p0 : Int32) : Option ((Int32 ⊕ String) × mW) := m_g (m_kd w h = 10) <| m_t (e_X6_requireCell w h p0) fun r5 w3 => m_g (m_kd w3 h = 10) <| m_b (e_X6_lastRunMadeOf w3 h r5) fun r9 w10 => m_n r9 (e_X6_hasResult_25 w10) (fun q12 => m_g (m_kd w10 q12 = 7) <| if (m_fi w10 6 3 q12) = (0 : Int32) then (e_X6_hasResult_25 w10) else (e_X6_hasResult_26 w10 1))
set_option maxHeartbeats 1000000 in
set_option maxRecDepth 100000 in
theorem c_X6_hasResult (l : Launch) (hst : l.stackTraces = false) (G : m_G) (w w' : mW) (h : Nat) (p0 : Int32) (o : Int32 ⊕ String) (hd : e_X6_hasResult w h p0 = some (o, w')) : vx_Met l yX6_hasResult wsX6_hasResult ({ frames := 9, cells := 1, slots := 6, locals := 161 } : Room) (m_Pc G w [.ref (h), .int (p0)]) (m_Xi G o w') (m_XC G o w') 1 6 (fun q => G.1 ≤ q) := by
  refine vx_ofW (cc := cX6_hasResult) (maxL := 3) (ret := (some .boolean)) (by decide +kernel) rfl ?_
  intro p e s m args below meth c s₁ B hml hout hv
  obtain ⟨rfl, hM, hP⟩ := hv
  have hx := B.exec
  have hb := B.bytes
  have hr := B.returns
  have hts := atoms_spec (ws := wsX6_hasResult) B.pre
  have hown : s.vm.findClass RX6 = some m.cls := findClass_of_methodNamed B.named
  have hlocks := B.notSynchronized
  have hin6 : ∀ w ∈ u_ws RX3 TX3 7, w ∈ wsX6_hasResult := by decide +kernel
  have hS : va_S (fun q => G.1 ≤ q) s.heap s.heap [] := va_S.rf
  have J26 : ∀ (w : mW) (s0 : Int32) (H : Heap) (locs : List Loc) (ls : Array Slot), e_X6_hasResult_26 w s0 = some (o, w') → mP G w H → va_S (fun q => G.1 ≤ q) s.heap H locs → lv_has ls 3 [] → W p l e ({ frames := 9, cells := 1, slots := 6, locals := 161 } : Room) s m ([.ref (h), .int (p0)] : List Value).toArray below meth c H locs 1 6 (vx_MQ below (m_Xi G o w') (m_XC G o w') ([.ref (h), .int (p0)] : List Value).toArray s 1 6 (fun q => G.1 ≤ q)) (F0 m 26 ls [.int (s0)]) := by
    intro w s0 H locs ls hd hP hS hl
    obtain ⟨hn215, hd⟩ := m_g_e hd
    obtain ⟨e1, e2⟩ := m_s_e hd
    refine vx_ret ?_
    refine W.widen (k := 1) (n := 6) (Nat.le_of_ble_eq_true rfl) (Nat.le_of_ble_eq_true rfl) ?_
    exact W.zret hx hb hr (m_narZ hn215).1 (fun t ht hW => ⟨⟨_, w, rfl, ⟨e1, e2⟩, by show mP _ _ t.heap; rw [ht]; exact hP⟩, hS.F ht⟩) hS.2.2 dX6_hasResult_26
  have J25 : ∀ (w : mW) (H : Heap) (locs : List Loc) (ls : Array Slot), e_X6_hasResult_25 w = some (o, w') → mP G w H → va_S (fun q => G.1 ≤ q) s.heap H locs → lv_has ls 3 [] → W p l e ({ frames := 9, cells := 1, slots := 6, locals := 161 } : Room) s m ([.ref (h), .int (p0)] : List Value).toArray below meth c H locs 1 6 (vx_MQ below (m_Xi G o w') (m_XC G o w') ([.ref (h), .int (p0)] : List Value).toArray s 1 6 (fun q => G.1 ≤ q)) (F0 m 25 ls []) := by
    intro w H locs ls hd hP hS hl
    refine lv_iconst (v := 0) hx hb dX6_hasResult_25 (by decide) ?_
    refine W.widen (k := 1) (n := 6) (Nat.le_of_ble_eq_true rfl) (Nat.le_of_ble_eq_true rfl) ?_
    exact J26 w 0 _ _ _ hd hP hS (lv_sub hl [] rfl)
  have hl := lv_entry ([.ref (h), .int (p0)]) (n := 3) (Nat.le_of_ble_eq_true rfl)
  rw [lg_entry_eq]
  generalize (lg_sl ([.ref (h), .int (p0)]) ++ List.replicate (3 - (lg_sl ([.ref (h), .int (p0)])).length) Slot.unset).toArray = ls at hl ⊢
  have hl : lv_has ls 3 [(0, .ref (h)), (1, .int (p0))] := hl
  refine lv_aload_n hx hb dX6_hasResult_0 rfl (lv_at hl 0 rfl) ?_
  refine lv_aload_n hx hb dX6_hasResult_1 rfl (lv_at hl 0 rfl) ?_
  refine lv_iload_n hx hb dX6_hasResult_2 rfl (lv_at hl 1 rfl) ?_
  obtain ⟨hk1, hd⟩ := m_g_e hd
  obtain ⟨o2, w3, hc4, hx6, hd⟩ := m_t_e hd
  refine m_callxq (k := 1) (n := 6) (vx_runV (As := [.int (p0)]) (rest := [.ref (h)]) ⟨hx, hb, hml, hown, hts⟩ (c_X6_requireCell l hst G w w3 h p0 o2 hc4) (cwV 1 hts gX6_hasResult_X6_requireCell rfl rfl rfl (by decide +kernel) ⟨(Nat.le_of_ble_eq_true rfl), (Nat.le_of_ble_eq_true rfl)⟩) (m_preV (C := RX6) (T := TX6) (N := 8) hM hP hS rfl (by decide) hk1) rfl rfl hl.1 rfl (lv_room (Nat.le_of_ble_eq_true rfl)) dX6_hasResult_3 ⟨(Nat.le_of_ble_eq_true rfl), (Nat.le_of_ble_eq_true rfl)⟩) hS ⟨⟨(Nat.le_of_ble_eq_true rfl), (Nat.le_of_ble_eq_true rfl)⟩, (Nat.le_of_ble_eq_true rfl), (Nat.le_of_ble_eq_true rfl)⟩ hout hlocks hx6 (fun r5 ho7 H locs hP hS => ?_)
  have hd := hd r5 ho7
  obtain ⟨hk8, hd⟩ := m_g_e hd
  obtain ⟨r9, w10, hc11, hd⟩ := m_b_e hd
  refine m_callq (k := 1) (n := 6) (va_runV (As := [.ref (r5)]) (rest := []) ⟨hx, hb, hml, hown, hts⟩ (c_X6_lastRunMadeOf l G w3 w10 h r5 r9 hc11) (cwV 1 hts gX6_hasResult_X6_lastRunMadeOf rfl rfl rfl (by decide +kernel) ⟨(Nat.le_of_ble_eq_true rfl), (Nat.le_of_ble_eq_true rfl)⟩) (m_preV (C := RX6) (T := TX6) (N := 8) hM hP hS rfl (by decide) hk8) rfl rfl hl.1 rfl (lv_room (Nat.le_of_ble_eq_true rfl)) dX6_hasResult_6 ⟨(Nat.le_of_ble_eq_true rfl), (Nat.le_of_ble_eq_true rfl)⟩) hS ⟨(Nat.le_of_ble_eq_true rfl), (Nat.le_of_ble_eq_true rfl)⟩ (fun H locs hP hS => ?_)
  cases r9 with
  | none =>
    have hd := m_n_e hd
    refine lv_astore_nN (lv' := [(2, .null), (0, .ref (h)), (1, .int (p0))]) hx hb dX6_hasResult_9 rfl hl (by decide) rfl (fun ls hl => ?_)
    refine lv_aload_nN hx hb dX6_hasResult_10 rfl (lv_at hl 0 rfl) ?_
    refine lv_ifnullN (tgt := 25) hx hb dX6_hasResult_11 (by decide) ?_
    refine W.widen (k := 1) (n := 6) (Nat.le_of_ble_eq_true rfl) (Nat.le_of_ble_eq_true rfl) ?_
    exact J25 w10 _ _ _ hd hP hS (lv_sub hl [] rfl)
  | some q12 =>
    have hd := m_n_s hd
    refine lv_astore_n (lv' := [(2, .ref (q12)), (0, .ref (h)), (1, .int (p0))]) hx hb dX6_hasResult_9 rfl hl (by decide) rfl (fun ls hl => ?_)
    refine lv_aload_n hx hb dX6_hasResult_10 rfl (lv_at hl 0 rfl) ?_
    refine lv_ifnull hx hb dX6_hasResult_11 ?_
    refine lv_aload_n hx hb dX6_hasResult_14 rfl (lv_at hl 0 rfl) ?_
    obtain ⟨hk13, hd⟩ := m_g_e hd
    refine m_getI (C := RX3) (T := TX3) (N := 7) (own := RX6) (ref := RX3) hx hb hts hin6 hown hM.1 hP 6 rfl 3 hk13 (by decide) (hts (.fieldLink RX6 197 "CellNotebook$Run" "hasOutcome" "Z") (by decide +kernel)) (fun _ h9 => h9) dX6_hasResult_15 ?_
    refine lv_if_eq (tgt := 25) hx hb dX6_hasResult_18 (by decide) (fun c14 => ?_) (fun c14 => ?_)
    · have hd := m_i_t c14 hd
      refine W.widen (k := 1) (n := 6) (Nat.le_of_ble_eq_true rfl) (Nat.le_of_ble_eq_true rfl) ?_
      exact J25 w10 _ _ _ hd hP hS (lv_sub hl [] rfl)
    · have hd := m_i_f c14 hd
      refine lv_iconst (v := 1) hx hb dX6_hasResult_21 (by decide) ?_
      refine lv_goto (tgt := 26) hx hb dX6_hasResult_22 (by decide) ?_
      refine W.widen (k := 1) (n := 6) (Nat.le_of_ble_eq_true rfl) (Nat.le_of_ble_eq_true rfl) ?_
      exact J26 w10 1 _ _ _ hd hP hS (lv_sub hl [] rfl)


noncomputable def e_X6_result_36 (w : mW)  : Option ((Int32 ⊕ String) × mW) := some (.inr "java/lang/IllegalStateException", w)
noncomputable def e_X6_result (w : mW) (h : Nat) (p0 : Int32) (p1 : Int32) : Option ((Int32 ⊕ String) × mW) := m_t (e_X6_requireUser w p0) fun r4 w2 => m_g (m_kd w2 h = 10) <| m_t (e_X6_requireCell w2 h p1) fun r11 w9 => m_t (e_X6_requireRight w9 r11 p0 1) fun r17 w15 => m_g (m_kd w15 h = 10) <| m_b (e_X6_lastRunMadeOf w15 h r11) fun r21 w22 => m_n r21 (e_X6_result_36 w22) (fun q24 => m_g (m_kd w22 q24 = 7) <| if (m_fi w22 6 3 q24) = (0 : Int32) then (e_X6_result_36 w22) else (some (.inl (m_fi w22 6 4 q24), w22)))
set_option maxHeartbeats 1000000 in
set_option maxRecDepth 100000 in
theorem c_X6_result (l : Launch) (hst : l.stackTraces = false) (G : m_G) (w w' : mW) (h : Nat) (p0 : Int32) (p1 : Int32) (o : Int32 ⊕ String) (hd : e_X6_result w h p0 p1 = some (o, w')) : vx_Met l yX6_result wsX6_result ({ frames := 9, cells := 4, slots := 24, locals := 162 } : Room) (m_Pc G w [.ref (h), .int (p0), .int (p1)]) (m_Xi G o w') (m_XC G o w') 4 24 (fun q => G.1 ≤ q) := by
  refine vx_ofW (cc := cX6_result) (maxL := 5) (ret := (some .int)) (by decide +kernel) rfl ?_
  intro p e s m args below meth c s₁ B hml hout hv
  obtain ⟨rfl, hM, hP⟩ := hv
  have hx := B.exec
  have hb := B.bytes
  have hr := B.returns
  have hts := atoms_spec (ws := wsX6_result) B.pre
  have hown : s.vm.findClass RX6 = some m.cls := findClass_of_methodNamed B.named
  have hlocks := B.notSynchronized
  have hin6 : ∀ w ∈ u_ws RX3 TX3 7, w ∈ wsX6_result := by decide +kernel
  have hS : va_S (fun q => G.1 ≤ q) s.heap s.heap [] := va_S.rf
  have J36 : ∀ (w : mW) (H : Heap) (locs : List Loc) (ls : Array Slot), e_X6_result_36 w = some (o, w') → mP G w H → va_S (fun q => G.1 ≤ q) s.heap H locs → lv_has ls 5 [] → W p l e ({ frames := 9, cells := 4, slots := 24, locals := 162 } : Room) s m ([.ref (h), .int (p0), .int (p1)] : List Value).toArray below meth c H locs 3 18 (vx_MQ below (m_Xi G o w') (m_XC G o w') ([.ref (h), .int (p0), .int (p1)] : List Value).toArray s 4 24 (fun q => G.1 ≤ q)) (F0 m 36 ls []) := by
    intro w H locs ls hd hP hS hl
    obtain ⟨e1, e2⟩ := m_s_e hd
    exact m_throwS (own := RX6) (E := "java/lang/IllegalStateException") (ik := 53) (is := 203) (ic := 57) (text := "there is no result") (w := w) hx hb hst hown (hts (.classLink RX6 53 "java/lang/IllegalStateException") (by decide +kernel)) (hts (.initialized "java/lang/IllegalStateException") (by decide +kernel)) (m_hat (E := "java/lang/IllegalStateException") (fun w h => hts w ((by decide +kernel : ∀ w ∈ (vx_atS RX6 57 "java/lang/IllegalStateException" ["java/lang/RuntimeException", "java/lang/Exception"]).filter goodWord, w ∈ wsX6_result) w h)) (by decide +kernel) hM.2.1.2.1 (by decide)) (by decide +kernel) (by decide +kernel) (by decide) (by decide +kernel) ⟨rfl, by decide⟩ hM hP hS (hl.1.trans hml.symm) dX6_result_36 dX6_result_39 dX6_result_40 dX6_result_42 dX6_result_45 hout (Nat.le_of_ble_eq_true rfl) (Nat.le_of_ble_eq_true rfl) (Nat.le_of_ble_eq_true rfl) (Nat.le_of_ble_eq_true rfl) hlocks e1 e2 (Nat.le_of_ble_eq_true rfl) (Nat.le_of_ble_eq_true rfl)
  have hl := lv_entry ([.ref (h), .int (p0), .int (p1)]) (n := 5) (Nat.le_of_ble_eq_true rfl)
  rw [lg_entry_eq]
  generalize (lg_sl ([.ref (h), .int (p0), .int (p1)]) ++ List.replicate (5 - (lg_sl ([.ref (h), .int (p0), .int (p1)])).length) Slot.unset).toArray = ls at hl ⊢
  have hl : lv_has ls 5 [(0, .ref (h)), (1, .int (p0)), (2, .int (p1))] := hl
  refine lv_iload_n hx hb dX6_result_0 rfl (lv_at hl 1 rfl) ?_
  obtain ⟨o1, w2, hc3, hx5, hd⟩ := m_t_e hd
  refine m_callxv (k := 1) (n := 6) (vx_runS (As := [.int (p0)]) (rest := []) ⟨hx, hb, hml, hown, hts⟩ (c_X6_requireUser l hst G w w2 p0 o1 hc3) (va_cwS 1 hts gX6_result_X6_requireUser rfl rfl rfl (by decide +kernel) ⟨(Nat.le_of_ble_eq_true rfl), (Nat.le_of_ble_eq_true rfl)⟩) (m_preS hM hP hS) rfl rfl hl.1 rfl (lv_room (Nat.le_of_ble_eq_true rfl)) dX6_result_1 ⟨(Nat.le_of_ble_eq_true rfl), (Nat.le_of_ble_eq_true rfl)⟩) hS ⟨⟨(Nat.le_of_ble_eq_true rfl), (Nat.le_of_ble_eq_true rfl)⟩, (Nat.le_of_ble_eq_true rfl), (Nat.le_of_ble_eq_true rfl)⟩ hout hlocks hx5 (fun r4 ho6 H locs hP hS => ?_)
  have hd := hd r4 ho6
  refine lv_aload_n hx hb dX6_result_4 rfl (lv_at hl 0 rfl) ?_
  refine lv_iload_n hx hb dX6_result_5 rfl (lv_at hl 2 rfl) ?_
  obtain ⟨hk7, hd⟩ := m_g_e hd
  obtain ⟨o8, w9, hc10, hx12, hd⟩ := m_t_e hd
  refine m_callxq (k := 2) (n := 12) (vx_runV (As := [.int (p1)]) (rest := []) ⟨hx, hb, hml, hown, hts⟩ (c_X6_requireCell l hst G w2 w9 h p1 o8 hc10) (cwV 1 hts gX6_result_X6_requireCell rfl rfl rfl (by decide +kernel) ⟨(Nat.le_of_ble_eq_true rfl), (Nat.le_of_ble_eq_true rfl)⟩) (m_preV (C := RX6) (T := TX6) (N := 8) hM hP hS rfl (by decide) hk7) rfl rfl hl.1 rfl (lv_room (Nat.le_of_ble_eq_true rfl)) dX6_result_6 ⟨(Nat.le_of_ble_eq_true rfl), (Nat.le_of_ble_eq_true rfl)⟩) hS ⟨⟨(Nat.le_of_ble_eq_true rfl), (Nat.le_of_ble_eq_true rfl)⟩, (Nat.le_of_ble_eq_true rfl), (Nat.le_of_ble_eq_true rfl)⟩ hout hlocks hx12 (fun r11 ho13 H locs hP hS => ?_)
  have hd := hd r11 ho13
  refine lv_astore_n (lv' := [(3, .ref (r11)), (0, .ref (h)), (1, .int (p0)), (2, .int (p1))]) hx hb dX6_result_9 rfl hl (by decide) rfl (fun ls hl => ?_)
  refine lv_aload_n hx hb dX6_result_10 rfl (lv_at hl 0 rfl) ?_
  refine lv_iload_n hx hb dX6_result_11 rfl (lv_at hl 2 rfl) ?_
  refine lv_iconst (v := 1) hx hb dX6_result_12 (by decide) ?_
  obtain ⟨o14, w15, hc16, hx18, hd⟩ := m_t_e hd
  refine m_callxv (k := 3) (n := 18) (vx_runS (As := [.ref (r11), .int (p0), .int (1)]) (rest := []) ⟨hx, hb, hml, hown, hts⟩ (c_X6_requireRight l hst G w9 w15 r11 p0 1 o14 hc16) (va_cwS 3 hts gX6_result_X6_requireRight rfl rfl rfl (by decide +kernel) ⟨(Nat.le_of_ble_eq_true rfl), (Nat.le_of_ble_eq_true rfl)⟩) (m_preS hM hP hS) rfl rfl hl.1 rfl (lv_room (Nat.le_of_ble_eq_true rfl)) dX6_result_13 ⟨(Nat.le_of_ble_eq_true rfl), (Nat.le_of_ble_eq_true rfl)⟩) hS ⟨⟨(Nat.le_of_ble_eq_true rfl), (Nat.le_of_ble_eq_true rfl)⟩, (Nat.le_of_ble_eq_true rfl), (Nat.le_of_ble_eq_true rfl)⟩ hout hlocks hx18 (fun r17 ho19 H locs hP hS => ?_)
  have hd := hd r17 ho19
  refine lv_aload_n hx hb dX6_result_16 rfl (lv_at hl 1 rfl) ?_
  refine lv_aload_n hx hb dX6_result_17 rfl (lv_at hl 0 rfl) ?_
  obtain ⟨hk20, hd⟩ := m_g_e hd
  obtain ⟨r21, w22, hc23, hd⟩ := m_b_e hd
  refine m_callq (k := 3) (n := 18) (va_runV (As := [.ref (r11)]) (rest := []) ⟨hx, hb, hml, hown, hts⟩ (c_X6_lastRunMadeOf l G w15 w22 h r11 r21 hc23) (cwV 1 hts gX6_result_X6_lastRunMadeOf rfl rfl rfl (by decide +kernel) ⟨(Nat.le_of_ble_eq_true rfl), (Nat.le_of_ble_eq_true rfl)⟩) (m_preV (C := RX6) (T := TX6) (N := 8) hM hP hS rfl (by decide) hk20) rfl rfl hl.1 rfl (lv_room (Nat.le_of_ble_eq_true rfl)) dX6_result_18 ⟨(Nat.le_of_ble_eq_true rfl), (Nat.le_of_ble_eq_true rfl)⟩) hS ⟨(Nat.le_of_ble_eq_true rfl), (Nat.le_of_ble_eq_true rfl)⟩ (fun H locs hP hS => ?_)
  cases r21 with
  | none =>
    have hd := m_n_e hd
    refine lv_astoreN (lv' := [(4, .null), (3, .ref (r11)), (0, .ref (h)), (1, .int (p0)), (2, .int (p1))]) hx hb dX6_result_21 hl (by decide) rfl (fun ls hl => ?_)
    refine lv_aloadN hx hb dX6_result_23 (lv_at hl 0 rfl) ?_
    refine lv_ifnullN (tgt := 36) hx hb dX6_result_25 (by decide) ?_
    refine W.widen (k := 3) (n := 18) (Nat.le_of_ble_eq_true rfl) (Nat.le_of_ble_eq_true rfl) ?_
    exact J36 w22 _ _ _ hd hP hS (lv_sub hl [] rfl)
  | some q24 =>
    have hd := m_n_s hd
    refine lv_astore (lv' := [(4, .ref (q24)), (3, .ref (r11)), (0, .ref (h)), (1, .int (p0)), (2, .int (p1))]) hx hb dX6_result_21 hl (by decide) rfl (fun ls hl => ?_)
    refine lv_aload hx hb dX6_result_23 (lv_at hl 0 rfl) ?_
    refine lv_ifnull hx hb dX6_result_25 ?_
    refine lv_aload hx hb dX6_result_28 (lv_at hl 0 rfl) ?_
    obtain ⟨hk25, hd⟩ := m_g_e hd
    refine m_getI (C := RX3) (T := TX3) (N := 7) (own := RX6) (ref := RX3) hx hb hts hin6 hown hM.1 hP 6 rfl 3 hk25 (by decide) (hts (.fieldLink RX6 197 "CellNotebook$Run" "hasOutcome" "Z") (by decide +kernel)) (fun _ h9 => h9) dX6_result_30 ?_
    refine lv_if_ne (tgt := 46) hx hb dX6_result_33 (by decide) (fun c26 => ?_) (fun c26 => ?_)
    · have hd := m_i_f c26 hd
      refine lv_aload hx hb dX6_result_46 (lv_at hl 0 rfl) ?_
      refine m_getI (C := RX3) (T := TX3) (N := 7) (own := RX6) (ref := RX3) hx hb hts hin6 hown hM.1 hP 6 rfl 4 hk25 (by decide) (hts (.fieldLink RX6 205 "CellNotebook$Run" "outcome" "I") (by decide +kernel)) (fun _ h9 => h9) dX6_result_48 ?_
      obtain ⟨e1, e2⟩ := m_s_e hd
      refine vx_ret ?_
      refine W.widen (k := 4) (n := 24) (Nat.le_of_ble_eq_true rfl) (Nat.le_of_ble_eq_true rfl) ?_
      exact W.iret hx hb hr (fun t ht hW => ⟨⟨_, w22, rfl, ⟨e1, e2⟩, by show mP _ _ t.heap; rw [ht]; exact hP⟩, hS.F ht⟩) hS.2.2 dX6_result_51
    · have hd := m_i_t c26 hd
      refine W.widen (k := 3) (n := 18) (Nat.le_of_ble_eq_true rfl) (Nat.le_of_ble_eq_true rfl) ?_
      exact J36 w22 _ _ _ hd hP hS (lv_sub hl [] rfl)


noncomputable def e_X6_seen_22 (w : mW) (s0 : Int32) : Option ((Int32 ⊕ String) × mW) := some (.inl s0, w)
noncomputable def e_X6_seen (w : mW) (h : Nat) (p0 : Int32) : Option ((Int32 ⊕ String) × mW) := m_g (m_kd w h = 10) <| m_t (e_X6_requireCell w h p0) fun r5 w3 => m_g (m_kd w3 h = 10) <| m_b (e_X6_lastRunMadeOf w3 h r5) fun r9 w10 => m_n r9 (e_X6_seen_22 w10 0) (fun q12 => m_g (m_kd w10 q12 = 7) <| e_X6_seen_22 w10 (m_fi w10 6 5 q12))
set_option maxHeartbeats 1000000 in
set_option maxRecDepth 100000 in
theorem c_X6_seen (l : Launch) (hst : l.stackTraces = false) (G : m_G) (w w' : mW) (h : Nat) (p0 : Int32) (o : Int32 ⊕ String) (hd : e_X6_seen w h p0 = some (o, w')) : vx_Met l yX6_seen wsX6_seen ({ frames := 9, cells := 1, slots := 6, locals := 161 } : Room) (m_Pc G w [.ref (h), .int (p0)]) (m_Xi G o w') (m_XC G o w') 1 6 (fun q => G.1 ≤ q) := by
  refine vx_ofW (cc := cX6_seen) (maxL := 3) (ret := (some .int)) (by decide +kernel) rfl ?_
  intro p e s m args below meth c s₁ B hml hout hv
  obtain ⟨rfl, hM, hP⟩ := hv
  have hx := B.exec
  have hb := B.bytes
  have hr := B.returns
  have hts := atoms_spec (ws := wsX6_seen) B.pre
  have hown : s.vm.findClass RX6 = some m.cls := findClass_of_methodNamed B.named
  have hlocks := B.notSynchronized
  have hin6 : ∀ w ∈ u_ws RX3 TX3 7, w ∈ wsX6_seen := by decide +kernel
  have hS : va_S (fun q => G.1 ≤ q) s.heap s.heap [] := va_S.rf
  have J22 : ∀ (w : mW) (s0 : Int32) (H : Heap) (locs : List Loc) (ls : Array Slot), e_X6_seen_22 w s0 = some (o, w') → mP G w H → va_S (fun q => G.1 ≤ q) s.heap H locs → lv_has ls 3 [] → W p l e ({ frames := 9, cells := 1, slots := 6, locals := 161 } : Room) s m ([.ref (h), .int (p0)] : List Value).toArray below meth c H locs 1 6 (vx_MQ below (m_Xi G o w') (m_XC G o w') ([.ref (h), .int (p0)] : List Value).toArray s 1 6 (fun q => G.1 ≤ q)) (F0 m 22 ls [.int (s0)]) := by
    intro w s0 H locs ls hd hP hS hl
    obtain ⟨e1, e2⟩ := m_s_e hd
    refine vx_ret ?_
    refine W.widen (k := 1) (n := 6) (Nat.le_of_ble_eq_true rfl) (Nat.le_of_ble_eq_true rfl) ?_
    exact W.iret hx hb hr (fun t ht hW => ⟨⟨_, w, rfl, ⟨e1, e2⟩, by show mP _ _ t.heap; rw [ht]; exact hP⟩, hS.F ht⟩) hS.2.2 dX6_seen_22
  have hl := lv_entry ([.ref (h), .int (p0)]) (n := 3) (Nat.le_of_ble_eq_true rfl)
  rw [lg_entry_eq]
  generalize (lg_sl ([.ref (h), .int (p0)]) ++ List.replicate (3 - (lg_sl ([.ref (h), .int (p0)])).length) Slot.unset).toArray = ls at hl ⊢
  have hl : lv_has ls 3 [(0, .ref (h)), (1, .int (p0))] := hl
  refine lv_aload_n hx hb dX6_seen_0 rfl (lv_at hl 0 rfl) ?_
  refine lv_aload_n hx hb dX6_seen_1 rfl (lv_at hl 0 rfl) ?_
  refine lv_iload_n hx hb dX6_seen_2 rfl (lv_at hl 1 rfl) ?_
  obtain ⟨hk1, hd⟩ := m_g_e hd
  obtain ⟨o2, w3, hc4, hx6, hd⟩ := m_t_e hd
  refine m_callxq (k := 1) (n := 6) (vx_runV (As := [.int (p0)]) (rest := [.ref (h)]) ⟨hx, hb, hml, hown, hts⟩ (c_X6_requireCell l hst G w w3 h p0 o2 hc4) (cwV 1 hts gX6_seen_X6_requireCell rfl rfl rfl (by decide +kernel) ⟨(Nat.le_of_ble_eq_true rfl), (Nat.le_of_ble_eq_true rfl)⟩) (m_preV (C := RX6) (T := TX6) (N := 8) hM hP hS rfl (by decide) hk1) rfl rfl hl.1 rfl (lv_room (Nat.le_of_ble_eq_true rfl)) dX6_seen_3 ⟨(Nat.le_of_ble_eq_true rfl), (Nat.le_of_ble_eq_true rfl)⟩) hS ⟨⟨(Nat.le_of_ble_eq_true rfl), (Nat.le_of_ble_eq_true rfl)⟩, (Nat.le_of_ble_eq_true rfl), (Nat.le_of_ble_eq_true rfl)⟩ hout hlocks hx6 (fun r5 ho7 H locs hP hS => ?_)
  have hd := hd r5 ho7
  obtain ⟨hk8, hd⟩ := m_g_e hd
  obtain ⟨r9, w10, hc11, hd⟩ := m_b_e hd
  refine m_callq (k := 1) (n := 6) (va_runV (As := [.ref (r5)]) (rest := []) ⟨hx, hb, hml, hown, hts⟩ (c_X6_lastRunMadeOf l G w3 w10 h r5 r9 hc11) (cwV 1 hts gX6_seen_X6_lastRunMadeOf rfl rfl rfl (by decide +kernel) ⟨(Nat.le_of_ble_eq_true rfl), (Nat.le_of_ble_eq_true rfl)⟩) (m_preV (C := RX6) (T := TX6) (N := 8) hM hP hS rfl (by decide) hk8) rfl rfl hl.1 rfl (lv_room (Nat.le_of_ble_eq_true rfl)) dX6_seen_6 ⟨(Nat.le_of_ble_eq_true rfl), (Nat.le_of_ble_eq_true rfl)⟩) hS ⟨(Nat.le_of_ble_eq_true rfl), (Nat.le_of_ble_eq_true rfl)⟩ (fun H locs hP hS => ?_)
  cases r9 with
  | none =>
    have hd := m_n_e hd
    refine lv_astore_nN (lv' := [(2, .null), (0, .ref (h)), (1, .int (p0))]) hx hb dX6_seen_9 rfl hl (by decide) rfl (fun ls hl => ?_)
    refine lv_aload_nN hx hb dX6_seen_10 rfl (lv_at hl 0 rfl) ?_
    refine lv_ifnonnullN hx hb dX6_seen_11 ?_
    refine lv_iconst (v := 0) hx hb dX6_seen_14 (by decide) ?_
    refine lv_goto (tgt := 22) hx hb dX6_seen_15 (by decide) ?_
    refine W.widen (k := 1) (n := 6) (Nat.le_of_ble_eq_true rfl) (Nat.le_of_ble_eq_true rfl) ?_
    exact J22 w10 0 _ _ _ hd hP hS (lv_sub hl [] rfl)
  | some q12 =>
    have hd := m_n_s hd
    refine lv_astore_n (lv' := [(2, .ref (q12)), (0, .ref (h)), (1, .int (p0))]) hx hb dX6_seen_9 rfl hl (by decide) rfl (fun ls hl => ?_)
    refine lv_aload_n hx hb dX6_seen_10 rfl (lv_at hl 0 rfl) ?_
    refine lv_ifnonnull (tgt := 18) hx hb dX6_seen_11 (by decide) ?_
    refine lv_aload_n hx hb dX6_seen_18 rfl (lv_at hl 0 rfl) ?_
    obtain ⟨hk13, hd⟩ := m_g_e hd
    refine m_getI (C := RX3) (T := TX3) (N := 7) (own := RX6) (ref := RX3) hx hb hts hin6 hown hM.1 hP 6 rfl 5 hk13 (by decide) (hts (.fieldLink RX6 208 "CellNotebook$Run" "namesSeen" "I") (by decide +kernel)) (fun _ h9 => h9) dX6_seen_19 ?_
    refine W.widen (k := 1) (n := 6) (Nat.le_of_ble_eq_true rfl) (Nat.le_of_ble_eq_true rfl) ?_
    exact J22 w10 (m_fi w10 6 5 q12) _ _ _ hd hP hS (lv_sub hl [] rfl)


noncomputable def e_X6_timesSeen_40 (k8 : mW → Nat → Int32 → Int32 → Int32 → Option ((Int32 ⊕ String) × mW)) (w : mW) (x0 : Nat) (x1 : Int32) (x2 : Int32) (x3 : Int32) : Option ((Int32 ⊕ String) × mW) := k8 w x0 x1 x2 (x3 + 1)
noncomputable def e_X6_timesSeen_8_b (k8 : mW → Nat → Int32 → Int32 → Int32 → Option ((Int32 ⊕ String) × mW)) (w : mW) (x0 : Nat) (x1 : Int32) (x2 : Int32) (x3 : Int32) : Option ((Int32 ⊕ String) × mW) := m_g (m_kd w x0 = 10) <| m_o (m_fr w 9 2 x0) fun r108 => m_g (m_kd w r108 = 3) <| m_b (e_Jx4a65c_size_8abf5 w r108) fun r110 w111 => if r110 ≤ x3 then (some (.inl x2, w111)) else (m_g (m_kd w111 x0 = 10) <| m_o (m_fr w111 9 2 x0) fun r115 => m_g (m_kd w111 r115 = 3) <| m_b (e_Jx4a65c_get_915e3 w111 r115 x3) fun r117 w118 => m_g (m_kd w118 r117 = 7) <| m_b (e_X3_sawName w118 r117 x1) fun r121 w122 => if r121 = (0 : Int32) then (e_X6_timesSeen_40 k8 w122 x0 x1 x2 x3) else (e_X6_timesSeen_40 k8 w122 x0 x1 (x2 + 1) x3))
noncomputable def e_X6_timesSeen_8 (n : Nat) : mW → Nat → Int32 → Int32 → Int32 → Option ((Int32 ⊕ String) × mW) := Nat.rec (motive := fun _ => mW → Nat → Int32 → Int32 → Int32 → Option ((Int32 ⊕ String) × mW)) (fun _ _ _ _ _ => none) (fun _ k => e_X6_timesSeen_8_b  k) n
noncomputable def e_X6_timesSeen (w : mW) (h : Nat) (p0 : Int32) : Option ((Int32 ⊕ String) × mW) := m_t (e_X6_requireName w p0) fun r4 w2 => e_X6_timesSeen_8 m_N w2 h p0 0 0
set_option maxHeartbeats 1000000 in
set_option maxRecDepth 100000 in
theorem c_X6_timesSeen (l : Launch) (hst : l.stackTraces = false) (G : m_G) (w w' : mW) (h : Nat) (p0 : Int32) (o : Int32 ⊕ String) (hd : e_X6_timesSeen w h p0 = some (o, w')) : vx_Met l yX6_timesSeen wsX6_timesSeen ({ frames := 9, cells := 1, slots := 6, locals := 160 } : Room) (m_Pc G w [.ref (h), .int (p0)]) (m_Xi G o w') (m_XC G o w') 1 6 (fun q => G.1 ≤ q) := by
  refine vx_ofW (cc := cX6_timesSeen) (maxL := 4) (ret := (some .int)) (by decide +kernel) rfl ?_
  intro p e s m args below meth c s₁ B hml hout hv
  obtain ⟨rfl, hM, hP⟩ := hv
  have hx := B.exec
  have hb := B.bytes
  have hr := B.returns
  have hts := atoms_spec (ws := wsX6_timesSeen) B.pre
  have hown : s.vm.findClass RX6 = some m.cls := findClass_of_methodNamed B.named
  have hlocks := B.notSynchronized
  have hin9 : ∀ w ∈ u_ws RX6 TX6 8, w ∈ wsX6_timesSeen := by decide +kernel
  have hS : va_S (fun q => G.1 ≤ q) s.heap s.heap [] := va_S.rf
  have J8 : ∀ (n8 : Nat) (w : mW) (x0 : Nat) (x1 : Int32) (x2 : Int32) (x3 : Int32) (H : Heap) (locs : List Loc) (ls : Array Slot), e_X6_timesSeen_8 n8 w x0 x1 x2 x3 = some (o, w') → mP G w H → va_S (fun q => G.1 ≤ q) s.heap H locs → lv_has ls 4 [(0, .ref (x0)), (1, .int (x1)), (2, .int (x2)), (3, .int (x3))] → W p l e ({ frames := 9, cells := 1, slots := 6, locals := 160 } : Room) s m ([.ref (h), .int (p0)] : List Value).toArray below meth c H locs 1 6 (vx_MQ below (m_Xi G o w') (m_XC G o w') ([.ref (h), .int (p0)] : List Value).toArray s 1 6 (fun q => G.1 ≤ q)) (F0 m 8 ls []) := by
    intro n8
    induction n8 with
    | zero => intro w x0 x1 x2 x3 H locs ls hd; exact absurd (show (none : Option ((Int32 ⊕ String) × mW)) = some _ from hd) (fun h => nomatch h)
    | succ n8 ih8 =>
      have J40 : ∀ (w : mW) (x0 : Nat) (x1 : Int32) (x2 : Int32) (x3 : Int32) (H : Heap) (locs : List Loc) (ls : Array Slot), e_X6_timesSeen_40 (e_X6_timesSeen_8 n8) w x0 x1 x2 x3 = some (o, w') → mP G w H → va_S (fun q => G.1 ≤ q) s.heap H locs → lv_has ls 4 [(0, .ref (x0)), (1, .int (x1)), (2, .int (x2)), (3, .int (x3))] → W p l e ({ frames := 9, cells := 1, slots := 6, locals := 160 } : Room) s m ([.ref (h), .int (p0)] : List Value).toArray below meth c H locs 1 6 (vx_MQ below (m_Xi G o w') (m_XC G o w') ([.ref (h), .int (p0)] : List Value).toArray s 1 6 (fun q => G.1 ≤ q)) (F0 m 40 ls []) := by
        intro w x0 x1 x2 x3 H locs ls hd hP hS hl
        refine lv_iinc (v := x3 + 1) (lv' := [(3, .int (x3 + 1)), (0, .ref (x0)), (1, .int (x1)), (2, .int (x2))]) hx hb dX6_timesSeen_40 hl (k := 3) rfl rfl (by decide) rfl (fun ls hl => ?_)
        refine lv_goto (tgt := 8) hx hb dX6_timesSeen_43 (by decide) ?_
        refine W.widen (k := 1) (n := 6) (Nat.le_of_ble_eq_true rfl) (Nat.le_of_ble_eq_true rfl) ?_
        exact ih8 w x0 x1 x2 (x3 + 1) _ _ _ hd hP hS (lv_sub hl [1, 2, 3, 0] rfl)
      intro w x0 x1 x2 x3 H locs ls hd hP hS hl
      have hd : e_X6_timesSeen_8_b (e_X6_timesSeen_8 n8) w x0 x1 x2 x3 = some (o, w') := hd
      refine lv_iload_n hx hb dX6_timesSeen_8 rfl (lv_at hl 3 rfl) ?_
      refine lv_aload_n hx hb dX6_timesSeen_9 rfl (lv_at hl 0 rfl) ?_
      obtain ⟨hk107, hd⟩ := m_g_e hd
      obtain ⟨r108, hr108, hd⟩ := m_o_e hd
      refine m_getR (C := RX6) (T := TX6) (N := 8) (own := RX6) (ref := RX6) hx hb hts hin9 hown hM.1 hP 9 rfl 2 (r := r108) ⟨hk107, hr108⟩ (by decide) (hts (.fieldLink RX6 19 "CellNotebook" "allRuns" "Ljava/util/ArrayList;") (by decide +kernel)) (fun _ h9 => h9) dX6_timesSeen_10 ?_
      obtain ⟨hk109, hd⟩ := m_g_e hd
      obtain ⟨r110, w111, hc112, hd⟩ := m_b_e hd
      refine m_calli (k := 1) (n := 6) (va_runV (As := []) (rest := [.int (x3)]) ⟨hx, hb, hml, hown, hts⟩ (c_Jx4a65c_size_8abf5 l G w w111 r108 r110 hc112) (cwV 0 hts gX6_timesSeen_Jx4a65c_size_8abf5 rfl rfl rfl (by decide +kernel) ⟨(Nat.le_of_ble_eq_true rfl), (Nat.le_of_ble_eq_true rfl)⟩) (m_preV (C := RJx4a65c) (T := TJx4a65c) (N := 3) hM hP hS rfl (by decide) hk109) rfl rfl hl.1 rfl (lv_room (Nat.le_of_ble_eq_true rfl)) dX6_timesSeen_13 ⟨(Nat.le_of_ble_eq_true rfl), (Nat.le_of_ble_eq_true rfl)⟩) hS ⟨(Nat.le_of_ble_eq_true rfl), (Nat.le_of_ble_eq_true rfl)⟩ (fun H locs hP hS => ?_)
      refine lv_icmp_ge (tgt := 46) hx hb dX6_timesSeen_16 (by decide) (fun c113 => ?_) (fun c113 => ?_)
      · have hd := m_i_t c113 hd
        refine lv_iload_n hx hb dX6_timesSeen_46 rfl (lv_at hl 2 rfl) ?_
        obtain ⟨e1, e2⟩ := m_s_e hd
        refine vx_ret ?_
        refine W.widen (k := 1) (n := 6) (Nat.le_of_ble_eq_true rfl) (Nat.le_of_ble_eq_true rfl) ?_
        exact W.iret hx hb hr (fun t ht hW => ⟨⟨_, w111, rfl, ⟨e1, e2⟩, by show mP _ _ t.heap; rw [ht]; exact hP⟩, hS.F ht⟩) hS.2.2 dX6_timesSeen_47
      · have hd := m_i_f c113 hd
        refine lv_aload_n hx hb dX6_timesSeen_19 rfl (lv_at hl 0 rfl) ?_
        obtain ⟨hk114, hd⟩ := m_g_e hd
        obtain ⟨r115, hr115, hd⟩ := m_o_e hd
        refine m_getR (C := RX6) (T := TX6) (N := 8) (own := RX6) (ref := RX6) hx hb hts hin9 hown hM.1 hP 9 rfl 2 (r := r115) ⟨hk114, hr115⟩ (by decide) (hts (.fieldLink RX6 19 "CellNotebook" "allRuns" "Ljava/util/ArrayList;") (by decide +kernel)) (fun _ h9 => h9) dX6_timesSeen_20 ?_
        refine lv_iload_n hx hb dX6_timesSeen_23 rfl (lv_at hl 3 rfl) ?_
        obtain ⟨hk116, hd⟩ := m_g_e hd
        obtain ⟨r117, w118, hc119, hd⟩ := m_b_e hd
        refine m_callr (k := 1) (n := 6) (va_runV (As := [.int (x3)]) (rest := []) ⟨hx, hb, hml, hown, hts⟩ (c_Jx4a65c_get_915e3 l G w111 w118 r115 x3 r117 hc119) (cwV 1 hts gX6_timesSeen_Jx4a65c_get_915e3 rfl rfl rfl (by decide +kernel) ⟨(Nat.le_of_ble_eq_true rfl), (Nat.le_of_ble_eq_true rfl)⟩) (m_preV (C := RJx4a65c) (T := TJx4a65c) (N := 3) hM hP hS rfl (by decide) hk116) rfl rfl hl.1 rfl (lv_room (Nat.le_of_ble_eq_true rfl)) dX6_timesSeen_24 ⟨(Nat.le_of_ble_eq_true rfl), (Nat.le_of_ble_eq_true rfl)⟩) hS ⟨(Nat.le_of_ble_eq_true rfl), (Nat.le_of_ble_eq_true rfl)⟩ (fun H locs hP hS => ?_)
        obtain ⟨hk120, hd⟩ := m_g_e hd
        refine va_castS (own := RX6) (nm := RX3) hx hb hown (hts (.classLink RX6 198 RX3) (by decide +kernel)) (hM.1.1 6 _ rfl).2 (m_recv hM.1 hP hk120 (by decide) rfl) dX6_timesSeen_27 ?_
        refine lv_iload_n hx hb dX6_timesSeen_30 rfl (lv_at hl 1 rfl) ?_
        obtain ⟨r121, w122, hc123, hd⟩ := m_b_e hd
        refine m_calli (k := 1) (n := 6) (va_runV (As := [.int (x1)]) (rest := []) ⟨hx, hb, hml, hown, hts⟩ (c_X3_sawName l G w118 w122 r117 x1 r121 hc123) (cwV 1 hts gX6_timesSeen_X3_sawName rfl rfl rfl (by decide +kernel) ⟨(Nat.le_of_ble_eq_true rfl), (Nat.le_of_ble_eq_true rfl)⟩) (m_preV (C := RX3) (T := TX3) (N := 7) hM hP hS rfl (by decide) hk120) rfl rfl hl.1 rfl (lv_room (Nat.le_of_ble_eq_true rfl)) dX6_timesSeen_31 ⟨(Nat.le_of_ble_eq_true rfl), (Nat.le_of_ble_eq_true rfl)⟩) hS ⟨(Nat.le_of_ble_eq_true rfl), (Nat.le_of_ble_eq_true rfl)⟩ (fun H locs hP hS => ?_)
        refine lv_if_eq (tgt := 40) hx hb dX6_timesSeen_34 (by decide) (fun c124 => ?_) (fun c124 => ?_)
        · have hd := m_i_t c124 hd
          refine W.widen (k := 1) (n := 6) (Nat.le_of_ble_eq_true rfl) (Nat.le_of_ble_eq_true rfl) ?_
          exact J40 w122 x0 x1 x2 x3 _ _ _ hd hP hS (lv_sub hl [0, 1, 2, 3] rfl)
        · have hd := m_i_f c124 hd
          refine lv_iinc (v := x2 + 1) (lv' := [(2, .int (x2 + 1)), (0, .ref (x0)), (1, .int (x1)), (3, .int (x3))]) hx hb dX6_timesSeen_37 hl (k := 2) rfl rfl (by decide) rfl (fun ls hl => ?_)
          refine W.widen (k := 1) (n := 6) (Nat.le_of_ble_eq_true rfl) (Nat.le_of_ble_eq_true rfl) ?_
          exact J40 w122 x0 x1 (x2 + 1) x3 _ _ _ hd hP hS (lv_sub hl [1, 2, 0, 3] rfl)
  have hl := lv_entry ([.ref (h), .int (p0)]) (n := 4) (Nat.le_of_ble_eq_true rfl)
  rw [lg_entry_eq]
  generalize (lg_sl ([.ref (h), .int (p0)]) ++ List.replicate (4 - (lg_sl ([.ref (h), .int (p0)])).length) Slot.unset).toArray = ls at hl ⊢
  have hl : lv_has ls 4 [(0, .ref (h)), (1, .int (p0))] := hl
  refine lv_iload_n hx hb dX6_timesSeen_0 rfl (lv_at hl 1 rfl) ?_
  obtain ⟨o1, w2, hc3, hx5, hd⟩ := m_t_e hd
  refine m_callxv (k := 1) (n := 6) (vx_runS (As := [.int (p0)]) (rest := []) ⟨hx, hb, hml, hown, hts⟩ (c_X6_requireName l hst G w w2 p0 o1 hc3) (va_cwS 1 hts gX6_timesSeen_X6_requireName rfl rfl rfl (by decide +kernel) ⟨(Nat.le_of_ble_eq_true rfl), (Nat.le_of_ble_eq_true rfl)⟩) (m_preS hM hP hS) rfl rfl hl.1 rfl (lv_room (Nat.le_of_ble_eq_true rfl)) dX6_timesSeen_1 ⟨(Nat.le_of_ble_eq_true rfl), (Nat.le_of_ble_eq_true rfl)⟩) hS ⟨⟨(Nat.le_of_ble_eq_true rfl), (Nat.le_of_ble_eq_true rfl)⟩, (Nat.le_of_ble_eq_true rfl), (Nat.le_of_ble_eq_true rfl)⟩ hout hlocks hx5 (fun r4 ho6 H locs hP hS => ?_)
  have hd := hd r4 ho6
  refine lv_iconst (v := 0) hx hb dX6_timesSeen_4 (by decide) ?_
  refine lv_istore_n (lv' := [(2, .int (0)), (0, .ref (h)), (1, .int (p0))]) hx hb dX6_timesSeen_5 rfl hl (by decide) rfl (fun ls hl => ?_)
  refine lv_iconst (v := 0) hx hb dX6_timesSeen_6 (by decide) ?_
  refine lv_istore_n (lv' := [(3, .int (0)), (2, .int (0)), (0, .ref (h)), (1, .int (p0))]) hx hb dX6_timesSeen_7 rfl hl (by decide) rfl (fun ls hl => ?_)
  refine W.widen (k := 1) (n := 6) (Nat.le_of_ble_eq_true rfl) (Nat.le_of_ble_eq_true rfl) ?_
  exact J8 m_N w2 h p0 0 0 _ _ _ hd hP hS (lv_sub hl [2, 3, 1, 0] rfl)


noncomputable def e_X6_why_29 (w : mW) (s0 : Int32) : Option ((Int32 ⊕ String) × mW) := some (.inl s0, w)
noncomputable def e_X6_why (w : mW) (h : Nat) (p0 : Int32) : Option ((Int32 ⊕ String) × mW) := m_g (m_kd w h = 10) <| m_t (e_X6_requireCell w h p0) fun r5 w3 => m_g (m_kd w3 h = 10) <| m_b (e_X6_lastRunMadeOf w3 h r5) fun r9 w10 => m_n r9 (e_X6_why_29 w10 0) (fun q12 => m_g (m_kd w10 h = 10) <| m_b (e_X6_staleCells w10 h ((-1))) fun r14 w15 => m_g (m_kd w15 h = 10) <| m_b (e_X6_reasons w15 h q12 ((-1)) r14) fun r18 w19 => e_X6_why_29 w19 r18)
set_option maxHeartbeats 1000000 in
set_option maxRecDepth 100000 in
theorem c_X6_why (l : Launch) (hst : l.stackTraces = false) (G : m_G) (w w' : mW) (h : Nat) (p0 : Int32) (o : Int32 ⊕ String) (hd : e_X6_why w h p0 = some (o, w')) : vx_Met l yX6_why wsX6_why ({ frames := 9, cells := 1, slots := 6, locals := 161 } : Room) (m_Pc G w [.ref (h), .int (p0)]) (m_Xi G o w') (m_XC G o w') 1 6 (fun q => G.1 ≤ q) := by
  refine vx_ofW (cc := cX6_why) (maxL := 3) (ret := (some .int)) (by decide +kernel) rfl ?_
  intro p e s m args below meth c s₁ B hml hout hv
  obtain ⟨rfl, hM, hP⟩ := hv
  have hx := B.exec
  have hb := B.bytes
  have hr := B.returns
  have hts := atoms_spec (ws := wsX6_why) B.pre
  have hown : s.vm.findClass RX6 = some m.cls := findClass_of_methodNamed B.named
  have hlocks := B.notSynchronized
  have hS : va_S (fun q => G.1 ≤ q) s.heap s.heap [] := va_S.rf
  have J29 : ∀ (w : mW) (s0 : Int32) (H : Heap) (locs : List Loc) (ls : Array Slot), e_X6_why_29 w s0 = some (o, w') → mP G w H → va_S (fun q => G.1 ≤ q) s.heap H locs → lv_has ls 3 [] → W p l e ({ frames := 9, cells := 1, slots := 6, locals := 161 } : Room) s m ([.ref (h), .int (p0)] : List Value).toArray below meth c H locs 1 6 (vx_MQ below (m_Xi G o w') (m_XC G o w') ([.ref (h), .int (p0)] : List Value).toArray s 1 6 (fun q => G.1 ≤ q)) (F0 m 29 ls [.int (s0)]) := by
    intro w s0 H locs ls hd hP hS hl
    obtain ⟨e1, e2⟩ := m_s_e hd
    refine vx_ret ?_
    refine W.widen (k := 1) (n := 6) (Nat.le_of_ble_eq_true rfl) (Nat.le_of_ble_eq_true rfl) ?_
    exact W.iret hx hb hr (fun t ht hW => ⟨⟨_, w, rfl, ⟨e1, e2⟩, by show mP _ _ t.heap; rw [ht]; exact hP⟩, hS.F ht⟩) hS.2.2 dX6_why_29
  have hl := lv_entry ([.ref (h), .int (p0)]) (n := 3) (Nat.le_of_ble_eq_true rfl)
  rw [lg_entry_eq]
  generalize (lg_sl ([.ref (h), .int (p0)]) ++ List.replicate (3 - (lg_sl ([.ref (h), .int (p0)])).length) Slot.unset).toArray = ls at hl ⊢
  have hl : lv_has ls 3 [(0, .ref (h)), (1, .int (p0))] := hl
  refine lv_aload_n hx hb dX6_why_0 rfl (lv_at hl 0 rfl) ?_
  refine lv_aload_n hx hb dX6_why_1 rfl (lv_at hl 0 rfl) ?_
  refine lv_iload_n hx hb dX6_why_2 rfl (lv_at hl 1 rfl) ?_
  obtain ⟨hk1, hd⟩ := m_g_e hd
  obtain ⟨o2, w3, hc4, hx6, hd⟩ := m_t_e hd
  refine m_callxq (k := 1) (n := 6) (vx_runV (As := [.int (p0)]) (rest := [.ref (h)]) ⟨hx, hb, hml, hown, hts⟩ (c_X6_requireCell l hst G w w3 h p0 o2 hc4) (cwV 1 hts gX6_why_X6_requireCell rfl rfl rfl (by decide +kernel) ⟨(Nat.le_of_ble_eq_true rfl), (Nat.le_of_ble_eq_true rfl)⟩) (m_preV (C := RX6) (T := TX6) (N := 8) hM hP hS rfl (by decide) hk1) rfl rfl hl.1 rfl (lv_room (Nat.le_of_ble_eq_true rfl)) dX6_why_3 ⟨(Nat.le_of_ble_eq_true rfl), (Nat.le_of_ble_eq_true rfl)⟩) hS ⟨⟨(Nat.le_of_ble_eq_true rfl), (Nat.le_of_ble_eq_true rfl)⟩, (Nat.le_of_ble_eq_true rfl), (Nat.le_of_ble_eq_true rfl)⟩ hout hlocks hx6 (fun r5 ho7 H locs hP hS => ?_)
  have hd := hd r5 ho7
  obtain ⟨hk8, hd⟩ := m_g_e hd
  obtain ⟨r9, w10, hc11, hd⟩ := m_b_e hd
  refine m_callq (k := 1) (n := 6) (va_runV (As := [.ref (r5)]) (rest := []) ⟨hx, hb, hml, hown, hts⟩ (c_X6_lastRunMadeOf l G w3 w10 h r5 r9 hc11) (cwV 1 hts gX6_why_X6_lastRunMadeOf rfl rfl rfl (by decide +kernel) ⟨(Nat.le_of_ble_eq_true rfl), (Nat.le_of_ble_eq_true rfl)⟩) (m_preV (C := RX6) (T := TX6) (N := 8) hM hP hS rfl (by decide) hk8) rfl rfl hl.1 rfl (lv_room (Nat.le_of_ble_eq_true rfl)) dX6_why_6 ⟨(Nat.le_of_ble_eq_true rfl), (Nat.le_of_ble_eq_true rfl)⟩) hS ⟨(Nat.le_of_ble_eq_true rfl), (Nat.le_of_ble_eq_true rfl)⟩ (fun H locs hP hS => ?_)
  cases r9 with
  | none =>
    have hd := m_n_e hd
    refine lv_astore_nN (lv' := [(2, .null), (0, .ref (h)), (1, .int (p0))]) hx hb dX6_why_9 rfl hl (by decide) rfl (fun ls hl => ?_)
    refine lv_aload_nN hx hb dX6_why_10 rfl (lv_at hl 0 rfl) ?_
    refine lv_ifnonnullN hx hb dX6_why_11 ?_
    refine lv_iconst (v := 0) hx hb dX6_why_14 (by decide) ?_
    refine lv_goto (tgt := 29) hx hb dX6_why_15 (by decide) ?_
    refine W.widen (k := 1) (n := 6) (Nat.le_of_ble_eq_true rfl) (Nat.le_of_ble_eq_true rfl) ?_
    exact J29 w10 0 _ _ _ hd hP hS (lv_sub hl [] rfl)
  | some q12 =>
    have hd := m_n_s hd
    refine lv_astore_n (lv' := [(2, .ref (q12)), (0, .ref (h)), (1, .int (p0))]) hx hb dX6_why_9 rfl hl (by decide) rfl (fun ls hl => ?_)
    refine lv_aload_n hx hb dX6_why_10 rfl (lv_at hl 0 rfl) ?_
    refine lv_ifnonnull (tgt := 18) hx hb dX6_why_11 (by decide) ?_
    refine lv_aload_n hx hb dX6_why_18 rfl (lv_at hl 1 rfl) ?_
    refine lv_aload_n hx hb dX6_why_19 rfl (lv_at hl 0 rfl) ?_
    refine lv_iconst (v := (-1)) hx hb dX6_why_20 (by decide) ?_
    refine lv_aload_n hx hb dX6_why_21 rfl (lv_at hl 1 rfl) ?_
    refine lv_iconst (v := (-1)) hx hb dX6_why_22 (by decide) ?_
    obtain ⟨hk13, hd⟩ := m_g_e hd
    obtain ⟨r14, w15, hc16, hd⟩ := m_b_e hd
    refine m_calli (k := 1) (n := 6) (va_runV (As := [.int ((-1))]) (rest := [.int ((-1)), .ref (q12), .ref (h)]) ⟨hx, hb, hml, hown, hts⟩ (c_X6_staleCells l G w10 w15 h ((-1)) r14 hc16) (cwV 1 hts gX6_why_X6_staleCells rfl rfl rfl (by decide +kernel) ⟨(Nat.le_of_ble_eq_true rfl), (Nat.le_of_ble_eq_true rfl)⟩) (m_preV (C := RX6) (T := TX6) (N := 8) hM hP hS rfl (by decide) hk13) rfl rfl hl.1 rfl (lv_room (Nat.le_of_ble_eq_true rfl)) dX6_why_23 ⟨(Nat.le_of_ble_eq_true rfl), (Nat.le_of_ble_eq_true rfl)⟩) hS ⟨(Nat.le_of_ble_eq_true rfl), (Nat.le_of_ble_eq_true rfl)⟩ (fun H locs hP hS => ?_)
    obtain ⟨hk17, hd⟩ := m_g_e hd
    obtain ⟨r18, w19, hc20, hd⟩ := m_b_e hd
    refine m_calli (k := 1) (n := 6) (va_runV (As := [.ref (q12), .int ((-1)), .int (r14)]) (rest := []) ⟨hx, hb, hml, hown, hts⟩ (c_X6_reasons l G w15 w19 h q12 ((-1)) r14 r18 hc20) (cwV 3 hts gX6_why_X6_reasons rfl rfl rfl (by decide +kernel) ⟨(Nat.le_of_ble_eq_true rfl), (Nat.le_of_ble_eq_true rfl)⟩) (m_preV (C := RX6) (T := TX6) (N := 8) hM hP hS rfl (by decide) hk17) rfl rfl hl.1 rfl (lv_room (Nat.le_of_ble_eq_true rfl)) dX6_why_26 ⟨(Nat.le_of_ble_eq_true rfl), (Nat.le_of_ble_eq_true rfl)⟩) hS ⟨(Nat.le_of_ble_eq_true rfl), (Nat.le_of_ble_eq_true rfl)⟩ (fun H locs hP hS => ?_)
    refine W.widen (k := 1) (n := 6) (Nat.le_of_ble_eq_true rfl) (Nat.le_of_ble_eq_true rfl) ?_
    exact J29 w19 r18 _ _ _ hd hP hS (lv_sub hl [] rfl)


noncomputable def e_X6_stale (w : mW) (h : Nat) : Option (Int32 × mW) := m_g (m_kd w h = 10) <| m_b (e_X6_staleCells w h ((-1))) fun r2 w3 => some (r2, w3)
set_option maxHeartbeats 1000000 in
set_option maxRecDepth 100000 in
theorem c_X6_stale (l : Launch) (G : m_G) (w w' : mW) (h : Nat) (r : Int32) (hd : e_X6_stale w h = some (r, w')) : Met l yX6_stale wsX6_stale ({ frames := 7, cells := 0, slots := 0, locals := 158 } : Room) (m_Pc G w [.ref (h)]) (m_Qi G r w') 0 0 (fun q => G.1 ≤ q) := by
  refine Met.ofW (cc := cX6_stale) (maxL := 1) (ret := (some .int)) (by decide +kernel) rfl ?_
  intro p e s m args below meth c s₁ B hml hv
  obtain ⟨rfl, hM, hP⟩ := hv
  have hx := B.exec
  have hb := B.bytes
  have hr := B.returns
  have hts := atoms_spec (ws := wsX6_stale) B.pre
  have hown : s.vm.findClass RX6 = some m.cls := findClass_of_methodNamed B.named
  have hlocks := B.notSynchronized
  have hS : va_S (fun q => G.1 ≤ q) s.heap s.heap [] := va_S.rf
  have hl := lv_entry ([.ref (h)]) (n := 1) (Nat.le_of_ble_eq_true rfl)
  rw [lg_entry_eq]
  generalize (lg_sl ([.ref (h)]) ++ List.replicate (1 - (lg_sl ([.ref (h)])).length) Slot.unset).toArray = ls at hl ⊢
  have hl : lv_has ls 1 [(0, .ref (h))] := hl
  refine lv_aload_n hx hb dX6_stale_0 rfl (lv_at hl 0 rfl) ?_
  refine lv_iconst (v := (-1)) hx hb dX6_stale_1 (by decide) ?_
  obtain ⟨hk1, hd⟩ := m_g_e hd
  obtain ⟨r2, w3, hc4, hd⟩ := m_b_e hd
  refine m_calli (k := 0) (n := 0) (va_runV (As := [.int ((-1))]) (rest := []) ⟨hx, hb, hml, hown, hts⟩ (c_X6_staleCells l G w w3 h ((-1)) r2 hc4) (cwV 1 hts gX6_stale_X6_staleCells rfl rfl rfl (by decide +kernel) ⟨(Nat.le_of_ble_eq_true rfl), (Nat.le_of_ble_eq_true rfl)⟩) (m_preV (C := RX6) (T := TX6) (N := 8) hM hP hS rfl (by decide) hk1) rfl rfl hl.1 rfl (lv_room (Nat.le_of_ble_eq_true rfl)) dX6_stale_2 ⟨(Nat.le_of_ble_eq_true rfl), (Nat.le_of_ble_eq_true rfl)⟩) hS ⟨(Nat.le_of_ble_eq_true rfl), (Nat.le_of_ble_eq_true rfl)⟩ (fun H locs hP hS => ?_)
  obtain ⟨e1, e2⟩ := m_s_e hd
  refine W.widen (k := 0) (n := 0) (Nat.le_of_ble_eq_true rfl) (Nat.le_of_ble_eq_true rfl) ?_
  exact W.iret hx hb hr (fun t ht hW => ⟨⟨_, w3, rfl, ⟨e1, e2⟩, by show mP _ _ t.heap; rw [ht]; exact hP⟩, hS.F ht⟩) hS.2.2 dX6_stale_5


noncomputable def e_X6_wouldBeStale (w : mW) (h : Nat) (p0 : Int32) : Option ((Int32 ⊕ String) × mW) := m_t (e_X6_requireName w p0) fun r4 w2 => m_g (m_kd w2 h = 10) <| m_b (e_X6_staleCells w2 h p0) fun r8 w9 => m_g (m_kd w9 h = 10) <| m_b (e_X6_staleCells w9 h ((-1))) fun r12 w13 => some (.inl (r8 &&& (r12 ^^^ ((-1)))), w13)
set_option maxHeartbeats 1000000 in
set_option maxRecDepth 100000 in
theorem c_X6_wouldBeStale (l : Launch) (hst : l.stackTraces = false) (G : m_G) (w w' : mW) (h : Nat) (p0 : Int32) (o : Int32 ⊕ String) (hd : e_X6_wouldBeStale w h p0 = some (o, w')) : vx_Met l yX6_wouldBeStale wsX6_wouldBeStale ({ frames := 9, cells := 1, slots := 6, locals := 160 } : Room) (m_Pc G w [.ref (h), .int (p0)]) (m_Xi G o w') (m_XC G o w') 1 6 (fun q => G.1 ≤ q) := by
  refine vx_ofW (cc := cX6_wouldBeStale) (maxL := 2) (ret := (some .int)) (by decide +kernel) rfl ?_
  intro p e s m args below meth c s₁ B hml hout hv
  obtain ⟨rfl, hM, hP⟩ := hv
  have hx := B.exec
  have hb := B.bytes
  have hr := B.returns
  have hts := atoms_spec (ws := wsX6_wouldBeStale) B.pre
  have hown : s.vm.findClass RX6 = some m.cls := findClass_of_methodNamed B.named
  have hlocks := B.notSynchronized
  have hS : va_S (fun q => G.1 ≤ q) s.heap s.heap [] := va_S.rf
  have hl := lv_entry ([.ref (h), .int (p0)]) (n := 2) (Nat.le_of_ble_eq_true rfl)
  rw [lg_entry_eq]
  generalize (lg_sl ([.ref (h), .int (p0)]) ++ List.replicate (2 - (lg_sl ([.ref (h), .int (p0)])).length) Slot.unset).toArray = ls at hl ⊢
  have hl : lv_has ls 2 [(0, .ref (h)), (1, .int (p0))] := hl
  refine lv_iload_n hx hb dX6_wouldBeStale_0 rfl (lv_at hl 1 rfl) ?_
  obtain ⟨o1, w2, hc3, hx5, hd⟩ := m_t_e hd
  refine m_callxv (k := 1) (n := 6) (vx_runS (As := [.int (p0)]) (rest := []) ⟨hx, hb, hml, hown, hts⟩ (c_X6_requireName l hst G w w2 p0 o1 hc3) (va_cwS 1 hts gX6_wouldBeStale_X6_requireName rfl rfl rfl (by decide +kernel) ⟨(Nat.le_of_ble_eq_true rfl), (Nat.le_of_ble_eq_true rfl)⟩) (m_preS hM hP hS) rfl rfl hl.1 rfl (lv_room (Nat.le_of_ble_eq_true rfl)) dX6_wouldBeStale_1 ⟨(Nat.le_of_ble_eq_true rfl), (Nat.le_of_ble_eq_true rfl)⟩) hS ⟨⟨(Nat.le_of_ble_eq_true rfl), (Nat.le_of_ble_eq_true rfl)⟩, (Nat.le_of_ble_eq_true rfl), (Nat.le_of_ble_eq_true rfl)⟩ hout hlocks hx5 (fun r4 ho6 H locs hP hS => ?_)
  have hd := hd r4 ho6
  refine lv_aload_n hx hb dX6_wouldBeStale_4 rfl (lv_at hl 0 rfl) ?_
  refine lv_iload_n hx hb dX6_wouldBeStale_5 rfl (lv_at hl 1 rfl) ?_
  obtain ⟨hk7, hd⟩ := m_g_e hd
  obtain ⟨r8, w9, hc10, hd⟩ := m_b_e hd
  refine m_calli (k := 1) (n := 6) (va_runV (As := [.int (p0)]) (rest := []) ⟨hx, hb, hml, hown, hts⟩ (c_X6_staleCells l G w2 w9 h p0 r8 hc10) (cwV 1 hts gX6_wouldBeStale_X6_staleCells rfl rfl rfl (by decide +kernel) ⟨(Nat.le_of_ble_eq_true rfl), (Nat.le_of_ble_eq_true rfl)⟩) (m_preV (C := RX6) (T := TX6) (N := 8) hM hP hS rfl (by decide) hk7) rfl rfl hl.1 rfl (lv_room (Nat.le_of_ble_eq_true rfl)) dX6_wouldBeStale_6 ⟨(Nat.le_of_ble_eq_true rfl), (Nat.le_of_ble_eq_true rfl)⟩) hS ⟨(Nat.le_of_ble_eq_true rfl), (Nat.le_of_ble_eq_true rfl)⟩ (fun H locs hP hS => ?_)
  refine lv_aload_n hx hb dX6_wouldBeStale_9 rfl (lv_at hl 0 rfl) ?_
  refine lv_iconst (v := (-1)) hx hb dX6_wouldBeStale_10 (by decide) ?_
  obtain ⟨hk11, hd⟩ := m_g_e hd
  obtain ⟨r12, w13, hc14, hd⟩ := m_b_e hd
  refine m_calli (k := 1) (n := 6) (va_runV (As := [.int ((-1))]) (rest := [.int (r8)]) ⟨hx, hb, hml, hown, hts⟩ (c_X6_staleCells l G w9 w13 h ((-1)) r12 hc14) (cwV 1 hts gX6_wouldBeStale_X6_staleCells rfl rfl rfl (by decide +kernel) ⟨(Nat.le_of_ble_eq_true rfl), (Nat.le_of_ble_eq_true rfl)⟩) (m_preV (C := RX6) (T := TX6) (N := 8) hM hP hS rfl (by decide) hk11) rfl rfl hl.1 rfl (lv_room (Nat.le_of_ble_eq_true rfl)) dX6_wouldBeStale_11 ⟨(Nat.le_of_ble_eq_true rfl), (Nat.le_of_ble_eq_true rfl)⟩) hS ⟨(Nat.le_of_ble_eq_true rfl), (Nat.le_of_ble_eq_true rfl)⟩ (fun H locs hP hS => ?_)
  refine lv_iconst (v := (-1)) hx hb dX6_wouldBeStale_14 (by decide) ?_
  refine lv_ixor hx hb dX6_wouldBeStale_15 ?_
  refine lv_iand hx hb dX6_wouldBeStale_16 ?_
  obtain ⟨e1, e2⟩ := m_s_e hd
  refine vx_ret ?_
  refine W.widen (k := 1) (n := 6) (Nat.le_of_ble_eq_true rfl) (Nat.le_of_ble_eq_true rfl) ?_
  exact W.iret hx hb hr (fun t ht hW => ⟨⟨_, w13, rfl, ⟨e1, e2⟩, by show mP _ _ t.heap; rw [ht]; exact hP⟩, hS.F ht⟩) hS.2.2 dX6_wouldBeStale_17


noncomputable def e_X6_keep (t0 : Nat × Nat × Nat × Nat) (w : mW) (h : Nat) : Option ((Int32 ⊕ String) × mW) := m_g (m_kd w h = 10) <| m_o (m_fr w 9 4 h) fun r2 => m_g (m_kd w r2 = 3) <| m_b (e_Jx4a65c_size_8abf5 w r2) fun r4 w5 => if r4 < 10 then (m_l (m_nO w5 7) fun w8 => m_b (e_X4_init w8 (m_nx w5)) fun r10 w11 => m_g (m_kd w11 h = 10) <| m_o (m_fr w11 9 5 h) fun r14 => m_g (m_kd w11 (m_nx w5) = 8) <| m_b (e_X4_becomeLike w11 (m_nx w5) r14) fun r16 w17 => m_g (m_kd w17 h = 10) <| m_o (m_fr w17 9 4 h) fun r20 => m_g (m_kd w17 r20 = 3) <| m_b (e_Jx4a65c_add_9ea2d t0 w17 r20 (m_nx w5)) fun r22 w23 => some (.inl r4, w23)) else (some (.inr "java/lang/IllegalStateException", w5))
set_option maxHeartbeats 1000000 in
set_option maxRecDepth 100000 in
theorem c_X6_keep (l : Launch) (hst : l.stackTraces = false) (G : m_G) (w w' : mW) (h : Nat) (o : Int32 ⊕ String) (hd : e_X6_keep G.2.2.2 w h = some (o, w')) : vx_Met l yX6_keep wsX6_keep ({ frames := 8, cells := 6, slots := 636, locals := 211 } : Room) (m_Pc G w [.ref (h)]) (m_Xi G o w') (m_XC G o w') 6 636 (fun q => G.1 ≤ q) := by
  refine vx_ofW (cc := cX6_keep) (maxL := 3) (ret := (some .int)) (by decide +kernel) rfl ?_
  intro p e s m args below meth c s₁ B hml hout hv
  obtain ⟨rfl, hM, hP⟩ := hv
  have hx := B.exec
  have hb := B.bytes
  have hr := B.returns
  have hts := atoms_spec (ws := wsX6_keep) B.pre
  have hown : s.vm.findClass RX6 = some m.cls := findClass_of_methodNamed B.named
  have hlocks := B.notSynchronized
  have hin7 : ∀ w ∈ u_ws RX4 TX4 2, w ∈ wsX6_keep := by decide +kernel
  have hin9 : ∀ w ∈ u_ws RX6 TX6 8, w ∈ wsX6_keep := by decide +kernel
  have hS : va_S (fun q => G.1 ≤ q) s.heap s.heap [] := va_S.rf
  have hl := lv_entry ([.ref (h)]) (n := 3) (Nat.le_of_ble_eq_true rfl)
  rw [lg_entry_eq]
  generalize (lg_sl ([.ref (h)]) ++ List.replicate (3 - (lg_sl ([.ref (h)])).length) Slot.unset).toArray = ls at hl ⊢
  have hl : lv_has ls 3 [(0, .ref (h))] := hl
  refine lv_aload_n hx hb dX6_keep_0 rfl (lv_at hl 0 rfl) ?_
  obtain ⟨hk1, hd⟩ := m_g_e hd
  obtain ⟨r2, hr2, hd⟩ := m_o_e hd
  refine m_getR (C := RX6) (T := TX6) (N := 8) (own := RX6) (ref := RX6) hx hb hts hin9 hown hM.1 hP 9 rfl 4 (r := r2) ⟨hk1, hr2⟩ (by decide) (hts (.fieldLink RX6 25 "CellNotebook" "images" "Ljava/util/ArrayList;") (by decide +kernel)) (fun _ h9 => h9) dX6_keep_1 ?_
  obtain ⟨hk3, hd⟩ := m_g_e hd
  obtain ⟨r4, w5, hc6, hd⟩ := m_b_e hd
  refine m_calli (k := 0) (n := 0) (va_runV (As := []) (rest := []) ⟨hx, hb, hml, hown, hts⟩ (c_Jx4a65c_size_8abf5 l G w w5 r2 r4 hc6) (cwV 0 hts gX6_keep_Jx4a65c_size_8abf5 rfl rfl rfl (by decide +kernel) ⟨(Nat.le_of_ble_eq_true rfl), (Nat.le_of_ble_eq_true rfl)⟩) (m_preV (C := RJx4a65c) (T := TJx4a65c) (N := 3) hM hP hS rfl (by decide) hk3) rfl rfl hl.1 rfl (lv_room (Nat.le_of_ble_eq_true rfl)) dX6_keep_4 ⟨(Nat.le_of_ble_eq_true rfl), (Nat.le_of_ble_eq_true rfl)⟩) hS ⟨(Nat.le_of_ble_eq_true rfl), (Nat.le_of_ble_eq_true rfl)⟩ (fun H locs hP hS => ?_)
  refine lv_istore_n (lv' := [(1, .int (r4)), (0, .ref (h))]) hx hb dX6_keep_7 rfl hl (by decide) rfl (fun ls hl => ?_)
  refine lv_iload_n hx hb dX6_keep_8 rfl (lv_at hl 0 rfl) ?_
  refine lv_bipush (v := 10) hx hb dX6_keep_9 (by decide) ?_
  refine lv_icmp_lt (tgt := 24) hx hb dX6_keep_11 (by decide) (fun c7 => ?_) (fun c7 => ?_)
  · have hd := m_i_t c7 hd
    refine m_new (C := RX4) (T := TX4) (N := 2) (own := RX6) hx hb hts hin7 tyX4 tyX4_ok hown (hts (.classLink RX6 28 RX4) (by decide +kernel)) (hts (.instantiable RX4 2) (by decide +kernel)) (hts (.initialized RX4) (by decide +kernel)) hM.1 hP hS 7 rfl ⟨by decide, by decide, m_dfX4⟩ (Nat.le_of_ble_eq_true rfl) (Nat.le_of_ble_eq_true rfl) dX6_keep_24 (fun H hP hS => ?_)
    obtain ⟨w8, ew, hd⟩ := m_l_e hd
    have hP : mP G w8 H := by rw [ew]; exact hP
    have hk9 : m_kd w8 (m_nx w5) = 8 := by rw [ew]; exact m_nO_new
    refine lv_dup hx hb dX6_keep_27 rfl ?_
    obtain ⟨r10, w11, hc12, hd⟩ := m_b_e hd
    refine m_callv (k := 5) (n := 36) (va_runIN (As := []) (rest := [.ref (m_nx w5)]) ⟨hx, hb, hml, hown, hts⟩ (c_X4_init l G w8 w11 (m_nx w5) r10 hc12) ⟨va_cnB (host := RX6) 0 hts gX6_keep_X4_init_n30 rfl rfl rfl (hM.2.1.2.2.2.2.2.2.2 (RX6, 30, yX4_init) (by decide +kernel)) (hts (.initialized RX4) (by decide +kernel)) (by decide +kernel) ⟨(Nat.le_of_ble_eq_true rfl), (Nat.le_of_ble_eq_true rfl)⟩, rfl, (hts (.instanceMethod yX4_init) (by decide +kernel))⟩ (m_preS hM hP hS) rfl rfl hl.1 rfl (lv_room (Nat.le_of_ble_eq_true rfl)) dX6_keep_28 ⟨(Nat.le_of_ble_eq_true rfl), (Nat.le_of_ble_eq_true rfl)⟩) hS ⟨(Nat.le_of_ble_eq_true rfl), (Nat.le_of_ble_eq_true rfl)⟩ (fun H locs hP hS => ?_)
    refine lv_astore_n (lv' := [(2, .ref (m_nx w5)), (1, .int (r4)), (0, .ref (h))]) hx hb dX6_keep_31 rfl hl (by decide) rfl (fun ls hl => ?_)
    refine lv_aload_n hx hb dX6_keep_32 rfl (lv_at hl 0 rfl) ?_
    refine lv_aload_n hx hb dX6_keep_33 rfl (lv_at hl 2 rfl) ?_
    obtain ⟨hk13, hd⟩ := m_g_e hd
    obtain ⟨r14, hr14, hd⟩ := m_o_e hd
    refine m_getR (C := RX6) (T := TX6) (N := 8) (own := RX6) (ref := RX6) hx hb hts hin9 hown hM.1 hP 9 rfl 5 (r := r14) ⟨hk13, hr14⟩ (by decide) (hts (.fieldLink RX6 31 "CellNotebook" "now" "LCellNotebook$Session;") (by decide +kernel)) (fun _ h9 => h9) dX6_keep_34 ?_
    obtain ⟨hk15, hd⟩ := m_g_e hd
    obtain ⟨r16, w17, hc18, hd⟩ := m_b_e hd
    refine m_callv (k := 5) (n := 36) (va_runV (As := [.ref (r14)]) (rest := []) ⟨hx, hb, hml, hown, hts⟩ (c_X4_becomeLike l G w11 w17 (m_nx w5) r14 r16 hc18) (cwV 1 hts gX6_keep_X4_becomeLike rfl rfl rfl (by decide +kernel) ⟨(Nat.le_of_ble_eq_true rfl), (Nat.le_of_ble_eq_true rfl)⟩) (m_preV (C := RX4) (T := TX4) (N := 2) hM hP hS rfl (by decide) hk15) rfl rfl hl.1 rfl (lv_room (Nat.le_of_ble_eq_true rfl)) dX6_keep_37 ⟨(Nat.le_of_ble_eq_true rfl), (Nat.le_of_ble_eq_true rfl)⟩) hS ⟨(Nat.le_of_ble_eq_true rfl), (Nat.le_of_ble_eq_true rfl)⟩ (fun H locs hP hS => ?_)
    refine lv_aload_n hx hb dX6_keep_40 rfl (lv_at hl 2 rfl) ?_
    obtain ⟨hk19, hd⟩ := m_g_e hd
    obtain ⟨r20, hr20, hd⟩ := m_o_e hd
    refine m_getR (C := RX6) (T := TX6) (N := 8) (own := RX6) (ref := RX6) hx hb hts hin9 hown hM.1 hP 9 rfl 4 (r := r20) ⟨hk19, hr20⟩ (by decide) (hts (.fieldLink RX6 25 "CellNotebook" "images" "Ljava/util/ArrayList;") (by decide +kernel)) (fun _ h9 => h9) dX6_keep_41 ?_
    refine lv_aload_n hx hb dX6_keep_44 rfl (lv_at hl 0 rfl) ?_
    obtain ⟨hk21, hd⟩ := m_g_e hd
    obtain ⟨r22, w23, hc24, hd⟩ := m_b_e hd
    refine m_calli (k := 6) (n := 636) (va_runV (As := [.ref (m_nx w5)]) (rest := []) ⟨hx, hb, hml, hown, hts⟩ (c_Jx4a65c_add_9ea2d l G w17 w23 r20 (m_nx w5) r22 hc24) (cwV 1 hts gX6_keep_Jx4a65c_add_9ea2d rfl rfl rfl (by decide +kernel) ⟨(Nat.le_of_ble_eq_true rfl), (Nat.le_of_ble_eq_true rfl)⟩) (m_preV (C := RJx4a65c) (T := TJx4a65c) (N := 3) hM hP hS rfl (by decide) hk21) rfl rfl hl.1 rfl (lv_room (Nat.le_of_ble_eq_true rfl)) dX6_keep_45 ⟨(Nat.le_of_ble_eq_true rfl), (Nat.le_of_ble_eq_true rfl)⟩) hS ⟨(Nat.le_of_ble_eq_true rfl), (Nat.le_of_ble_eq_true rfl)⟩ (fun H locs hP hS => ?_)
    refine lv_pop hx hb dX6_keep_48 rfl ?_
    refine lv_iload_n hx hb dX6_keep_49 rfl (lv_at hl 1 rfl) ?_
    obtain ⟨e1, e2⟩ := m_s_e hd
    refine vx_ret ?_
    refine W.widen (k := 6) (n := 636) (Nat.le_of_ble_eq_true rfl) (Nat.le_of_ble_eq_true rfl) ?_
    exact W.iret hx hb hr (fun t ht hW => ⟨⟨_, w23, rfl, ⟨e1, e2⟩, by show mP _ _ t.heap; rw [ht]; exact hP⟩, hS.F ht⟩) hS.2.2 dX6_keep_50
  · have hd := m_i_f c7 hd
    obtain ⟨e1, e2⟩ := m_s_e hd
    exact m_throwS (own := RX6) (E := "java/lang/IllegalStateException") (ik := 53) (is := 221) (ic := 57) (text := "there are 10 images") (w := w5) hx hb hst hown (hts (.classLink RX6 53 "java/lang/IllegalStateException") (by decide +kernel)) (hts (.initialized "java/lang/IllegalStateException") (by decide +kernel)) (m_hat (E := "java/lang/IllegalStateException") (fun w h => hts w ((by decide +kernel : ∀ w ∈ (vx_atS RX6 57 "java/lang/IllegalStateException" ["java/lang/RuntimeException", "java/lang/Exception"]).filter goodWord, w ∈ wsX6_keep) w h)) (by decide +kernel) hM.2.1.2.1 (by decide)) (by decide +kernel) (by decide +kernel) (by decide) (by decide +kernel) ⟨rfl, by decide⟩ hM hP hS (hl.1.trans hml.symm) dX6_keep_14 dX6_keep_17 dX6_keep_18 dX6_keep_20 dX6_keep_23 hout (Nat.le_of_ble_eq_true rfl) (Nat.le_of_ble_eq_true rfl) (Nat.le_of_ble_eq_true rfl) (Nat.le_of_ble_eq_true rfl) hlocks e1 e2 (Nat.le_of_ble_eq_true rfl) (Nat.le_of_ble_eq_true rfl)


noncomputable def e_X6_restore_15 (w : mW)  : Option ((Int32 ⊕ String) × mW) := some (.inr "java/lang/IndexOutOfBoundsException", w)
noncomputable def e_X6_restore (w : mW) (h : Nat) (p0 : Int32) : Option ((Int32 ⊕ String) × mW) := if p0 < (0 : Int32) then (e_X6_restore_15 w) else (m_g (m_kd w h = 10) <| m_o (m_fr w 9 4 h) fun r3 => m_g (m_kd w r3 = 3) <| m_b (e_Jx4a65c_size_8abf5 w r3) fun r5 w6 => if p0 < r5 then (m_g (m_kd w6 h = 10) <| m_o (m_fr w6 9 5 h) fun r10 => m_o (m_fr w6 9 4 h) fun r11 => m_g (m_kd w6 r11 = 3) <| m_b (e_Jx4a65c_get_915e3 w6 r11 p0) fun r13 w14 => m_g (m_kd w14 r13 = 8) <| m_g (m_kd w14 r10 = 8) <| m_b (e_X4_becomeLike w14 r10 r13) fun r18 w19 => m_g (m_kd w19 h = 10) <| m_o (m_fr w19 9 5 h) fun r22 => m_g (m_kd w19 r22 = 8) <| m_o (m_fr w19 7 0 r22) fun r24 => m_g (m_kd w19 r24 = 6) <| m_b (e_X2_howManySet w19 r24) fun r26 w27 => some (.inl r26, w27)) else (e_X6_restore_15 w6))
set_option maxHeartbeats 1000000 in
set_option maxRecDepth 100000 in
theorem c_X6_restore (l : Launch) (hst : l.stackTraces = false) (G : m_G) (w w' : mW) (h : Nat) (p0 : Int32) (o : Int32 ⊕ String) (hd : e_X6_restore w h p0 = some (o, w')) : vx_Met l yX6_restore wsX6_restore ({ frames := 8, cells := 1, slots := 6, locals := 140 } : Room) (m_Pc G w [.ref (h), .int (p0)]) (m_Xi G o w') (m_XC G o w') 1 6 (fun q => G.1 ≤ q) := by
  refine vx_ofW (cc := cX6_restore) (maxL := 2) (ret := (some .int)) (by decide +kernel) rfl ?_
  intro p e s m args below meth c s₁ B hml hout hv
  obtain ⟨rfl, hM, hP⟩ := hv
  have hx := B.exec
  have hb := B.bytes
  have hr := B.returns
  have hts := atoms_spec (ws := wsX6_restore) B.pre
  have hown : s.vm.findClass RX6 = some m.cls := findClass_of_methodNamed B.named
  have hlocks := B.notSynchronized
  have hin7 : ∀ w ∈ u_ws RX4 TX4 2, w ∈ wsX6_restore := by decide +kernel
  have hin9 : ∀ w ∈ u_ws RX6 TX6 8, w ∈ wsX6_restore := by decide +kernel
  have hS : va_S (fun q => G.1 ≤ q) s.heap s.heap [] := va_S.rf
  have J15 : ∀ (w : mW) (H : Heap) (locs : List Loc) (ls : Array Slot), e_X6_restore_15 w = some (o, w') → mP G w H → va_S (fun q => G.1 ≤ q) s.heap H locs → lv_has ls 2 [] → W p l e ({ frames := 8, cells := 1, slots := 6, locals := 140 } : Room) s m ([.ref (h), .int (p0)] : List Value).toArray below meth c H locs 0 0 (vx_MQ below (m_Xi G o w') (m_XC G o w') ([.ref (h), .int (p0)] : List Value).toArray s 1 6 (fun q => G.1 ≤ q)) (F0 m 15 ls []) := by
    intro w H locs ls hd hP hS hl
    obtain ⟨e1, e2⟩ := m_s_e hd
    exact m_throwS (own := RX6) (E := "java/lang/IndexOutOfBoundsException") (ik := 140) (is := 227) (ic := 144) (text := "no such image") (w := w) hx hb hst hown (hts (.classLink RX6 140 "java/lang/IndexOutOfBoundsException") (by decide +kernel)) (hts (.initialized "java/lang/IndexOutOfBoundsException") (by decide +kernel)) (m_hat (E := "java/lang/IndexOutOfBoundsException") (fun w h => hts w ((by decide +kernel : ∀ w ∈ (vx_atS RX6 144 "java/lang/IndexOutOfBoundsException" ["java/lang/RuntimeException", "java/lang/Exception"]).filter goodWord, w ∈ wsX6_restore) w h)) (by decide +kernel) hM.2.1.2.1 (by decide)) (by decide +kernel) (by decide +kernel) (by decide) (by decide +kernel) ⟨rfl, by decide⟩ hM hP hS (hl.1.trans hml.symm) dX6_restore_15 dX6_restore_18 dX6_restore_19 dX6_restore_21 dX6_restore_24 hout (Nat.le_of_ble_eq_true rfl) (Nat.le_of_ble_eq_true rfl) (Nat.le_of_ble_eq_true rfl) (Nat.le_of_ble_eq_true rfl) hlocks e1 e2 (Nat.le_of_ble_eq_true rfl) (Nat.le_of_ble_eq_true rfl)
  have hl := lv_entry ([.ref (h), .int (p0)]) (n := 2) (Nat.le_of_ble_eq_true rfl)
  rw [lg_entry_eq]
  generalize (lg_sl ([.ref (h), .int (p0)]) ++ List.replicate (2 - (lg_sl ([.ref (h), .int (p0)])).length) Slot.unset).toArray = ls at hl ⊢
  have hl : lv_has ls 2 [(0, .ref (h)), (1, .int (p0))] := hl
  refine lv_iload_n hx hb dX6_restore_0 rfl (lv_at hl 1 rfl) ?_
  refine lv_if_lt (tgt := 15) hx hb dX6_restore_1 (by decide) (fun c1 => ?_) (fun c1 => ?_)
  · have hd := m_i_t c1 hd
    refine W.widen (k := 0) (n := 0) (Nat.le_of_ble_eq_true rfl) (Nat.le_of_ble_eq_true rfl) ?_
    exact J15 w _ _ _ hd hP hS (lv_sub hl [] rfl)
  · have hd := m_i_f c1 hd
    refine lv_iload_n hx hb dX6_restore_4 rfl (lv_at hl 1 rfl) ?_
    refine lv_aload_n hx hb dX6_restore_5 rfl (lv_at hl 0 rfl) ?_
    obtain ⟨hk2, hd⟩ := m_g_e hd
    obtain ⟨r3, hr3, hd⟩ := m_o_e hd
    refine m_getR (C := RX6) (T := TX6) (N := 8) (own := RX6) (ref := RX6) hx hb hts hin9 hown hM.1 hP 9 rfl 4 (r := r3) ⟨hk2, hr3⟩ (by decide) (hts (.fieldLink RX6 25 "CellNotebook" "images" "Ljava/util/ArrayList;") (by decide +kernel)) (fun _ h9 => h9) dX6_restore_6 ?_
    obtain ⟨hk4, hd⟩ := m_g_e hd
    obtain ⟨r5, w6, hc7, hd⟩ := m_b_e hd
    refine m_calli (k := 0) (n := 0) (va_runV (As := []) (rest := [.int (p0)]) ⟨hx, hb, hml, hown, hts⟩ (c_Jx4a65c_size_8abf5 l G w w6 r3 r5 hc7) (cwV 0 hts gX6_restore_Jx4a65c_size_8abf5 rfl rfl rfl (by decide +kernel) ⟨(Nat.le_of_ble_eq_true rfl), (Nat.le_of_ble_eq_true rfl)⟩) (m_preV (C := RJx4a65c) (T := TJx4a65c) (N := 3) hM hP hS rfl (by decide) hk4) rfl rfl hl.1 rfl (lv_room (Nat.le_of_ble_eq_true rfl)) dX6_restore_9 ⟨(Nat.le_of_ble_eq_true rfl), (Nat.le_of_ble_eq_true rfl)⟩) hS ⟨(Nat.le_of_ble_eq_true rfl), (Nat.le_of_ble_eq_true rfl)⟩ (fun H locs hP hS => ?_)
    refine lv_icmp_lt (tgt := 25) hx hb dX6_restore_12 (by decide) (fun c8 => ?_) (fun c8 => ?_)
    · have hd := m_i_t c8 hd
      refine lv_aload_n hx hb dX6_restore_25 rfl (lv_at hl 0 rfl) ?_
      obtain ⟨hk9, hd⟩ := m_g_e hd
      obtain ⟨r10, hr10, hd⟩ := m_o_e hd
      refine m_getR (C := RX6) (T := TX6) (N := 8) (own := RX6) (ref := RX6) hx hb hts hin9 hown hM.1 hP 9 rfl 5 (r := r10) ⟨hk9, hr10⟩ (by decide) (hts (.fieldLink RX6 31 "CellNotebook" "now" "LCellNotebook$Session;") (by decide +kernel)) (fun _ h9 => h9) dX6_restore_26 ?_
      refine lv_aload_n hx hb dX6_restore_29 rfl (lv_at hl 0 rfl) ?_
      obtain ⟨r11, hr11, hd⟩ := m_o_e hd
      refine m_getR (C := RX6) (T := TX6) (N := 8) (own := RX6) (ref := RX6) hx hb hts hin9 hown hM.1 hP 9 rfl 4 (r := r11) ⟨hk9, hr11⟩ (by decide) (hts (.fieldLink RX6 25 "CellNotebook" "images" "Ljava/util/ArrayList;") (by decide +kernel)) (fun _ h9 => h9) dX6_restore_30 ?_
      refine lv_iload_n hx hb dX6_restore_33 rfl (lv_at hl 1 rfl) ?_
      obtain ⟨hk12, hd⟩ := m_g_e hd
      obtain ⟨r13, w14, hc15, hd⟩ := m_b_e hd
      refine m_callr (k := 0) (n := 0) (va_runV (As := [.int (p0)]) (rest := [.ref (r10)]) ⟨hx, hb, hml, hown, hts⟩ (c_Jx4a65c_get_915e3 l G w6 w14 r11 p0 r13 hc15) (cwV 1 hts gX6_restore_Jx4a65c_get_915e3 rfl rfl rfl (by decide +kernel) ⟨(Nat.le_of_ble_eq_true rfl), (Nat.le_of_ble_eq_true rfl)⟩) (m_preV (C := RJx4a65c) (T := TJx4a65c) (N := 3) hM hP hS rfl (by decide) hk12) rfl rfl hl.1 rfl (lv_room (Nat.le_of_ble_eq_true rfl)) dX6_restore_34 ⟨(Nat.le_of_ble_eq_true rfl), (Nat.le_of_ble_eq_true rfl)⟩) hS ⟨(Nat.le_of_ble_eq_true rfl), (Nat.le_of_ble_eq_true rfl)⟩ (fun H locs hP hS => ?_)
      obtain ⟨hk16, hd⟩ := m_g_e hd
      refine va_castS (own := RX6) (nm := RX4) hx hb hown (hts (.classLink RX6 28 RX4) (by decide +kernel)) (hM.1.1 7 _ rfl).2 (m_recv hM.1 hP hk16 (by decide) rfl) dX6_restore_37 ?_
      obtain ⟨hk17, hd⟩ := m_g_e hd
      obtain ⟨r18, w19, hc20, hd⟩ := m_b_e hd
      refine m_callv (k := 0) (n := 0) (va_runV (As := [.ref (r13)]) (rest := []) ⟨hx, hb, hml, hown, hts⟩ (c_X4_becomeLike l G w14 w19 r10 r13 r18 hc20) (cwV 1 hts gX6_restore_X4_becomeLike rfl rfl rfl (by decide +kernel) ⟨(Nat.le_of_ble_eq_true rfl), (Nat.le_of_ble_eq_true rfl)⟩) (m_preV (C := RX4) (T := TX4) (N := 2) hM hP hS rfl (by decide) hk17) rfl rfl hl.1 rfl (lv_room (Nat.le_of_ble_eq_true rfl)) dX6_restore_40 ⟨(Nat.le_of_ble_eq_true rfl), (Nat.le_of_ble_eq_true rfl)⟩) hS ⟨(Nat.le_of_ble_eq_true rfl), (Nat.le_of_ble_eq_true rfl)⟩ (fun H locs hP hS => ?_)
      refine lv_aload_n hx hb dX6_restore_43 rfl (lv_at hl 0 rfl) ?_
      obtain ⟨hk21, hd⟩ := m_g_e hd
      obtain ⟨r22, hr22, hd⟩ := m_o_e hd
      refine m_getR (C := RX6) (T := TX6) (N := 8) (own := RX6) (ref := RX6) hx hb hts hin9 hown hM.1 hP 9 rfl 5 (r := r22) ⟨hk21, hr22⟩ (by decide) (hts (.fieldLink RX6 31 "CellNotebook" "now" "LCellNotebook$Session;") (by decide +kernel)) (fun _ h9 => h9) dX6_restore_44 ?_
      obtain ⟨hk23, hd⟩ := m_g_e hd
      obtain ⟨r24, hr24, hd⟩ := m_o_e hd
      refine m_getR (C := RX4) (T := TX4) (N := 2) (own := RX6) (ref := RX4) hx hb hts hin7 hown hM.1 hP 7 rfl 0 (r := r24) ⟨hk23, hr24⟩ (by decide) (hts (.fieldLink RX6 177 "CellNotebook$Session" "names" "LCellNotebook$Names;") (by decide +kernel)) (fun _ h9 => h9) dX6_restore_47 ?_
      obtain ⟨hk25, hd⟩ := m_g_e hd
      obtain ⟨r26, w27, hc28, hd⟩ := m_b_e hd
      refine m_calli (k := 0) (n := 0) (va_runV (As := []) (rest := []) ⟨hx, hb, hml, hown, hts⟩ (c_X2_howManySet l G w19 w27 r24 r26 hc28) (cwV 0 hts gX6_restore_X2_howManySet rfl rfl rfl (by decide +kernel) ⟨(Nat.le_of_ble_eq_true rfl), (Nat.le_of_ble_eq_true rfl)⟩) (m_preV (C := RX2) (T := TX2) (N := 2) hM hP hS rfl (by decide) hk25) rfl rfl hl.1 rfl (lv_room (Nat.le_of_ble_eq_true rfl)) dX6_restore_50 ⟨(Nat.le_of_ble_eq_true rfl), (Nat.le_of_ble_eq_true rfl)⟩) hS ⟨(Nat.le_of_ble_eq_true rfl), (Nat.le_of_ble_eq_true rfl)⟩ (fun H locs hP hS => ?_)
      obtain ⟨e1, e2⟩ := m_s_e hd
      refine vx_ret ?_
      refine W.widen (k := 1) (n := 6) (Nat.le_of_ble_eq_true rfl) (Nat.le_of_ble_eq_true rfl) ?_
      exact W.iret hx hb hr (fun t ht hW => ⟨⟨_, w27, rfl, ⟨e1, e2⟩, by show mP _ _ t.heap; rw [ht]; exact hP⟩, hS.F ht⟩) hS.2.2 dX6_restore_53
    · have hd := m_i_f c8 hd
      refine W.widen (k := 0) (n := 0) (Nat.le_of_ble_eq_true rfl) (Nat.le_of_ble_eq_true rfl) ?_
      exact J15 w6 _ _ _ hd hP hS (lv_sub hl [] rfl)


noncomputable def e_X6_end (w : mW) (h : Nat) : Option (Int32 × mW) := m_g (m_kd w h = 10) <| m_o (m_fr w 9 5 h) fun r2 => m_g (m_kd w r2 = 8) <| m_o (m_fr w 7 0 r2) fun r4 => m_g (m_kd w r4 = 6) <| m_b (e_X2_howManySet w r4) fun r6 w7 => m_g (m_kd w7 h = 10) <| m_o (m_fr w7 9 5 h) fun r10 => m_g (m_kd w7 r10 = 8) <| m_o (m_fr w7 7 0 r10) fun r12 => m_g (m_kd w7 r12 = 6) <| m_b (e_X2_unsetAll w7 r12) fun r14 w15 => some (r6, w15)
set_option maxHeartbeats 1000000 in
set_option maxRecDepth 100000 in
theorem c_X6_end (l : Launch) (G : m_G) (w w' : mW) (h : Nat) (r : Int32) (hd : e_X6_end w h = some (r, w')) : Met l yX6_end wsX6_end ({ frames := 3, cells := 0, slots := 0, locals := 64 } : Room) (m_Pc G w [.ref (h)]) (m_Qi G r w') 0 0 (fun q => G.1 ≤ q) := by
  refine Met.ofW (cc := cX6_end) (maxL := 2) (ret := (some .int)) (by decide +kernel) rfl ?_
  intro p e s m args below meth c s₁ B hml hv
  obtain ⟨rfl, hM, hP⟩ := hv
  have hx := B.exec
  have hb := B.bytes
  have hr := B.returns
  have hts := atoms_spec (ws := wsX6_end) B.pre
  have hown : s.vm.findClass RX6 = some m.cls := findClass_of_methodNamed B.named
  have hlocks := B.notSynchronized
  have hin7 : ∀ w ∈ u_ws RX4 TX4 2, w ∈ wsX6_end := by decide +kernel
  have hin9 : ∀ w ∈ u_ws RX6 TX6 8, w ∈ wsX6_end := by decide +kernel
  have hS : va_S (fun q => G.1 ≤ q) s.heap s.heap [] := va_S.rf
  have hl := lv_entry ([.ref (h)]) (n := 2) (Nat.le_of_ble_eq_true rfl)
  rw [lg_entry_eq]
  generalize (lg_sl ([.ref (h)]) ++ List.replicate (2 - (lg_sl ([.ref (h)])).length) Slot.unset).toArray = ls at hl ⊢
  have hl : lv_has ls 2 [(0, .ref (h))] := hl
  refine lv_aload_n hx hb dX6_end_0 rfl (lv_at hl 0 rfl) ?_
  obtain ⟨hk1, hd⟩ := m_g_e hd
  obtain ⟨r2, hr2, hd⟩ := m_o_e hd
  refine m_getR (C := RX6) (T := TX6) (N := 8) (own := RX6) (ref := RX6) hx hb hts hin9 hown hM.1 hP 9 rfl 5 (r := r2) ⟨hk1, hr2⟩ (by decide) (hts (.fieldLink RX6 31 "CellNotebook" "now" "LCellNotebook$Session;") (by decide +kernel)) (fun _ h9 => h9) dX6_end_1 ?_
  obtain ⟨hk3, hd⟩ := m_g_e hd
  obtain ⟨r4, hr4, hd⟩ := m_o_e hd
  refine m_getR (C := RX4) (T := TX4) (N := 2) (own := RX6) (ref := RX4) hx hb hts hin7 hown hM.1 hP 7 rfl 0 (r := r4) ⟨hk3, hr4⟩ (by decide) (hts (.fieldLink RX6 177 "CellNotebook$Session" "names" "LCellNotebook$Names;") (by decide +kernel)) (fun _ h9 => h9) dX6_end_4 ?_
  obtain ⟨hk5, hd⟩ := m_g_e hd
  obtain ⟨r6, w7, hc8, hd⟩ := m_b_e hd
  refine m_calli (k := 0) (n := 0) (va_runV (As := []) (rest := []) ⟨hx, hb, hml, hown, hts⟩ (c_X2_howManySet l G w w7 r4 r6 hc8) (cwV 0 hts gX6_end_X2_howManySet rfl rfl rfl (by decide +kernel) ⟨(Nat.le_of_ble_eq_true rfl), (Nat.le_of_ble_eq_true rfl)⟩) (m_preV (C := RX2) (T := TX2) (N := 2) hM hP hS rfl (by decide) hk5) rfl rfl hl.1 rfl (lv_room (Nat.le_of_ble_eq_true rfl)) dX6_end_7 ⟨(Nat.le_of_ble_eq_true rfl), (Nat.le_of_ble_eq_true rfl)⟩) hS ⟨(Nat.le_of_ble_eq_true rfl), (Nat.le_of_ble_eq_true rfl)⟩ (fun H locs hP hS => ?_)
  refine lv_istore_n (lv' := [(1, .int (r6)), (0, .ref (h))]) hx hb dX6_end_10 rfl hl (by decide) rfl (fun ls hl => ?_)
  refine lv_aload_n hx hb dX6_end_11 rfl (lv_at hl 1 rfl) ?_
  obtain ⟨hk9, hd⟩ := m_g_e hd
  obtain ⟨r10, hr10, hd⟩ := m_o_e hd
  refine m_getR (C := RX6) (T := TX6) (N := 8) (own := RX6) (ref := RX6) hx hb hts hin9 hown hM.1 hP 9 rfl 5 (r := r10) ⟨hk9, hr10⟩ (by decide) (hts (.fieldLink RX6 31 "CellNotebook" "now" "LCellNotebook$Session;") (by decide +kernel)) (fun _ h9 => h9) dX6_end_12 ?_
  obtain ⟨hk11, hd⟩ := m_g_e hd
  obtain ⟨r12, hr12, hd⟩ := m_o_e hd
  refine m_getR (C := RX4) (T := TX4) (N := 2) (own := RX6) (ref := RX4) hx hb hts hin7 hown hM.1 hP 7 rfl 0 (r := r12) ⟨hk11, hr12⟩ (by decide) (hts (.fieldLink RX6 177 "CellNotebook$Session" "names" "LCellNotebook$Names;") (by decide +kernel)) (fun _ h9 => h9) dX6_end_15 ?_
  obtain ⟨hk13, hd⟩ := m_g_e hd
  obtain ⟨r14, w15, hc16, hd⟩ := m_b_e hd
  refine m_callv (k := 0) (n := 0) (va_runV (As := []) (rest := []) ⟨hx, hb, hml, hown, hts⟩ (c_X2_unsetAll l G w7 w15 r12 r14 hc16) (cwV 0 hts gX6_end_X2_unsetAll rfl rfl rfl (by decide +kernel) ⟨(Nat.le_of_ble_eq_true rfl), (Nat.le_of_ble_eq_true rfl)⟩) (m_preV (C := RX2) (T := TX2) (N := 2) hM hP hS rfl (by decide) hk13) rfl rfl hl.1 rfl (lv_room (Nat.le_of_ble_eq_true rfl)) dX6_end_18 ⟨(Nat.le_of_ble_eq_true rfl), (Nat.le_of_ble_eq_true rfl)⟩) hS ⟨(Nat.le_of_ble_eq_true rfl), (Nat.le_of_ble_eq_true rfl)⟩ (fun H locs hP hS => ?_)
  refine lv_iload_n hx hb dX6_end_21 rfl (lv_at hl 0 rfl) ?_
  obtain ⟨e1, e2⟩ := m_s_e hd
  refine W.widen (k := 0) (n := 0) (Nat.le_of_ble_eq_true rfl) (Nat.le_of_ble_eq_true rfl) ?_
  exact W.iret hx hb hr (fun t ht hW => ⟨⟨_, w15, rfl, ⟨e1, e2⟩, by show mP _ _ t.heap; rw [ht]; exact hP⟩, hS.F ht⟩) hS.2.2 dX6_end_22


noncomputable def e_X6_runAllInOrder_9_b (k9 : mW → Nat → Int32 → Option (Unit × mW)) (w : mW) (x0 : Nat) (x1 : Int32) : Option (Unit × mW) := m_g (m_kd w x0 = 10) <| m_o (m_fr w 9 1 x0) fun r108 => m_g (m_kd w r108 = 3) <| m_b (e_Jx4a65c_size_8abf5 w r108) fun r110 w111 => if r110 ≤ x1 then (some ((), w111)) else (m_g (m_kd w111 x0 = 10) <| m_o (m_fr w111 9 7 x0) fun r115 => m_o (m_fr w111 9 1 x0) fun r116 => m_g (m_kd w111 r116 = 3) <| m_b (e_Jx4a65c_get_915e3 w111 r116 x1) fun r118 w119 => m_g (m_kd w119 r118 = 5) <| m_o (m_fr w119 4 1 r118) fun r122 => m_g (m_kd w119 x0 = 10) <| m_o (m_fr w119 9 6 x0) fun r124 => m_g (m_kd w119 r115 = 4) <| m_b (e_X0_perform w119 r115 r122 r124 1) fun r126 w127 => k9 w127 x0 (x1 + 1))
noncomputable def e_X6_runAllInOrder_9 (n : Nat) : mW → Nat → Int32 → Option (Unit × mW) := Nat.rec (motive := fun _ => mW → Nat → Int32 → Option (Unit × mW)) (fun _ _ _ => none) (fun _ k => e_X6_runAllInOrder_9_b  k) n
noncomputable def e_X6_runAllInOrder (w : mW) (h : Nat) : Option (Unit × mW) := m_g (m_kd w h = 10) <| m_o (m_fr w 9 6 h) fun r2 => m_g (m_kd w r2 = 6) <| m_b (e_X2_unsetAll w r2) fun r4 w5 => e_X6_runAllInOrder_9 m_N w5 h 0
set_option maxHeartbeats 1000000 in
set_option maxRecDepth 100000 in
theorem c_X6_runAllInOrder (l : Launch) (G : m_G) (w w' : mW) (h : Nat) (r : Unit) (hd : e_X6_runAllInOrder w h = some (r, w')) : Met l yX6_runAllInOrder wsX6_runAllInOrder ({ frames := 5, cells := 0, slots := 0, locals := 111 } : Room) (m_Pc G w [.ref (h)]) (m_Qv G r w') 0 0 (fun q => G.1 ≤ q) := by
  refine Met.ofW (cc := cX6_runAllInOrder) (maxL := 2) (ret := none) (by decide +kernel) rfl ?_
  intro p e s m args below meth c s₁ B hml hv
  obtain ⟨rfl, hM, hP⟩ := hv
  have hx := B.exec
  have hb := B.bytes
  have hr := B.returns
  have hts := atoms_spec (ws := wsX6_runAllInOrder) B.pre
  have hown : s.vm.findClass RX6 = some m.cls := findClass_of_methodNamed B.named
  have hlocks := B.notSynchronized
  have hin4 : ∀ w ∈ u_ws RX1 TX1 4, w ∈ wsX6_runAllInOrder := by decide +kernel
  have hin9 : ∀ w ∈ u_ws RX6 TX6 8, w ∈ wsX6_runAllInOrder := by decide +kernel
  have hS : va_S (fun q => G.1 ≤ q) s.heap s.heap [] := va_S.rf
  have J9 : ∀ (n9 : Nat) (w : mW) (x0 : Nat) (x1 : Int32) (H : Heap) (locs : List Loc) (ls : Array Slot), e_X6_runAllInOrder_9 n9 w x0 x1 = some (r, w') → mP G w H → va_S (fun q => G.1 ≤ q) s.heap H locs → lv_has ls 2 [(0, .ref (x0)), (1, .int (x1))] → W p l e ({ frames := 5, cells := 0, slots := 0, locals := 111 } : Room) s m ([.ref (h)] : List Value).toArray below meth c H locs 0 0 (MQ below (m_Qv G r w') ([.ref (h)] : List Value).toArray s 0 0 (fun q => G.1 ≤ q)) (F0 m 9 ls []) := by
    intro n9
    induction n9 with
    | zero => intro w x0 x1 H locs ls hd; exact absurd (show (none : Option (Unit × mW)) = some _ from hd) (fun h => nomatch h)
    | succ n9 ih9 =>
      intro w x0 x1 H locs ls hd hP hS hl
      have hd : e_X6_runAllInOrder_9_b (e_X6_runAllInOrder_9 n9) w x0 x1 = some (r, w') := hd
      refine lv_iload_n hx hb dX6_runAllInOrder_9 rfl (lv_at hl 1 rfl) ?_
      refine lv_aload_n hx hb dX6_runAllInOrder_10 rfl (lv_at hl 0 rfl) ?_
      obtain ⟨hk107, hd⟩ := m_g_e hd
      obtain ⟨r108, hr108, hd⟩ := m_o_e hd
      refine m_getR (C := RX6) (T := TX6) (N := 8) (own := RX6) (ref := RX6) hx hb hts hin9 hown hM.1 hP 9 rfl 1 (r := r108) ⟨hk107, hr108⟩ (by decide) (hts (.fieldLink RX6 16 "CellNotebook" "order" "Ljava/util/ArrayList;") (by decide +kernel)) (fun _ h9 => h9) dX6_runAllInOrder_11 ?_
      obtain ⟨hk109, hd⟩ := m_g_e hd
      obtain ⟨r110, w111, hc112, hd⟩ := m_b_e hd
      refine m_calli (k := 0) (n := 0) (va_runV (As := []) (rest := [.int (x1)]) ⟨hx, hb, hml, hown, hts⟩ (c_Jx4a65c_size_8abf5 l G w w111 r108 r110 hc112) (cwV 0 hts gX6_runAllInOrder_Jx4a65c_size_8abf5 rfl rfl rfl (by decide +kernel) ⟨(Nat.le_of_ble_eq_true rfl), (Nat.le_of_ble_eq_true rfl)⟩) (m_preV (C := RJx4a65c) (T := TJx4a65c) (N := 3) hM hP hS rfl (by decide) hk109) rfl rfl hl.1 rfl (lv_room (Nat.le_of_ble_eq_true rfl)) dX6_runAllInOrder_14 ⟨(Nat.le_of_ble_eq_true rfl), (Nat.le_of_ble_eq_true rfl)⟩) hS ⟨(Nat.le_of_ble_eq_true rfl), (Nat.le_of_ble_eq_true rfl)⟩ (fun H locs hP hS => ?_)
      refine lv_icmp_ge (tgt := 52) hx hb dX6_runAllInOrder_17 (by decide) (fun c113 => ?_) (fun c113 => ?_)
      · have hd := m_i_t c113 hd
        obtain ⟨e1, e2⟩ := m_s_e hd
        refine W.widen (k := 0) (n := 0) (Nat.le_of_ble_eq_true rfl) (Nat.le_of_ble_eq_true rfl) ?_
        exact W.vret hx hb hr (fun t ht hW => ⟨⟨w111, rfl, e2, by show mP _ _ t.heap; rw [ht]; exact hP⟩, hS.F ht⟩) hS.2.2 dX6_runAllInOrder_52
      · have hd := m_i_f c113 hd
        refine lv_aload_n hx hb dX6_runAllInOrder_20 rfl (lv_at hl 0 rfl) ?_
        obtain ⟨hk114, hd⟩ := m_g_e hd
        obtain ⟨r115, hr115, hd⟩ := m_o_e hd
        refine m_getR (C := RX6) (T := TX6) (N := 8) (own := RX6) (ref := RX6) hx hb hts hin9 hown hM.1 hP 9 rfl 7 (r := r115) ⟨hk114, hr115⟩ (by decide) (hts (.fieldLink RX6 45 "CellNotebook" "attempt" "LCellNotebook$Attempt;") (by decide +kernel)) (fun _ h9 => h9) dX6_runAllInOrder_21 ?_
        refine lv_aload_n hx hb dX6_runAllInOrder_24 rfl (lv_at hl 0 rfl) ?_
        obtain ⟨r116, hr116, hd⟩ := m_o_e hd
        refine m_getR (C := RX6) (T := TX6) (N := 8) (own := RX6) (ref := RX6) hx hb hts hin9 hown hM.1 hP 9 rfl 1 (r := r116) ⟨hk114, hr116⟩ (by decide) (hts (.fieldLink RX6 16 "CellNotebook" "order" "Ljava/util/ArrayList;") (by decide +kernel)) (fun _ h9 => h9) dX6_runAllInOrder_25 ?_
        refine lv_iload_n hx hb dX6_runAllInOrder_28 rfl (lv_at hl 1 rfl) ?_
        obtain ⟨hk117, hd⟩ := m_g_e hd
        obtain ⟨r118, w119, hc120, hd⟩ := m_b_e hd
        refine m_callr (k := 0) (n := 0) (va_runV (As := [.int (x1)]) (rest := [.ref (r115)]) ⟨hx, hb, hml, hown, hts⟩ (c_Jx4a65c_get_915e3 l G w111 w119 r116 x1 r118 hc120) (cwV 1 hts gX6_runAllInOrder_Jx4a65c_get_915e3 rfl rfl rfl (by decide +kernel) ⟨(Nat.le_of_ble_eq_true rfl), (Nat.le_of_ble_eq_true rfl)⟩) (m_preV (C := RJx4a65c) (T := TJx4a65c) (N := 3) hM hP hS rfl (by decide) hk117) rfl rfl hl.1 rfl (lv_room (Nat.le_of_ble_eq_true rfl)) dX6_runAllInOrder_29 ⟨(Nat.le_of_ble_eq_true rfl), (Nat.le_of_ble_eq_true rfl)⟩) hS ⟨(Nat.le_of_ble_eq_true rfl), (Nat.le_of_ble_eq_true rfl)⟩ (fun H locs hP hS => ?_)
        obtain ⟨hk121, hd⟩ := m_g_e hd
        refine va_castS (own := RX6) (nm := RX1) hx hb hown (hts (.classLink RX6 60 RX1) (by decide +kernel)) (hM.1.1 4 _ rfl).2 (m_recv hM.1 hP hk121 (by decide) rfl) dX6_runAllInOrder_32 ?_
        obtain ⟨r122, hr122, hd⟩ := m_o_e hd
        refine m_getR (C := RX1) (T := TX1) (N := 4) (own := RX6) (ref := RX1) hx hb hts hin4 hown hM.1 hP 4 rfl 1 (r := r122) ⟨hk121, hr122⟩ (by decide) (hts (.fieldLink RX6 94 "CellNotebook$Cell" "program" "Ljava/util/ArrayList;") (by decide +kernel)) (fun _ h9 => h9) dX6_runAllInOrder_35 ?_
        refine lv_aload_n hx hb dX6_runAllInOrder_38 rfl (lv_at hl 0 rfl) ?_
        obtain ⟨hk123, hd⟩ := m_g_e hd
        obtain ⟨r124, hr124, hd⟩ := m_o_e hd
        refine m_getR (C := RX6) (T := TX6) (N := 8) (own := RX6) (ref := RX6) hx hb hts hin9 hown hM.1 hP 9 rfl 6 (r := r124) ⟨hk123, hr124⟩ (by decide) (hts (.fieldLink RX6 38 "CellNotebook" "inOrder" "LCellNotebook$Names;") (by decide +kernel)) (fun _ h9 => h9) dX6_runAllInOrder_39 ?_
        refine lv_iconst (v := 1) hx hb dX6_runAllInOrder_42 (by decide) ?_
        obtain ⟨hk125, hd⟩ := m_g_e hd
        obtain ⟨r126, w127, hc128, hd⟩ := m_b_e hd
        refine m_callv (k := 0) (n := 0) (va_runV (As := [.ref (r122), .ref (r124), .int (1)]) (rest := []) ⟨hx, hb, hml, hown, hts⟩ (c_X0_perform l G w119 w127 r115 r122 r124 1 r126 hc128) (cwV 3 hts gX6_runAllInOrder_X0_perform rfl rfl rfl (by decide +kernel) ⟨(Nat.le_of_ble_eq_true rfl), (Nat.le_of_ble_eq_true rfl)⟩) (m_preV (C := RX0) (T := TX0) (N := 7) hM hP hS rfl (by decide) hk125) rfl rfl hl.1 rfl (lv_room (Nat.le_of_ble_eq_true rfl)) dX6_runAllInOrder_43 ⟨(Nat.le_of_ble_eq_true rfl), (Nat.le_of_ble_eq_true rfl)⟩) hS ⟨(Nat.le_of_ble_eq_true rfl), (Nat.le_of_ble_eq_true rfl)⟩ (fun H locs hP hS => ?_)
        refine lv_iinc (v := x1 + 1) (lv' := [(1, .int (x1 + 1)), (0, .ref (x0))]) hx hb dX6_runAllInOrder_46 hl (k := 1) rfl rfl (by decide) rfl (fun ls hl => ?_)
        refine lv_goto (tgt := 9) hx hb dX6_runAllInOrder_49 (by decide) ?_
        refine W.widen (k := 0) (n := 0) (Nat.le_of_ble_eq_true rfl) (Nat.le_of_ble_eq_true rfl) ?_
        exact ih9 w127 x0 (x1 + 1) _ _ _ hd hP hS (lv_sub hl [1, 0] rfl)
  have hl := lv_entry ([.ref (h)]) (n := 2) (Nat.le_of_ble_eq_true rfl)
  rw [lg_entry_eq]
  generalize (lg_sl ([.ref (h)]) ++ List.replicate (2 - (lg_sl ([.ref (h)])).length) Slot.unset).toArray = ls at hl ⊢
  have hl : lv_has ls 2 [(0, .ref (h))] := hl
  refine lv_aload_n hx hb dX6_runAllInOrder_0 rfl (lv_at hl 0 rfl) ?_
  obtain ⟨hk1, hd⟩ := m_g_e hd
  obtain ⟨r2, hr2, hd⟩ := m_o_e hd
  refine m_getR (C := RX6) (T := TX6) (N := 8) (own := RX6) (ref := RX6) hx hb hts hin9 hown hM.1 hP 9 rfl 6 (r := r2) ⟨hk1, hr2⟩ (by decide) (hts (.fieldLink RX6 38 "CellNotebook" "inOrder" "LCellNotebook$Names;") (by decide +kernel)) (fun _ h9 => h9) dX6_runAllInOrder_1 ?_
  obtain ⟨hk3, hd⟩ := m_g_e hd
  obtain ⟨r4, w5, hc6, hd⟩ := m_b_e hd
  refine m_callv (k := 0) (n := 0) (va_runV (As := []) (rest := []) ⟨hx, hb, hml, hown, hts⟩ (c_X2_unsetAll l G w w5 r2 r4 hc6) (cwV 0 hts gX6_runAllInOrder_X2_unsetAll rfl rfl rfl (by decide +kernel) ⟨(Nat.le_of_ble_eq_true rfl), (Nat.le_of_ble_eq_true rfl)⟩) (m_preV (C := RX2) (T := TX2) (N := 2) hM hP hS rfl (by decide) hk3) rfl rfl hl.1 rfl (lv_room (Nat.le_of_ble_eq_true rfl)) dX6_runAllInOrder_4 ⟨(Nat.le_of_ble_eq_true rfl), (Nat.le_of_ble_eq_true rfl)⟩) hS ⟨(Nat.le_of_ble_eq_true rfl), (Nat.le_of_ble_eq_true rfl)⟩ (fun H locs hP hS => ?_)
  refine lv_iconst (v := 0) hx hb dX6_runAllInOrder_7 (by decide) ?_
  refine lv_istore_n (lv' := [(1, .int (0)), (0, .ref (h))]) hx hb dX6_runAllInOrder_8 rfl hl (by decide) rfl (fun ls hl => ?_)
  refine W.widen (k := 0) (n := 0) (Nat.le_of_ble_eq_true rfl) (Nat.le_of_ble_eq_true rfl) ?_
  exact J9 m_N w5 h 0 _ _ _ hd hP hS (lv_sub hl [1, 0] rfl)


noncomputable def e_X6_isSetInOrder (w : mW) (h : Nat) (p0 : Int32) : Option ((Int32 ⊕ String) × mW) := m_t (e_X6_requireName w p0) fun r4 w2 => m_g (m_kd w2 h = 10) <| m_b (e_X6_runAllInOrder w2 h) fun r8 w9 => m_g (m_kd w9 h = 10) <| m_o (m_fr w9 9 6 h) fun r12 => m_g (m_kd w9 r12 = 6) <| m_b (e_X2_hold w9 r12 p0) fun r14 w15 => m_g (vp_nar .boolean r14 = r14) <| some (.inl r14, w15)
set_option maxHeartbeats 1000000 in
set_option maxRecDepth 100000 in
theorem c_X6_isSetInOrder (l : Launch) (hst : l.stackTraces = false) (G : m_G) (w w' : mW) (h : Nat) (p0 : Int32) (o : Int32 ⊕ String) (hd : e_X6_isSetInOrder w h p0 = some (o, w')) : vx_Met l yX6_isSetInOrder wsX6_isSetInOrder ({ frames := 9, cells := 1, slots := 6, locals := 160 } : Room) (m_Pc G w [.ref (h), .int (p0)]) (m_Xi G o w') (m_XC G o w') 1 6 (fun q => G.1 ≤ q) := by
  refine vx_ofW (cc := cX6_isSetInOrder) (maxL := 2) (ret := (some .boolean)) (by decide +kernel) rfl ?_
  intro p e s m args below meth c s₁ B hml hout hv
  obtain ⟨rfl, hM, hP⟩ := hv
  have hx := B.exec
  have hb := B.bytes
  have hr := B.returns
  have hts := atoms_spec (ws := wsX6_isSetInOrder) B.pre
  have hown : s.vm.findClass RX6 = some m.cls := findClass_of_methodNamed B.named
  have hlocks := B.notSynchronized
  have hin9 : ∀ w ∈ u_ws RX6 TX6 8, w ∈ wsX6_isSetInOrder := by decide +kernel
  have hS : va_S (fun q => G.1 ≤ q) s.heap s.heap [] := va_S.rf
  have hl := lv_entry ([.ref (h), .int (p0)]) (n := 2) (Nat.le_of_ble_eq_true rfl)
  rw [lg_entry_eq]
  generalize (lg_sl ([.ref (h), .int (p0)]) ++ List.replicate (2 - (lg_sl ([.ref (h), .int (p0)])).length) Slot.unset).toArray = ls at hl ⊢
  have hl : lv_has ls 2 [(0, .ref (h)), (1, .int (p0))] := hl
  refine lv_iload_n hx hb dX6_isSetInOrder_0 rfl (lv_at hl 1 rfl) ?_
  obtain ⟨o1, w2, hc3, hx5, hd⟩ := m_t_e hd
  refine m_callxv (k := 1) (n := 6) (vx_runS (As := [.int (p0)]) (rest := []) ⟨hx, hb, hml, hown, hts⟩ (c_X6_requireName l hst G w w2 p0 o1 hc3) (va_cwS 1 hts gX6_isSetInOrder_X6_requireName rfl rfl rfl (by decide +kernel) ⟨(Nat.le_of_ble_eq_true rfl), (Nat.le_of_ble_eq_true rfl)⟩) (m_preS hM hP hS) rfl rfl hl.1 rfl (lv_room (Nat.le_of_ble_eq_true rfl)) dX6_isSetInOrder_1 ⟨(Nat.le_of_ble_eq_true rfl), (Nat.le_of_ble_eq_true rfl)⟩) hS ⟨⟨(Nat.le_of_ble_eq_true rfl), (Nat.le_of_ble_eq_true rfl)⟩, (Nat.le_of_ble_eq_true rfl), (Nat.le_of_ble_eq_true rfl)⟩ hout hlocks hx5 (fun r4 ho6 H locs hP hS => ?_)
  have hd := hd r4 ho6
  refine lv_aload_n hx hb dX6_isSetInOrder_4 rfl (lv_at hl 0 rfl) ?_
  obtain ⟨hk7, hd⟩ := m_g_e hd
  obtain ⟨r8, w9, hc10, hd⟩ := m_b_e hd
  refine m_callv (k := 1) (n := 6) (va_runV (As := []) (rest := []) ⟨hx, hb, hml, hown, hts⟩ (c_X6_runAllInOrder l G w2 w9 h r8 hc10) (cwV 0 hts gX6_isSetInOrder_X6_runAllInOrder rfl rfl rfl (by decide +kernel) ⟨(Nat.le_of_ble_eq_true rfl), (Nat.le_of_ble_eq_true rfl)⟩) (m_preV (C := RX6) (T := TX6) (N := 8) hM hP hS rfl (by decide) hk7) rfl rfl hl.1 rfl (lv_room (Nat.le_of_ble_eq_true rfl)) dX6_isSetInOrder_5 ⟨(Nat.le_of_ble_eq_true rfl), (Nat.le_of_ble_eq_true rfl)⟩) hS ⟨(Nat.le_of_ble_eq_true rfl), (Nat.le_of_ble_eq_true rfl)⟩ (fun H locs hP hS => ?_)
  refine lv_aload_n hx hb dX6_isSetInOrder_8 rfl (lv_at hl 0 rfl) ?_
  obtain ⟨hk11, hd⟩ := m_g_e hd
  obtain ⟨r12, hr12, hd⟩ := m_o_e hd
  refine m_getR (C := RX6) (T := TX6) (N := 8) (own := RX6) (ref := RX6) hx hb hts hin9 hown hM.1 hP 9 rfl 6 (r := r12) ⟨hk11, hr12⟩ (by decide) (hts (.fieldLink RX6 38 "CellNotebook" "inOrder" "LCellNotebook$Names;") (by decide +kernel)) (fun _ h9 => h9) dX6_isSetInOrder_9 ?_
  refine lv_iload_n hx hb dX6_isSetInOrder_12 rfl (lv_at hl 1 rfl) ?_
  obtain ⟨hk13, hd⟩ := m_g_e hd
  obtain ⟨r14, w15, hc16, hd⟩ := m_b_e hd
  refine m_calli (k := 1) (n := 6) (va_runV (As := [.int (p0)]) (rest := []) ⟨hx, hb, hml, hown, hts⟩ (c_X2_hold l G w9 w15 r12 p0 r14 hc16) (cwV 1 hts gX6_isSetInOrder_X2_hold rfl rfl rfl (by decide +kernel) ⟨(Nat.le_of_ble_eq_true rfl), (Nat.le_of_ble_eq_true rfl)⟩) (m_preV (C := RX2) (T := TX2) (N := 2) hM hP hS rfl (by decide) hk13) rfl rfl hl.1 rfl (lv_room (Nat.le_of_ble_eq_true rfl)) dX6_isSetInOrder_13 ⟨(Nat.le_of_ble_eq_true rfl), (Nat.le_of_ble_eq_true rfl)⟩) hS ⟨(Nat.le_of_ble_eq_true rfl), (Nat.le_of_ble_eq_true rfl)⟩ (fun H locs hP hS => ?_)
  obtain ⟨hn17, hd⟩ := m_g_e hd
  obtain ⟨e1, e2⟩ := m_s_e hd
  refine vx_ret ?_
  refine W.widen (k := 1) (n := 6) (Nat.le_of_ble_eq_true rfl) (Nat.le_of_ble_eq_true rfl) ?_
  exact W.zret hx hb hr (m_narZ hn17).1 (fun t ht hW => ⟨⟨_, w15, rfl, ⟨e1, e2⟩, by show mP _ _ t.heap; rw [ht]; exact hP⟩, hS.F ht⟩) hS.2.2 dX6_isSetInOrder_16


noncomputable def e_X6_valueInOrder (w : mW) (h : Nat) (p0 : Int32) : Option ((Int32 ⊕ String) × mW) := m_t (e_X6_requireName w p0) fun r4 w2 => m_g (m_kd w2 h = 10) <| m_b (e_X6_runAllInOrder w2 h) fun r8 w9 => m_g (m_kd w9 h = 10) <| m_o (m_fr w9 9 6 h) fun r12 => m_t (e_X6_requireValue w9 r12 p0) fun r16 w14 => some (.inl r16, w14)
set_option maxHeartbeats 1000000 in
set_option maxRecDepth 100000 in
theorem c_X6_valueInOrder (l : Launch) (hst : l.stackTraces = false) (G : m_G) (w w' : mW) (h : Nat) (p0 : Int32) (o : Int32 ⊕ String) (hd : e_X6_valueInOrder w h p0 = some (o, w')) : vx_Met l yX6_valueInOrder wsX6_valueInOrder ({ frames := 9, cells := 2, slots := 12, locals := 161 } : Room) (m_Pc G w [.ref (h), .int (p0)]) (m_Xi G o w') (m_XC G o w') 2 12 (fun q => G.1 ≤ q) := by
  refine vx_ofW (cc := cX6_valueInOrder) (maxL := 2) (ret := (some .int)) (by decide +kernel) rfl ?_
  intro p e s m args below meth c s₁ B hml hout hv
  obtain ⟨rfl, hM, hP⟩ := hv
  have hx := B.exec
  have hb := B.bytes
  have hr := B.returns
  have hts := atoms_spec (ws := wsX6_valueInOrder) B.pre
  have hown : s.vm.findClass RX6 = some m.cls := findClass_of_methodNamed B.named
  have hlocks := B.notSynchronized
  have hin9 : ∀ w ∈ u_ws RX6 TX6 8, w ∈ wsX6_valueInOrder := by decide +kernel
  have hS : va_S (fun q => G.1 ≤ q) s.heap s.heap [] := va_S.rf
  have hl := lv_entry ([.ref (h), .int (p0)]) (n := 2) (Nat.le_of_ble_eq_true rfl)
  rw [lg_entry_eq]
  generalize (lg_sl ([.ref (h), .int (p0)]) ++ List.replicate (2 - (lg_sl ([.ref (h), .int (p0)])).length) Slot.unset).toArray = ls at hl ⊢
  have hl : lv_has ls 2 [(0, .ref (h)), (1, .int (p0))] := hl
  refine lv_iload_n hx hb dX6_valueInOrder_0 rfl (lv_at hl 1 rfl) ?_
  obtain ⟨o1, w2, hc3, hx5, hd⟩ := m_t_e hd
  refine m_callxv (k := 1) (n := 6) (vx_runS (As := [.int (p0)]) (rest := []) ⟨hx, hb, hml, hown, hts⟩ (c_X6_requireName l hst G w w2 p0 o1 hc3) (va_cwS 1 hts gX6_valueInOrder_X6_requireName rfl rfl rfl (by decide +kernel) ⟨(Nat.le_of_ble_eq_true rfl), (Nat.le_of_ble_eq_true rfl)⟩) (m_preS hM hP hS) rfl rfl hl.1 rfl (lv_room (Nat.le_of_ble_eq_true rfl)) dX6_valueInOrder_1 ⟨(Nat.le_of_ble_eq_true rfl), (Nat.le_of_ble_eq_true rfl)⟩) hS ⟨⟨(Nat.le_of_ble_eq_true rfl), (Nat.le_of_ble_eq_true rfl)⟩, (Nat.le_of_ble_eq_true rfl), (Nat.le_of_ble_eq_true rfl)⟩ hout hlocks hx5 (fun r4 ho6 H locs hP hS => ?_)
  have hd := hd r4 ho6
  refine lv_aload_n hx hb dX6_valueInOrder_4 rfl (lv_at hl 0 rfl) ?_
  obtain ⟨hk7, hd⟩ := m_g_e hd
  obtain ⟨r8, w9, hc10, hd⟩ := m_b_e hd
  refine m_callv (k := 1) (n := 6) (va_runV (As := []) (rest := []) ⟨hx, hb, hml, hown, hts⟩ (c_X6_runAllInOrder l G w2 w9 h r8 hc10) (cwV 0 hts gX6_valueInOrder_X6_runAllInOrder rfl rfl rfl (by decide +kernel) ⟨(Nat.le_of_ble_eq_true rfl), (Nat.le_of_ble_eq_true rfl)⟩) (m_preV (C := RX6) (T := TX6) (N := 8) hM hP hS rfl (by decide) hk7) rfl rfl hl.1 rfl (lv_room (Nat.le_of_ble_eq_true rfl)) dX6_valueInOrder_5 ⟨(Nat.le_of_ble_eq_true rfl), (Nat.le_of_ble_eq_true rfl)⟩) hS ⟨(Nat.le_of_ble_eq_true rfl), (Nat.le_of_ble_eq_true rfl)⟩ (fun H locs hP hS => ?_)
  refine lv_aload_n hx hb dX6_valueInOrder_8 rfl (lv_at hl 0 rfl) ?_
  obtain ⟨hk11, hd⟩ := m_g_e hd
  obtain ⟨r12, hr12, hd⟩ := m_o_e hd
  refine m_getR (C := RX6) (T := TX6) (N := 8) (own := RX6) (ref := RX6) hx hb hts hin9 hown hM.1 hP 9 rfl 6 (r := r12) ⟨hk11, hr12⟩ (by decide) (hts (.fieldLink RX6 38 "CellNotebook" "inOrder" "LCellNotebook$Names;") (by decide +kernel)) (fun _ h9 => h9) dX6_valueInOrder_9 ?_
  refine lv_iload_n hx hb dX6_valueInOrder_12 rfl (lv_at hl 1 rfl) ?_
  obtain ⟨o13, w14, hc15, hx17, hd⟩ := m_t_e hd
  refine m_callxi (k := 2) (n := 12) (vx_runS (As := [.ref (r12), .int (p0)]) (rest := []) ⟨hx, hb, hml, hown, hts⟩ (c_X6_requireValue l hst G w9 w14 r12 p0 o13 hc15) (va_cwS 2 hts gX6_valueInOrder_X6_requireValue rfl rfl rfl (by decide +kernel) ⟨(Nat.le_of_ble_eq_true rfl), (Nat.le_of_ble_eq_true rfl)⟩) (m_preS hM hP hS) rfl rfl hl.1 rfl (lv_room (Nat.le_of_ble_eq_true rfl)) dX6_valueInOrder_13 ⟨(Nat.le_of_ble_eq_true rfl), (Nat.le_of_ble_eq_true rfl)⟩) hS ⟨⟨(Nat.le_of_ble_eq_true rfl), (Nat.le_of_ble_eq_true rfl)⟩, (Nat.le_of_ble_eq_true rfl), (Nat.le_of_ble_eq_true rfl)⟩ hout hlocks hx17 (fun r16 ho18 H locs hP hS => ?_)
  have hd := hd r16 ho18
  obtain ⟨e1, e2⟩ := m_s_e hd
  refine vx_ret ?_
  refine W.widen (k := 2) (n := 12) (Nat.le_of_ble_eq_true rfl) (Nat.le_of_ble_eq_true rfl) ?_
  exact W.iret hx hb hr (fun t ht hW => ⟨⟨_, w14, rfl, ⟨e1, e2⟩, by show mP _ _ t.heap; rw [ht]; exact hP⟩, hS.F ht⟩) hS.2.2 dX6_valueInOrder_16


noncomputable def e_X6_unlikeInOrder_64 (k8 : mW → Nat → Int32 → Int32 → Option (Int32 × mW)) (w : mW) (x0 : Nat) (x1 : Int32) (x2 : Int32) : Option (Int32 × mW) := k8 w x0 x1 (x2 + 1)
noncomputable def e_X6_unlikeInOrder_58 (k8 : mW → Nat → Int32 → Int32 → Option (Int32 × mW)) (w : mW) (x0 : Nat) (x1 : Int32) (x2 : Int32) : Option (Int32 × mW) := e_X6_unlikeInOrder_64 k8 w x0 (x1 ||| (1 <<< (x2 &&& 31))) x2
noncomputable def e_X6_unlikeInOrder_8_b (k8 : mW → Nat → Int32 → Int32 → Option (Int32 × mW)) (w : mW) (x0 : Nat) (x1 : Int32) (x2 : Int32) : Option (Int32 × mW) := if 8 ≤ x2 then (some (x1, w)) else (m_g (m_kd w x0 = 10) <| m_o (m_fr w 9 5 x0) fun r107 => m_g (m_kd w r107 = 8) <| m_o (m_fr w 7 0 r107) fun r109 => m_g (m_kd w r109 = 6) <| m_b (e_X2_hold w r109 x2) fun r111 w112 => m_g (m_kd w112 x0 = 10) <| m_o (m_fr w112 9 6 x0) fun r115 => m_g (m_kd w112 r115 = 6) <| m_b (e_X2_hold w112 r115 x2) fun r117 w118 => if r111 = r117 then (m_g (m_kd w118 x0 = 10) <| m_o (m_fr w118 9 5 x0) fun r122 => m_g (m_kd w118 r122 = 8) <| m_o (m_fr w118 7 0 r122) fun r124 => m_g (m_kd w118 r124 = 6) <| m_b (e_X2_valueOf w118 r124 x2) fun r126 w127 => m_g (m_kd w127 x0 = 10) <| m_o (m_fr w127 9 6 x0) fun r130 => m_g (m_kd w127 r130 = 6) <| m_b (e_X2_valueOf w127 r130 x2) fun r132 w133 => if r126 = r132 then (e_X6_unlikeInOrder_64 k8 w133 x0 x1 x2) else (e_X6_unlikeInOrder_58 k8 w133 x0 x1 x2)) else (e_X6_unlikeInOrder_58 k8 w118 x0 x1 x2))
noncomputable def e_X6_unlikeInOrder_8 (n : Nat) : mW → Nat → Int32 → Int32 → Option (Int32 × mW) := Nat.rec (motive := fun _ => mW → Nat → Int32 → Int32 → Option (Int32 × mW)) (fun _ _ _ _ => none) (fun _ k => e_X6_unlikeInOrder_8_b  k) n
noncomputable def e_X6_unlikeInOrder (w : mW) (h : Nat) : Option (Int32 × mW) := m_g (m_kd w h = 10) <| m_b (e_X6_runAllInOrder w h) fun r2 w3 => e_X6_unlikeInOrder_8 m_N w3 h 0 0
set_option maxHeartbeats 1000000 in
set_option maxRecDepth 100000 in
theorem c_X6_unlikeInOrder (l : Launch) (G : m_G) (w w' : mW) (h : Nat) (r : Int32) (hd : e_X6_unlikeInOrder w h = some (r, w')) : Met l yX6_unlikeInOrder wsX6_unlikeInOrder ({ frames := 6, cells := 0, slots := 0, locals := 132 } : Room) (m_Pc G w [.ref (h)]) (m_Qi G r w') 0 0 (fun q => G.1 ≤ q) := by
  refine Met.ofW (cc := cX6_unlikeInOrder) (maxL := 3) (ret := (some .int)) (by decide +kernel) rfl ?_
  intro p e s m args below meth c s₁ B hml hv
  obtain ⟨rfl, hM, hP⟩ := hv
  have hx := B.exec
  have hb := B.bytes
  have hr := B.returns
  have hts := atoms_spec (ws := wsX6_unlikeInOrder) B.pre
  have hown : s.vm.findClass RX6 = some m.cls := findClass_of_methodNamed B.named
  have hlocks := B.notSynchronized
  have hin7 : ∀ w ∈ u_ws RX4 TX4 2, w ∈ wsX6_unlikeInOrder := by decide +kernel
  have hin9 : ∀ w ∈ u_ws RX6 TX6 8, w ∈ wsX6_unlikeInOrder := by decide +kernel
  have hS : va_S (fun q => G.1 ≤ q) s.heap s.heap [] := va_S.rf
  have J8 : ∀ (n8 : Nat) (w : mW) (x0 : Nat) (x1 : Int32) (x2 : Int32) (H : Heap) (locs : List Loc) (ls : Array Slot), e_X6_unlikeInOrder_8 n8 w x0 x1 x2 = some (r, w') → mP G w H → va_S (fun q => G.1 ≤ q) s.heap H locs → lv_has ls 3 [(0, .ref (x0)), (1, .int (x1)), (2, .int (x2))] → W p l e ({ frames := 6, cells := 0, slots := 0, locals := 132 } : Room) s m ([.ref (h)] : List Value).toArray below meth c H locs 0 0 (MQ below (m_Qi G r w') ([.ref (h)] : List Value).toArray s 0 0 (fun q => G.1 ≤ q)) (F0 m 8 ls []) := by
    intro n8
    induction n8 with
    | zero => intro w x0 x1 x2 H locs ls hd; exact absurd (show (none : Option (Int32 × mW)) = some _ from hd) (fun h => nomatch h)
    | succ n8 ih8 =>
      have J64 : ∀ (w : mW) (x0 : Nat) (x1 : Int32) (x2 : Int32) (H : Heap) (locs : List Loc) (ls : Array Slot), e_X6_unlikeInOrder_64 (e_X6_unlikeInOrder_8 n8) w x0 x1 x2 = some (r, w') → mP G w H → va_S (fun q => G.1 ≤ q) s.heap H locs → lv_has ls 3 [(0, .ref (x0)), (1, .int (x1)), (2, .int (x2))] → W p l e ({ frames := 6, cells := 0, slots := 0, locals := 132 } : Room) s m ([.ref (h)] : List Value).toArray below meth c H locs 0 0 (MQ below (m_Qi G r w') ([.ref (h)] : List Value).toArray s 0 0 (fun q => G.1 ≤ q)) (F0 m 64 ls []) := by
        intro w x0 x1 x2 H locs ls hd hP hS hl
        refine lv_iinc (v := x2 + 1) (lv' := [(2, .int (x2 + 1)), (0, .ref (x0)), (1, .int (x1))]) hx hb dX6_unlikeInOrder_64 hl (k := 2) rfl rfl (by decide) rfl (fun ls hl => ?_)
        refine lv_goto (tgt := 8) hx hb dX6_unlikeInOrder_67 (by decide) ?_
        refine W.widen (k := 0) (n := 0) (Nat.le_of_ble_eq_true rfl) (Nat.le_of_ble_eq_true rfl) ?_
        exact ih8 w x0 x1 (x2 + 1) _ _ _ hd hP hS (lv_sub hl [1, 2, 0] rfl)
      have J58 : ∀ (w : mW) (x0 : Nat) (x1 : Int32) (x2 : Int32) (H : Heap) (locs : List Loc) (ls : Array Slot), e_X6_unlikeInOrder_58 (e_X6_unlikeInOrder_8 n8) w x0 x1 x2 = some (r, w') → mP G w H → va_S (fun q => G.1 ≤ q) s.heap H locs → lv_has ls 3 [(0, .ref (x0)), (1, .int (x1)), (2, .int (x2))] → W p l e ({ frames := 6, cells := 0, slots := 0, locals := 132 } : Room) s m ([.ref (h)] : List Value).toArray below meth c H locs 0 0 (MQ below (m_Qi G r w') ([.ref (h)] : List Value).toArray s 0 0 (fun q => G.1 ≤ q)) (F0 m 58 ls []) := by
        intro w x0 x1 x2 H locs ls hd hP hS hl
        refine lv_iload_n hx hb dX6_unlikeInOrder_58 rfl (lv_at hl 1 rfl) ?_
        refine lv_iconst (v := 1) hx hb dX6_unlikeInOrder_59 (by decide) ?_
        refine lv_iload_n hx hb dX6_unlikeInOrder_60 rfl (lv_at hl 2 rfl) ?_
        refine lv_ishl hx hb dX6_unlikeInOrder_61 ?_
        refine lv_ior hx hb dX6_unlikeInOrder_62 ?_
        refine lv_istore_n (lv' := [(1, .int (x1 ||| (1 <<< (x2 &&& 31)))), (0, .ref (x0)), (2, .int (x2))]) hx hb dX6_unlikeInOrder_63 rfl hl (by decide) rfl (fun ls hl => ?_)
        refine W.widen (k := 0) (n := 0) (Nat.le_of_ble_eq_true rfl) (Nat.le_of_ble_eq_true rfl) ?_
        exact J64 w x0 (x1 ||| (1 <<< (x2 &&& 31))) x2 _ _ _ hd hP hS (lv_sub hl [1, 0, 2] rfl)
      intro w x0 x1 x2 H locs ls hd hP hS hl
      have hd : e_X6_unlikeInOrder_8_b (e_X6_unlikeInOrder_8 n8) w x0 x1 x2 = some (r, w') := hd
      refine lv_iload_n hx hb dX6_unlikeInOrder_8 rfl (lv_at hl 2 rfl) ?_
      refine lv_bipush (v := 8) hx hb dX6_unlikeInOrder_9 (by decide) ?_
      refine lv_icmp_ge (tgt := 70) hx hb dX6_unlikeInOrder_11 (by decide) (fun c105 => ?_) (fun c105 => ?_)
      · have hd := m_i_t c105 hd
        refine lv_iload_n hx hb dX6_unlikeInOrder_70 rfl (lv_at hl 1 rfl) ?_
        obtain ⟨e1, e2⟩ := m_s_e hd
        refine W.widen (k := 0) (n := 0) (Nat.le_of_ble_eq_true rfl) (Nat.le_of_ble_eq_true rfl) ?_
        exact W.iret hx hb hr (fun t ht hW => ⟨⟨_, w, rfl, ⟨e1, e2⟩, by show mP _ _ t.heap; rw [ht]; exact hP⟩, hS.F ht⟩) hS.2.2 dX6_unlikeInOrder_71
      · have hd := m_i_f c105 hd
        refine lv_aload_n hx hb dX6_unlikeInOrder_14 rfl (lv_at hl 0 rfl) ?_
        obtain ⟨hk106, hd⟩ := m_g_e hd
        obtain ⟨r107, hr107, hd⟩ := m_o_e hd
        refine m_getR (C := RX6) (T := TX6) (N := 8) (own := RX6) (ref := RX6) hx hb hts hin9 hown hM.1 hP 9 rfl 5 (r := r107) ⟨hk106, hr107⟩ (by decide) (hts (.fieldLink RX6 31 "CellNotebook" "now" "LCellNotebook$Session;") (by decide +kernel)) (fun _ h9 => h9) dX6_unlikeInOrder_15 ?_
        obtain ⟨hk108, hd⟩ := m_g_e hd
        obtain ⟨r109, hr109, hd⟩ := m_o_e hd
        refine m_getR (C := RX4) (T := TX4) (N := 2) (own := RX6) (ref := RX4) hx hb hts hin7 hown hM.1 hP 7 rfl 0 (r := r109) ⟨hk108, hr109⟩ (by decide) (hts (.fieldLink RX6 177 "CellNotebook$Session" "names" "LCellNotebook$Names;") (by decide +kernel)) (fun _ h9 => h9) dX6_unlikeInOrder_18 ?_
        refine lv_iload_n hx hb dX6_unlikeInOrder_21 rfl (lv_at hl 2 rfl) ?_
        obtain ⟨hk110, hd⟩ := m_g_e hd
        obtain ⟨r111, w112, hc113, hd⟩ := m_b_e hd
        refine m_calli (k := 0) (n := 0) (va_runV (As := [.int (x2)]) (rest := []) ⟨hx, hb, hml, hown, hts⟩ (c_X2_hold l G w w112 r109 x2 r111 hc113) (cwV 1 hts gX6_unlikeInOrder_X2_hold rfl rfl rfl (by decide +kernel) ⟨(Nat.le_of_ble_eq_true rfl), (Nat.le_of_ble_eq_true rfl)⟩) (m_preV (C := RX2) (T := TX2) (N := 2) hM hP hS rfl (by decide) hk110) rfl rfl hl.1 rfl (lv_room (Nat.le_of_ble_eq_true rfl)) dX6_unlikeInOrder_22 ⟨(Nat.le_of_ble_eq_true rfl), (Nat.le_of_ble_eq_true rfl)⟩) hS ⟨(Nat.le_of_ble_eq_true rfl), (Nat.le_of_ble_eq_true rfl)⟩ (fun H locs hP hS => ?_)
        refine lv_aload_n hx hb dX6_unlikeInOrder_25 rfl (lv_at hl 0 rfl) ?_
        obtain ⟨hk114, hd⟩ := m_g_e hd
        obtain ⟨r115, hr115, hd⟩ := m_o_e hd
        refine m_getR (C := RX6) (T := TX6) (N := 8) (own := RX6) (ref := RX6) hx hb hts hin9 hown hM.1 hP 9 rfl 6 (r := r115) ⟨hk114, hr115⟩ (by decide) (hts (.fieldLink RX6 38 "CellNotebook" "inOrder" "LCellNotebook$Names;") (by decide +kernel)) (fun _ h9 => h9) dX6_unlikeInOrder_26 ?_
        refine lv_iload_n hx hb dX6_unlikeInOrder_29 rfl (lv_at hl 2 rfl) ?_
        obtain ⟨hk116, hd⟩ := m_g_e hd
        obtain ⟨r117, w118, hc119, hd⟩ := m_b_e hd
        refine m_calli (k := 0) (n := 0) (va_runV (As := [.int (x2)]) (rest := [.int (r111)]) ⟨hx, hb, hml, hown, hts⟩ (c_X2_hold l G w112 w118 r115 x2 r117 hc119) (cwV 1 hts gX6_unlikeInOrder_X2_hold rfl rfl rfl (by decide +kernel) ⟨(Nat.le_of_ble_eq_true rfl), (Nat.le_of_ble_eq_true rfl)⟩) (m_preV (C := RX2) (T := TX2) (N := 2) hM hP hS rfl (by decide) hk116) rfl rfl hl.1 rfl (lv_room (Nat.le_of_ble_eq_true rfl)) dX6_unlikeInOrder_30 ⟨(Nat.le_of_ble_eq_true rfl), (Nat.le_of_ble_eq_true rfl)⟩) hS ⟨(Nat.le_of_ble_eq_true rfl), (Nat.le_of_ble_eq_true rfl)⟩ (fun H locs hP hS => ?_)
        refine lv_icmp_ne (tgt := 58) hx hb dX6_unlikeInOrder_33 (by decide) (fun c120 => ?_) (fun c120 => ?_)
        · have hd := m_i_f c120 hd
          refine W.widen (k := 0) (n := 0) (Nat.le_of_ble_eq_true rfl) (Nat.le_of_ble_eq_true rfl) ?_
          exact J58 w118 x0 x1 x2 _ _ _ hd hP hS (lv_sub hl [0, 1, 2] rfl)
        · have hd := m_i_t c120 hd
          refine lv_aload_n hx hb dX6_unlikeInOrder_36 rfl (lv_at hl 0 rfl) ?_
          obtain ⟨hk121, hd⟩ := m_g_e hd
          obtain ⟨r122, hr122, hd⟩ := m_o_e hd
          refine m_getR (C := RX6) (T := TX6) (N := 8) (own := RX6) (ref := RX6) hx hb hts hin9 hown hM.1 hP 9 rfl 5 (r := r122) ⟨hk121, hr122⟩ (by decide) (hts (.fieldLink RX6 31 "CellNotebook" "now" "LCellNotebook$Session;") (by decide +kernel)) (fun _ h9 => h9) dX6_unlikeInOrder_37 ?_
          obtain ⟨hk123, hd⟩ := m_g_e hd
          obtain ⟨r124, hr124, hd⟩ := m_o_e hd
          refine m_getR (C := RX4) (T := TX4) (N := 2) (own := RX6) (ref := RX4) hx hb hts hin7 hown hM.1 hP 7 rfl 0 (r := r124) ⟨hk123, hr124⟩ (by decide) (hts (.fieldLink RX6 177 "CellNotebook$Session" "names" "LCellNotebook$Names;") (by decide +kernel)) (fun _ h9 => h9) dX6_unlikeInOrder_40 ?_
          refine lv_iload_n hx hb dX6_unlikeInOrder_43 rfl (lv_at hl 2 rfl) ?_
          obtain ⟨hk125, hd⟩ := m_g_e hd
          obtain ⟨r126, w127, hc128, hd⟩ := m_b_e hd
          refine m_calli (k := 0) (n := 0) (va_runV (As := [.int (x2)]) (rest := []) ⟨hx, hb, hml, hown, hts⟩ (c_X2_valueOf l G w118 w127 r124 x2 r126 hc128) (cwV 1 hts gX6_unlikeInOrder_X2_valueOf rfl rfl rfl (by decide +kernel) ⟨(Nat.le_of_ble_eq_true rfl), (Nat.le_of_ble_eq_true rfl)⟩) (m_preV (C := RX2) (T := TX2) (N := 2) hM hP hS rfl (by decide) hk125) rfl rfl hl.1 rfl (lv_room (Nat.le_of_ble_eq_true rfl)) dX6_unlikeInOrder_44 ⟨(Nat.le_of_ble_eq_true rfl), (Nat.le_of_ble_eq_true rfl)⟩) hS ⟨(Nat.le_of_ble_eq_true rfl), (Nat.le_of_ble_eq_true rfl)⟩ (fun H locs hP hS => ?_)
          refine lv_aload_n hx hb dX6_unlikeInOrder_47 rfl (lv_at hl 0 rfl) ?_
          obtain ⟨hk129, hd⟩ := m_g_e hd
          obtain ⟨r130, hr130, hd⟩ := m_o_e hd
          refine m_getR (C := RX6) (T := TX6) (N := 8) (own := RX6) (ref := RX6) hx hb hts hin9 hown hM.1 hP 9 rfl 6 (r := r130) ⟨hk129, hr130⟩ (by decide) (hts (.fieldLink RX6 38 "CellNotebook" "inOrder" "LCellNotebook$Names;") (by decide +kernel)) (fun _ h9 => h9) dX6_unlikeInOrder_48 ?_
          refine lv_iload_n hx hb dX6_unlikeInOrder_51 rfl (lv_at hl 2 rfl) ?_
          obtain ⟨hk131, hd⟩ := m_g_e hd
          obtain ⟨r132, w133, hc134, hd⟩ := m_b_e hd
          refine m_calli (k := 0) (n := 0) (va_runV (As := [.int (x2)]) (rest := [.int (r126)]) ⟨hx, hb, hml, hown, hts⟩ (c_X2_valueOf l G w127 w133 r130 x2 r132 hc134) (cwV 1 hts gX6_unlikeInOrder_X2_valueOf rfl rfl rfl (by decide +kernel) ⟨(Nat.le_of_ble_eq_true rfl), (Nat.le_of_ble_eq_true rfl)⟩) (m_preV (C := RX2) (T := TX2) (N := 2) hM hP hS rfl (by decide) hk131) rfl rfl hl.1 rfl (lv_room (Nat.le_of_ble_eq_true rfl)) dX6_unlikeInOrder_52 ⟨(Nat.le_of_ble_eq_true rfl), (Nat.le_of_ble_eq_true rfl)⟩) hS ⟨(Nat.le_of_ble_eq_true rfl), (Nat.le_of_ble_eq_true rfl)⟩ (fun H locs hP hS => ?_)
          refine lv_icmp_eq (tgt := 64) hx hb dX6_unlikeInOrder_55 (by decide) (fun c135 => ?_) (fun c135 => ?_)
          · have hd := m_i_t c135 hd
            refine W.widen (k := 0) (n := 0) (Nat.le_of_ble_eq_true rfl) (Nat.le_of_ble_eq_true rfl) ?_
            exact J64 w133 x0 x1 x2 _ _ _ hd hP hS (lv_sub hl [0, 1, 2] rfl)
          · have hd := m_i_f c135 hd
            refine W.widen (k := 0) (n := 0) (Nat.le_of_ble_eq_true rfl) (Nat.le_of_ble_eq_true rfl) ?_
            exact J58 w133 x0 x1 x2 _ _ _ hd hP hS (lv_sub hl [0, 1, 2] rfl)
  have hl := lv_entry ([.ref (h)]) (n := 3) (Nat.le_of_ble_eq_true rfl)
  rw [lg_entry_eq]
  generalize (lg_sl ([.ref (h)]) ++ List.replicate (3 - (lg_sl ([.ref (h)])).length) Slot.unset).toArray = ls at hl ⊢
  have hl : lv_has ls 3 [(0, .ref (h))] := hl
  refine lv_aload_n hx hb dX6_unlikeInOrder_0 rfl (lv_at hl 0 rfl) ?_
  obtain ⟨hk1, hd⟩ := m_g_e hd
  obtain ⟨r2, w3, hc4, hd⟩ := m_b_e hd
  refine m_callv (k := 0) (n := 0) (va_runV (As := []) (rest := []) ⟨hx, hb, hml, hown, hts⟩ (c_X6_runAllInOrder l G w w3 h r2 hc4) (cwV 0 hts gX6_unlikeInOrder_X6_runAllInOrder rfl rfl rfl (by decide +kernel) ⟨(Nat.le_of_ble_eq_true rfl), (Nat.le_of_ble_eq_true rfl)⟩) (m_preV (C := RX6) (T := TX6) (N := 8) hM hP hS rfl (by decide) hk1) rfl rfl hl.1 rfl (lv_room (Nat.le_of_ble_eq_true rfl)) dX6_unlikeInOrder_1 ⟨(Nat.le_of_ble_eq_true rfl), (Nat.le_of_ble_eq_true rfl)⟩) hS ⟨(Nat.le_of_ble_eq_true rfl), (Nat.le_of_ble_eq_true rfl)⟩ (fun H locs hP hS => ?_)
  refine lv_iconst (v := 0) hx hb dX6_unlikeInOrder_4 (by decide) ?_
  refine lv_istore_n (lv' := [(1, .int (0)), (0, .ref (h))]) hx hb dX6_unlikeInOrder_5 rfl hl (by decide) rfl (fun ls hl => ?_)
  refine lv_iconst (v := 0) hx hb dX6_unlikeInOrder_6 (by decide) ?_
  refine lv_istore_n (lv' := [(2, .int (0)), (1, .int (0)), (0, .ref (h))]) hx hb dX6_unlikeInOrder_7 rfl hl (by decide) rfl (fun ls hl => ?_)
  refine W.widen (k := 0) (n := 0) (Nat.le_of_ble_eq_true rfl) (Nat.le_of_ble_eq_true rfl) ?_
  exact J8 m_N w3 h 0 0 _ _ _ hd hP hS (lv_sub hl [2, 1, 0] rfl)


noncomputable def e_X6_runs (w : mW) (h : Nat) : Option (Int32 × mW) := m_g (m_kd w h = 10) <| m_o (m_fr w 9 2 h) fun r2 => m_g (m_kd w r2 = 3) <| m_b (e_Jx4a65c_size_8abf5 w r2) fun r4 w5 => some (r4, w5)
set_option maxHeartbeats 1000000 in
set_option maxRecDepth 100000 in
theorem c_X6_runs (l : Launch) (G : m_G) (w w' : mW) (h : Nat) (r : Int32) (hd : e_X6_runs w h = some (r, w')) : Met l yX6_runs wsX6_runs ({ frames := 1, cells := 0, slots := 0, locals := 20 } : Room) (m_Pc G w [.ref (h)]) (m_Qi G r w') 0 0 (fun q => G.1 ≤ q) := by
  refine Met.ofW (cc := cX6_runs) (maxL := 1) (ret := (some .int)) (by decide +kernel) rfl ?_
  intro p e s m args below meth c s₁ B hml hv
  obtain ⟨rfl, hM, hP⟩ := hv
  have hx := B.exec
  have hb := B.bytes
  have hr := B.returns
  have hts := atoms_spec (ws := wsX6_runs) B.pre
  have hown : s.vm.findClass RX6 = some m.cls := findClass_of_methodNamed B.named
  have hlocks := B.notSynchronized
  have hin9 : ∀ w ∈ u_ws RX6 TX6 8, w ∈ wsX6_runs := by decide +kernel
  have hS : va_S (fun q => G.1 ≤ q) s.heap s.heap [] := va_S.rf
  have hl := lv_entry ([.ref (h)]) (n := 1) (Nat.le_of_ble_eq_true rfl)
  rw [lg_entry_eq]
  generalize (lg_sl ([.ref (h)]) ++ List.replicate (1 - (lg_sl ([.ref (h)])).length) Slot.unset).toArray = ls at hl ⊢
  have hl : lv_has ls 1 [(0, .ref (h))] := hl
  refine lv_aload_n hx hb dX6_runs_0 rfl (lv_at hl 0 rfl) ?_
  obtain ⟨hk1, hd⟩ := m_g_e hd
  obtain ⟨r2, hr2, hd⟩ := m_o_e hd
  refine m_getR (C := RX6) (T := TX6) (N := 8) (own := RX6) (ref := RX6) hx hb hts hin9 hown hM.1 hP 9 rfl 2 (r := r2) ⟨hk1, hr2⟩ (by decide) (hts (.fieldLink RX6 19 "CellNotebook" "allRuns" "Ljava/util/ArrayList;") (by decide +kernel)) (fun _ h9 => h9) dX6_runs_1 ?_
  obtain ⟨hk3, hd⟩ := m_g_e hd
  obtain ⟨r4, w5, hc6, hd⟩ := m_b_e hd
  refine m_calli (k := 0) (n := 0) (va_runV (As := []) (rest := []) ⟨hx, hb, hml, hown, hts⟩ (c_Jx4a65c_size_8abf5 l G w w5 r2 r4 hc6) (cwV 0 hts gX6_runs_Jx4a65c_size_8abf5 rfl rfl rfl (by decide +kernel) ⟨(Nat.le_of_ble_eq_true rfl), (Nat.le_of_ble_eq_true rfl)⟩) (m_preV (C := RJx4a65c) (T := TJx4a65c) (N := 3) hM hP hS rfl (by decide) hk3) rfl rfl hl.1 rfl (lv_room (Nat.le_of_ble_eq_true rfl)) dX6_runs_4 ⟨(Nat.le_of_ble_eq_true rfl), (Nat.le_of_ble_eq_true rfl)⟩) hS ⟨(Nat.le_of_ble_eq_true rfl), (Nat.le_of_ble_eq_true rfl)⟩ (fun H locs hP hS => ?_)
  obtain ⟨e1, e2⟩ := m_s_e hd
  refine W.widen (k := 0) (n := 0) (Nat.le_of_ble_eq_true rfl) (Nat.le_of_ble_eq_true rfl) ?_
  exact W.iret hx hb hr (fun t ht hW => ⟨⟨_, w5, rfl, ⟨e1, e2⟩, by show mP _ _ t.heap; rw [ht]; exact hP⟩, hS.F ht⟩) hS.2.2 dX6_runs_7


noncomputable def e_X6_logged (w : mW) (h : Nat) : Option (Int32 × mW) := m_g (m_kd w h = 10) <| m_o (m_fr w 9 3 h) fun r2 => m_g (m_kd w r2 = 3) <| m_b (e_Jx4a65c_size_8abf5 w r2) fun r4 w5 => some (r4, w5)
set_option maxHeartbeats 1000000 in
set_option maxRecDepth 100000 in
theorem c_X6_logged (l : Launch) (G : m_G) (w w' : mW) (h : Nat) (r : Int32) (hd : e_X6_logged w h = some (r, w')) : Met l yX6_logged wsX6_logged ({ frames := 1, cells := 0, slots := 0, locals := 20 } : Room) (m_Pc G w [.ref (h)]) (m_Qi G r w') 0 0 (fun q => G.1 ≤ q) := by
  refine Met.ofW (cc := cX6_logged) (maxL := 1) (ret := (some .int)) (by decide +kernel) rfl ?_
  intro p e s m args below meth c s₁ B hml hv
  obtain ⟨rfl, hM, hP⟩ := hv
  have hx := B.exec
  have hb := B.bytes
  have hr := B.returns
  have hts := atoms_spec (ws := wsX6_logged) B.pre
  have hown : s.vm.findClass RX6 = some m.cls := findClass_of_methodNamed B.named
  have hlocks := B.notSynchronized
  have hin9 : ∀ w ∈ u_ws RX6 TX6 8, w ∈ wsX6_logged := by decide +kernel
  have hS : va_S (fun q => G.1 ≤ q) s.heap s.heap [] := va_S.rf
  have hl := lv_entry ([.ref (h)]) (n := 1) (Nat.le_of_ble_eq_true rfl)
  rw [lg_entry_eq]
  generalize (lg_sl ([.ref (h)]) ++ List.replicate (1 - (lg_sl ([.ref (h)])).length) Slot.unset).toArray = ls at hl ⊢
  have hl : lv_has ls 1 [(0, .ref (h))] := hl
  refine lv_aload_n hx hb dX6_logged_0 rfl (lv_at hl 0 rfl) ?_
  obtain ⟨hk1, hd⟩ := m_g_e hd
  obtain ⟨r2, hr2, hd⟩ := m_o_e hd
  refine m_getR (C := RX6) (T := TX6) (N := 8) (own := RX6) (ref := RX6) hx hb hts hin9 hown hM.1 hP 9 rfl 3 (r := r2) ⟨hk1, hr2⟩ (by decide) (hts (.fieldLink RX6 22 "CellNotebook" "log" "Ljava/util/ArrayList;") (by decide +kernel)) (fun _ h9 => h9) dX6_logged_1 ?_
  obtain ⟨hk3, hd⟩ := m_g_e hd
  obtain ⟨r4, w5, hc6, hd⟩ := m_b_e hd
  refine m_calli (k := 0) (n := 0) (va_runV (As := []) (rest := []) ⟨hx, hb, hml, hown, hts⟩ (c_Jx4a65c_size_8abf5 l G w w5 r2 r4 hc6) (cwV 0 hts gX6_logged_Jx4a65c_size_8abf5 rfl rfl rfl (by decide +kernel) ⟨(Nat.le_of_ble_eq_true rfl), (Nat.le_of_ble_eq_true rfl)⟩) (m_preV (C := RJx4a65c) (T := TJx4a65c) (N := 3) hM hP hS rfl (by decide) hk3) rfl rfl hl.1 rfl (lv_room (Nat.le_of_ble_eq_true rfl)) dX6_logged_4 ⟨(Nat.le_of_ble_eq_true rfl), (Nat.le_of_ble_eq_true rfl)⟩) hS ⟨(Nat.le_of_ble_eq_true rfl), (Nat.le_of_ble_eq_true rfl)⟩ (fun H locs hP hS => ?_)
  obtain ⟨e1, e2⟩ := m_s_e hd
  refine W.widen (k := 0) (n := 0) (Nat.le_of_ble_eq_true rfl) (Nat.le_of_ble_eq_true rfl) ?_
  exact W.iret hx hb hr (fun t ht hW => ⟨⟨_, w5, rfl, ⟨e1, e2⟩, by show mP _ _ t.heap; rw [ht]; exact hP⟩, hS.F ht⟩) hS.2.2 dX6_logged_7


noncomputable def e_X6_logAt_15 (w : mW)  : Option ((Int32 ⊕ String) × mW) := some (.inr "java/lang/IndexOutOfBoundsException", w)
noncomputable def e_X6_logAt (w : mW) (h : Nat) (p0 : Int32) : Option ((Int32 ⊕ String) × mW) := if p0 < (0 : Int32) then (e_X6_logAt_15 w) else (m_g (m_kd w h = 10) <| m_o (m_fr w 9 3 h) fun r3 => m_g (m_kd w r3 = 3) <| m_b (e_Jx4a65c_size_8abf5 w r3) fun r5 w6 => if p0 < r5 then (m_g (m_kd w6 h = 10) <| m_o (m_fr w6 9 3 h) fun r10 => m_g (m_kd w6 r10 = 3) <| m_b (e_Jx4a65c_get_915e3 w6 r10 p0) fun r12 w13 => m_g (m_kd w13 r12 = 7) <| m_o (m_fr w13 6 1 r12) fun r16 => m_g (m_kd w13 r16 = 5) <| some (.inl (((1000 * (m_fi w13 6 0 r12)) + (10 * (m_fi w13 4 0 r16))) + (m_fi w13 6 2 r12)), w13)) else (e_X6_logAt_15 w6))
set_option maxHeartbeats 1000000 in
set_option maxRecDepth 100000 in
theorem c_X6_logAt (l : Launch) (hst : l.stackTraces = false) (G : m_G) (w w' : mW) (h : Nat) (p0 : Int32) (o : Int32 ⊕ String) (hd : e_X6_logAt w h p0 = some (o, w')) : vx_Met l yX6_logAt wsX6_logAt ({ frames := 8, cells := 1, slots := 6, locals := 140 } : Room) (m_Pc G w [.ref (h), .int (p0)]) (m_Xi G o w') (m_XC G o w') 1 6 (fun q => G.1 ≤ q) := by
  refine vx_ofW (cc := cX6_logAt) (maxL := 3) (ret := (some .int)) (by decide +kernel) rfl ?_
  intro p e s m args below meth c s₁ B hml hout hv
  obtain ⟨rfl, hM, hP⟩ := hv
  have hx := B.exec
  have hb := B.bytes
  have hr := B.returns
  have hts := atoms_spec (ws := wsX6_logAt) B.pre
  have hown : s.vm.findClass RX6 = some m.cls := findClass_of_methodNamed B.named
  have hlocks := B.notSynchronized
  have hin4 : ∀ w ∈ u_ws RX1 TX1 4, w ∈ wsX6_logAt := by decide +kernel
  have hin6 : ∀ w ∈ u_ws RX3 TX3 7, w ∈ wsX6_logAt := by decide +kernel
  have hin9 : ∀ w ∈ u_ws RX6 TX6 8, w ∈ wsX6_logAt := by decide +kernel
  have hS : va_S (fun q => G.1 ≤ q) s.heap s.heap [] := va_S.rf
  have J15 : ∀ (w : mW) (H : Heap) (locs : List Loc) (ls : Array Slot), e_X6_logAt_15 w = some (o, w') → mP G w H → va_S (fun q => G.1 ≤ q) s.heap H locs → lv_has ls 3 [] → W p l e ({ frames := 8, cells := 1, slots := 6, locals := 140 } : Room) s m ([.ref (h), .int (p0)] : List Value).toArray below meth c H locs 0 0 (vx_MQ below (m_Xi G o w') (m_XC G o w') ([.ref (h), .int (p0)] : List Value).toArray s 1 6 (fun q => G.1 ≤ q)) (F0 m 15 ls []) := by
    intro w H locs ls hd hP hS hl
    obtain ⟨e1, e2⟩ := m_s_e hd
    exact m_throwS (own := RX6) (E := "java/lang/IndexOutOfBoundsException") (ik := 140) (is := 241) (ic := 144) (text := "no such run in the log") (w := w) hx hb hst hown (hts (.classLink RX6 140 "java/lang/IndexOutOfBoundsException") (by decide +kernel)) (hts (.initialized "java/lang/IndexOutOfBoundsException") (by decide +kernel)) (m_hat (E := "java/lang/IndexOutOfBoundsException") (fun w h => hts w ((by decide +kernel : ∀ w ∈ (vx_atS RX6 144 "java/lang/IndexOutOfBoundsException" ["java/lang/RuntimeException", "java/lang/Exception"]).filter goodWord, w ∈ wsX6_logAt) w h)) (by decide +kernel) hM.2.1.2.1 (by decide)) (by decide +kernel) (by decide +kernel) (by decide) (by decide +kernel) ⟨rfl, by decide⟩ hM hP hS (hl.1.trans hml.symm) dX6_logAt_15 dX6_logAt_18 dX6_logAt_19 dX6_logAt_21 dX6_logAt_24 hout (Nat.le_of_ble_eq_true rfl) (Nat.le_of_ble_eq_true rfl) (Nat.le_of_ble_eq_true rfl) (Nat.le_of_ble_eq_true rfl) hlocks e1 e2 (Nat.le_of_ble_eq_true rfl) (Nat.le_of_ble_eq_true rfl)
  have hl := lv_entry ([.ref (h), .int (p0)]) (n := 3) (Nat.le_of_ble_eq_true rfl)
  rw [lg_entry_eq]
  generalize (lg_sl ([.ref (h), .int (p0)]) ++ List.replicate (3 - (lg_sl ([.ref (h), .int (p0)])).length) Slot.unset).toArray = ls at hl ⊢
  have hl : lv_has ls 3 [(0, .ref (h)), (1, .int (p0))] := hl
  refine lv_iload_n hx hb dX6_logAt_0 rfl (lv_at hl 1 rfl) ?_
  refine lv_if_lt (tgt := 15) hx hb dX6_logAt_1 (by decide) (fun c1 => ?_) (fun c1 => ?_)
  · have hd := m_i_t c1 hd
    refine W.widen (k := 0) (n := 0) (Nat.le_of_ble_eq_true rfl) (Nat.le_of_ble_eq_true rfl) ?_
    exact J15 w _ _ _ hd hP hS (lv_sub hl [] rfl)
  · have hd := m_i_f c1 hd
    refine lv_iload_n hx hb dX6_logAt_4 rfl (lv_at hl 1 rfl) ?_
    refine lv_aload_n hx hb dX6_logAt_5 rfl (lv_at hl 0 rfl) ?_
    obtain ⟨hk2, hd⟩ := m_g_e hd
    obtain ⟨r3, hr3, hd⟩ := m_o_e hd
    refine m_getR (C := RX6) (T := TX6) (N := 8) (own := RX6) (ref := RX6) hx hb hts hin9 hown hM.1 hP 9 rfl 3 (r := r3) ⟨hk2, hr3⟩ (by decide) (hts (.fieldLink RX6 22 "CellNotebook" "log" "Ljava/util/ArrayList;") (by decide +kernel)) (fun _ h9 => h9) dX6_logAt_6 ?_
    obtain ⟨hk4, hd⟩ := m_g_e hd
    obtain ⟨r5, w6, hc7, hd⟩ := m_b_e hd
    refine m_calli (k := 0) (n := 0) (va_runV (As := []) (rest := [.int (p0)]) ⟨hx, hb, hml, hown, hts⟩ (c_Jx4a65c_size_8abf5 l G w w6 r3 r5 hc7) (cwV 0 hts gX6_logAt_Jx4a65c_size_8abf5 rfl rfl rfl (by decide +kernel) ⟨(Nat.le_of_ble_eq_true rfl), (Nat.le_of_ble_eq_true rfl)⟩) (m_preV (C := RJx4a65c) (T := TJx4a65c) (N := 3) hM hP hS rfl (by decide) hk4) rfl rfl hl.1 rfl (lv_room (Nat.le_of_ble_eq_true rfl)) dX6_logAt_9 ⟨(Nat.le_of_ble_eq_true rfl), (Nat.le_of_ble_eq_true rfl)⟩) hS ⟨(Nat.le_of_ble_eq_true rfl), (Nat.le_of_ble_eq_true rfl)⟩ (fun H locs hP hS => ?_)
    refine lv_icmp_lt (tgt := 25) hx hb dX6_logAt_12 (by decide) (fun c8 => ?_) (fun c8 => ?_)
    · have hd := m_i_t c8 hd
      refine lv_aload_n hx hb dX6_logAt_25 rfl (lv_at hl 0 rfl) ?_
      obtain ⟨hk9, hd⟩ := m_g_e hd
      obtain ⟨r10, hr10, hd⟩ := m_o_e hd
      refine m_getR (C := RX6) (T := TX6) (N := 8) (own := RX6) (ref := RX6) hx hb hts hin9 hown hM.1 hP 9 rfl 3 (r := r10) ⟨hk9, hr10⟩ (by decide) (hts (.fieldLink RX6 22 "CellNotebook" "log" "Ljava/util/ArrayList;") (by decide +kernel)) (fun _ h9 => h9) dX6_logAt_26 ?_
      refine lv_iload_n hx hb dX6_logAt_29 rfl (lv_at hl 1 rfl) ?_
      obtain ⟨hk11, hd⟩ := m_g_e hd
      obtain ⟨r12, w13, hc14, hd⟩ := m_b_e hd
      refine m_callr (k := 0) (n := 0) (va_runV (As := [.int (p0)]) (rest := []) ⟨hx, hb, hml, hown, hts⟩ (c_Jx4a65c_get_915e3 l G w6 w13 r10 p0 r12 hc14) (cwV 1 hts gX6_logAt_Jx4a65c_get_915e3 rfl rfl rfl (by decide +kernel) ⟨(Nat.le_of_ble_eq_true rfl), (Nat.le_of_ble_eq_true rfl)⟩) (m_preV (C := RJx4a65c) (T := TJx4a65c) (N := 3) hM hP hS rfl (by decide) hk11) rfl rfl hl.1 rfl (lv_room (Nat.le_of_ble_eq_true rfl)) dX6_logAt_30 ⟨(Nat.le_of_ble_eq_true rfl), (Nat.le_of_ble_eq_true rfl)⟩) hS ⟨(Nat.le_of_ble_eq_true rfl), (Nat.le_of_ble_eq_true rfl)⟩ (fun H locs hP hS => ?_)
      obtain ⟨hk15, hd⟩ := m_g_e hd
      refine va_castS (own := RX6) (nm := RX3) hx hb hown (hts (.classLink RX6 198 RX3) (by decide +kernel)) (hM.1.1 6 _ rfl).2 (m_recv hM.1 hP hk15 (by decide) rfl) dX6_logAt_33 ?_
      refine lv_astore_n (lv' := [(2, .ref (r12)), (0, .ref (h)), (1, .int (p0))]) hx hb dX6_logAt_36 rfl hl (by decide) rfl (fun ls hl => ?_)
      refine lv_sipush (v := 1000) hx hb dX6_logAt_37 (by decide) ?_
      refine lv_aload_n hx hb dX6_logAt_40 rfl (lv_at hl 0 rfl) ?_
      refine m_getI (C := RX3) (T := TX3) (N := 7) (own := RX6) (ref := RX3) hx hb hts hin6 hown hM.1 hP 6 rfl 0 hk15 (by decide) (hts (.fieldLink RX6 243 "CellNotebook$Run" "number" "I") (by decide +kernel)) (fun _ h9 => h9) dX6_logAt_41 ?_
      refine lv_imul hx hb dX6_logAt_44 ?_
      refine lv_bipush (v := 10) hx hb dX6_logAt_45 (by decide) ?_
      refine lv_aload_n hx hb dX6_logAt_47 rfl (lv_at hl 0 rfl) ?_
      obtain ⟨r16, hr16, hd⟩ := m_o_e hd
      refine m_getR (C := RX3) (T := TX3) (N := 7) (own := RX6) (ref := RX3) hx hb hts hin6 hown hM.1 hP 6 rfl 1 (r := r16) ⟨hk15, hr16⟩ (by decide) (hts (.fieldLink RX6 244 "CellNotebook$Run" "cell" "LCellNotebook$Cell;") (by decide +kernel)) (fun _ h9 => h9) dX6_logAt_48 ?_
      obtain ⟨hk17, hd⟩ := m_g_e hd
      refine m_getI (C := RX1) (T := TX1) (N := 4) (own := RX6) (ref := RX1) hx hb hts hin4 hown hM.1 hP 4 rfl 0 hk17 (by decide) (hts (.fieldLink RX6 128 "CellNotebook$Cell" "number" "I") (by decide +kernel)) (fun _ h9 => h9) dX6_logAt_51 ?_
      refine lv_imul hx hb dX6_logAt_54 ?_
      refine lv_iadd hx hb dX6_logAt_55 ?_
      refine lv_aload_n hx hb dX6_logAt_56 rfl (lv_at hl 0 rfl) ?_
      refine m_getI (C := RX3) (T := TX3) (N := 7) (own := RX6) (ref := RX3) hx hb hts hin6 hown hM.1 hP 6 rfl 2 hk15 (by decide) (hts (.fieldLink RX6 248 "CellNotebook$Run" "user" "I") (by decide +kernel)) (fun _ h9 => h9) dX6_logAt_57 ?_
      refine lv_iadd hx hb dX6_logAt_60 ?_
      obtain ⟨e1, e2⟩ := m_s_e hd
      refine vx_ret ?_
      refine W.widen (k := 1) (n := 6) (Nat.le_of_ble_eq_true rfl) (Nat.le_of_ble_eq_true rfl) ?_
      exact W.iret hx hb hr (fun t ht hW => ⟨⟨_, w13, rfl, ⟨e1, e2⟩, by show mP _ _ t.heap; rw [ht]; exact hP⟩, hS.F ht⟩) hS.2.2 dX6_logAt_61
    · have hd := m_i_f c8 hd
      refine W.widen (k := 0) (n := 0) (Nat.le_of_ble_eq_true rfl) (Nat.le_of_ble_eq_true rfl) ?_
      exact J15 w6 _ _ _ hd hP hS (lv_sub hl [] rfl)


noncomputable def e_X6_forget_63 (k16 : mW → Nat → Int32 → Int32 → Int32 → Option ((Int32 ⊕ String) × mW)) (w : mW) (x0 : Nat) (x1 : Int32) (x2 : Int32) (x3 : Int32) : Option ((Int32 ⊕ String) × mW) := k16 w x0 x1 x2 (x3 + (-1))
noncomputable def e_X6_forget_16_b (k16 : mW → Nat → Int32 → Int32 → Int32 → Option ((Int32 ⊕ String) × mW)) (w : mW) (x0 : Nat) (x1 : Int32) (x2 : Int32) (x3 : Int32) : Option ((Int32 ⊕ String) × mW) := if x3 < (0 : Int32) then (some (.inl x2, w)) else (m_g (m_kd w x0 = 10) <| m_o (m_fr w 9 3 x0) fun r115 => m_g (m_kd w r115 = 3) <| m_b (e_Jx4a65c_get_915e3 w r115 x3) fun r117 w118 => m_g (m_kd w118 r117 = 7) <| if (m_fi w118 6 2 r117) = x1 then (m_g (m_kd w118 x0 = 10) <| m_b (e_X6_isLastRun w118 x0 r117) fun r123 w124 => if r123 = (0 : Int32) then (m_g (m_kd w124 x0 = 10) <| m_o (m_fr w124 9 3 x0) fun r128 => m_g (m_kd w124 r128 = 3) <| m_b (e_Jx4a65c_remove_915e3 w124 r128 x3) fun r130 w131 => e_X6_forget_63 k16 w131 x0 x1 (x2 + 1) x3) else (e_X6_forget_63 k16 w124 x0 x1 x2 x3)) else (e_X6_forget_63 k16 w118 x0 x1 x2 x3))
noncomputable def e_X6_forget_16 (n : Nat) : mW → Nat → Int32 → Int32 → Int32 → Option ((Int32 ⊕ String) × mW) := Nat.rec (motive := fun _ => mW → Nat → Int32 → Int32 → Int32 → Option ((Int32 ⊕ String) × mW)) (fun _ _ _ _ _ => none) (fun _ k => e_X6_forget_16_b  k) n
noncomputable def e_X6_forget (w : mW) (h : Nat) (p0 : Int32) : Option ((Int32 ⊕ String) × mW) := m_t (e_X6_requireUser w p0) fun r4 w2 => m_g (m_kd w2 h = 10) <| m_o (m_fr w2 9 3 h) fun r8 => m_g (m_kd w2 r8 = 3) <| m_b (e_Jx4a65c_size_8abf5 w2 r8) fun r10 w11 => e_X6_forget_16 m_N w11 h p0 0 (r10 - 1)
set_option maxHeartbeats 1000000 in
set_option maxRecDepth 100000 in
theorem c_X6_forget (l : Launch) (hst : l.stackTraces = false) (G : m_G) (w w' : mW) (h : Nat) (p0 : Int32) (o : Int32 ⊕ String) (hd : e_X6_forget w h p0 = some (o, w')) : vx_Met l yX6_forget wsX6_forget ({ frames := 9, cells := 1, slots := 6, locals := 160 } : Room) (m_Pc G w [.ref (h), .int (p0)]) (m_Xi G o w') (m_XC G o w') 1 6 (fun q => G.1 ≤ q) := by
  refine vx_ofW (cc := cX6_forget) (maxL := 5) (ret := (some .int)) (by decide +kernel) rfl ?_
  intro p e s m args below meth c s₁ B hml hout hv
  obtain ⟨rfl, hM, hP⟩ := hv
  have hx := B.exec
  have hb := B.bytes
  have hr := B.returns
  have hts := atoms_spec (ws := wsX6_forget) B.pre
  have hown : s.vm.findClass RX6 = some m.cls := findClass_of_methodNamed B.named
  have hlocks := B.notSynchronized
  have hin6 : ∀ w ∈ u_ws RX3 TX3 7, w ∈ wsX6_forget := by decide +kernel
  have hin9 : ∀ w ∈ u_ws RX6 TX6 8, w ∈ wsX6_forget := by decide +kernel
  have hS : va_S (fun q => G.1 ≤ q) s.heap s.heap [] := va_S.rf
  have J16 : ∀ (n16 : Nat) (w : mW) (x0 : Nat) (x1 : Int32) (x2 : Int32) (x3 : Int32) (H : Heap) (locs : List Loc) (ls : Array Slot), e_X6_forget_16 n16 w x0 x1 x2 x3 = some (o, w') → mP G w H → va_S (fun q => G.1 ≤ q) s.heap H locs → lv_has ls 5 [(0, .ref (x0)), (1, .int (x1)), (2, .int (x2)), (3, .int (x3))] → W p l e ({ frames := 9, cells := 1, slots := 6, locals := 160 } : Room) s m ([.ref (h), .int (p0)] : List Value).toArray below meth c H locs 1 6 (vx_MQ below (m_Xi G o w') (m_XC G o w') ([.ref (h), .int (p0)] : List Value).toArray s 1 6 (fun q => G.1 ≤ q)) (F0 m 16 ls []) := by
    intro n16
    induction n16 with
    | zero => intro w x0 x1 x2 x3 H locs ls hd; exact absurd (show (none : Option ((Int32 ⊕ String) × mW)) = some _ from hd) (fun h => nomatch h)
    | succ n16 ih16 =>
      have J63 : ∀ (w : mW) (x0 : Nat) (x1 : Int32) (x2 : Int32) (x3 : Int32) (H : Heap) (locs : List Loc) (ls : Array Slot), e_X6_forget_63 (e_X6_forget_16 n16) w x0 x1 x2 x3 = some (o, w') → mP G w H → va_S (fun q => G.1 ≤ q) s.heap H locs → lv_has ls 5 [(0, .ref (x0)), (1, .int (x1)), (2, .int (x2)), (3, .int (x3))] → W p l e ({ frames := 9, cells := 1, slots := 6, locals := 160 } : Room) s m ([.ref (h), .int (p0)] : List Value).toArray below meth c H locs 1 6 (vx_MQ below (m_Xi G o w') (m_XC G o w') ([.ref (h), .int (p0)] : List Value).toArray s 1 6 (fun q => G.1 ≤ q)) (F0 m 63 ls []) := by
        intro w x0 x1 x2 x3 H locs ls hd hP hS hl
        refine lv_iinc (v := x3 + (-1)) (lv' := [(3, .int (x3 + (-1))), (0, .ref (x0)), (1, .int (x1)), (2, .int (x2))]) hx hb dX6_forget_63 hl (k := 3) rfl rfl (by decide) rfl (fun ls hl => ?_)
        refine lv_goto (tgt := 16) hx hb dX6_forget_66 (by decide) ?_
        refine W.widen (k := 1) (n := 6) (Nat.le_of_ble_eq_true rfl) (Nat.le_of_ble_eq_true rfl) ?_
        exact ih16 w x0 x1 x2 (x3 + (-1)) _ _ _ hd hP hS (lv_sub hl [1, 2, 3, 0] rfl)
      intro w x0 x1 x2 x3 H locs ls hd hP hS hl
      have hd : e_X6_forget_16_b (e_X6_forget_16 n16) w x0 x1 x2 x3 = some (o, w') := hd
      refine lv_iload_n hx hb dX6_forget_16 rfl (lv_at hl 3 rfl) ?_
      refine lv_if_lt (tgt := 69) hx hb dX6_forget_17 (by decide) (fun c113 => ?_) (fun c113 => ?_)
      · have hd := m_i_t c113 hd
        refine lv_iload_n hx hb dX6_forget_69 rfl (lv_at hl 2 rfl) ?_
        obtain ⟨e1, e2⟩ := m_s_e hd
        refine vx_ret ?_
        refine W.widen (k := 1) (n := 6) (Nat.le_of_ble_eq_true rfl) (Nat.le_of_ble_eq_true rfl) ?_
        exact W.iret hx hb hr (fun t ht hW => ⟨⟨_, w, rfl, ⟨e1, e2⟩, by show mP _ _ t.heap; rw [ht]; exact hP⟩, hS.F ht⟩) hS.2.2 dX6_forget_70
      · have hd := m_i_f c113 hd
        refine lv_aload_n hx hb dX6_forget_20 rfl (lv_at hl 0 rfl) ?_
        obtain ⟨hk114, hd⟩ := m_g_e hd
        obtain ⟨r115, hr115, hd⟩ := m_o_e hd
        refine m_getR (C := RX6) (T := TX6) (N := 8) (own := RX6) (ref := RX6) hx hb hts hin9 hown hM.1 hP 9 rfl 3 (r := r115) ⟨hk114, hr115⟩ (by decide) (hts (.fieldLink RX6 22 "CellNotebook" "log" "Ljava/util/ArrayList;") (by decide +kernel)) (fun _ h9 => h9) dX6_forget_21 ?_
        refine lv_iload_n hx hb dX6_forget_24 rfl (lv_at hl 3 rfl) ?_
        obtain ⟨hk116, hd⟩ := m_g_e hd
        obtain ⟨r117, w118, hc119, hd⟩ := m_b_e hd
        refine m_callr (k := 1) (n := 6) (va_runV (As := [.int (x3)]) (rest := []) ⟨hx, hb, hml, hown, hts⟩ (c_Jx4a65c_get_915e3 l G w w118 r115 x3 r117 hc119) (cwV 1 hts gX6_forget_Jx4a65c_get_915e3 rfl rfl rfl (by decide +kernel) ⟨(Nat.le_of_ble_eq_true rfl), (Nat.le_of_ble_eq_true rfl)⟩) (m_preV (C := RJx4a65c) (T := TJx4a65c) (N := 3) hM hP hS rfl (by decide) hk116) rfl rfl hl.1 rfl (lv_room (Nat.le_of_ble_eq_true rfl)) dX6_forget_25 ⟨(Nat.le_of_ble_eq_true rfl), (Nat.le_of_ble_eq_true rfl)⟩) hS ⟨(Nat.le_of_ble_eq_true rfl), (Nat.le_of_ble_eq_true rfl)⟩ (fun H locs hP hS => ?_)
        obtain ⟨hk120, hd⟩ := m_g_e hd
        refine va_castS (own := RX6) (nm := RX3) hx hb hown (hts (.classLink RX6 198 RX3) (by decide +kernel)) (hM.1.1 6 _ rfl).2 (m_recv hM.1 hP hk120 (by decide) rfl) dX6_forget_28 ?_
        refine lv_astore (lv' := [(4, .ref (r117)), (0, .ref (x0)), (1, .int (x1)), (2, .int (x2)), (3, .int (x3))]) hx hb dX6_forget_31 hl (by decide) rfl (fun ls hl => ?_)
        refine lv_aload hx hb dX6_forget_33 (lv_at hl 0 rfl) ?_
        refine m_getI (C := RX3) (T := TX3) (N := 7) (own := RX6) (ref := RX3) hx hb hts hin6 hown hM.1 hP 6 rfl 2 hk120 (by decide) (hts (.fieldLink RX6 248 "CellNotebook$Run" "user" "I") (by decide +kernel)) (fun _ h9 => h9) dX6_forget_35 ?_
        refine lv_iload_n hx hb dX6_forget_38 rfl (lv_at hl 2 rfl) ?_
        refine lv_icmp_ne (tgt := 63) hx hb dX6_forget_39 (by decide) (fun c121 => ?_) (fun c121 => ?_)
        · have hd := m_i_f c121 hd
          refine W.widen (k := 1) (n := 6) (Nat.le_of_ble_eq_true rfl) (Nat.le_of_ble_eq_true rfl) ?_
          exact J63 w118 x0 x1 x2 x3 _ _ _ hd hP hS (lv_sub hl [1, 2, 3, 4] rfl)
        · have hd := m_i_t c121 hd
          refine lv_aload_n hx hb dX6_forget_42 rfl (lv_at hl 1 rfl) ?_
          refine lv_aload hx hb dX6_forget_43 (lv_at hl 0 rfl) ?_
          obtain ⟨hk122, hd⟩ := m_g_e hd
          obtain ⟨r123, w124, hc125, hd⟩ := m_b_e hd
          refine m_calli (k := 1) (n := 6) (va_runV (As := [.ref (r117)]) (rest := []) ⟨hx, hb, hml, hown, hts⟩ (c_X6_isLastRun l G w118 w124 x0 r117 r123 hc125) (cwV 1 hts gX6_forget_X6_isLastRun rfl rfl rfl (by decide +kernel) ⟨(Nat.le_of_ble_eq_true rfl), (Nat.le_of_ble_eq_true rfl)⟩) (m_preV (C := RX6) (T := TX6) (N := 8) hM hP hS rfl (by decide) hk122) rfl rfl hl.1 rfl (lv_room (Nat.le_of_ble_eq_true rfl)) dX6_forget_45 ⟨(Nat.le_of_ble_eq_true rfl), (Nat.le_of_ble_eq_true rfl)⟩) hS ⟨(Nat.le_of_ble_eq_true rfl), (Nat.le_of_ble_eq_true rfl)⟩ (fun H locs hP hS => ?_)
          refine lv_if_ne (tgt := 63) hx hb dX6_forget_48 (by decide) (fun c126 => ?_) (fun c126 => ?_)
          · have hd := m_i_f c126 hd
            refine W.widen (k := 1) (n := 6) (Nat.le_of_ble_eq_true rfl) (Nat.le_of_ble_eq_true rfl) ?_
            exact J63 w124 x0 x1 x2 x3 _ _ _ hd hP hS (lv_sub hl [1, 2, 3, 4] rfl)
          · have hd := m_i_t c126 hd
            refine lv_aload_n hx hb dX6_forget_51 rfl (lv_at hl 1 rfl) ?_
            obtain ⟨hk127, hd⟩ := m_g_e hd
            obtain ⟨r128, hr128, hd⟩ := m_o_e hd
            refine m_getR (C := RX6) (T := TX6) (N := 8) (own := RX6) (ref := RX6) hx hb hts hin9 hown hM.1 hP 9 rfl 3 (r := r128) ⟨hk127, hr128⟩ (by decide) (hts (.fieldLink RX6 22 "CellNotebook" "log" "Ljava/util/ArrayList;") (by decide +kernel)) (fun _ h9 => h9) dX6_forget_52 ?_
            refine lv_iload_n hx hb dX6_forget_55 rfl (lv_at hl 4 rfl) ?_
            obtain ⟨hk129, hd⟩ := m_g_e hd
            obtain ⟨r130, w131, hc132, hd⟩ := m_b_e hd
            refine m_callr (k := 1) (n := 6) (va_runV (As := [.int (x3)]) (rest := []) ⟨hx, hb, hml, hown, hts⟩ (c_Jx4a65c_remove_915e3 l G w124 w131 r128 x3 r130 hc132) (cwV 1 hts gX6_forget_Jx4a65c_remove_915e3 rfl rfl rfl (by decide +kernel) ⟨(Nat.le_of_ble_eq_true rfl), (Nat.le_of_ble_eq_true rfl)⟩) (m_preV (C := RJx4a65c) (T := TJx4a65c) (N := 3) hM hP hS rfl (by decide) hk129) rfl rfl hl.1 rfl (lv_room (Nat.le_of_ble_eq_true rfl)) dX6_forget_56 ⟨(Nat.le_of_ble_eq_true rfl), (Nat.le_of_ble_eq_true rfl)⟩) hS ⟨(Nat.le_of_ble_eq_true rfl), (Nat.le_of_ble_eq_true rfl)⟩ (fun H locs hP hS => ?_)
            refine lv_pop hx hb dX6_forget_59 rfl ?_
            refine lv_iinc (v := x2 + 1) (lv' := [(2, .int (x2 + 1)), (4, .ref (r117)), (0, .ref (x0)), (1, .int (x1)), (3, .int (x3))]) hx hb dX6_forget_60 hl (k := 3) rfl rfl (by decide) rfl (fun ls hl => ?_)
            refine W.widen (k := 1) (n := 6) (Nat.le_of_ble_eq_true rfl) (Nat.le_of_ble_eq_true rfl) ?_
            exact J63 w131 x0 x1 (x2 + 1) x3 _ _ _ hd hP hS (lv_sub hl [2, 3, 0, 4] rfl)
  have hl := lv_entry ([.ref (h), .int (p0)]) (n := 5) (Nat.le_of_ble_eq_true rfl)
  rw [lg_entry_eq]
  generalize (lg_sl ([.ref (h), .int (p0)]) ++ List.replicate (5 - (lg_sl ([.ref (h), .int (p0)])).length) Slot.unset).toArray = ls at hl ⊢
  have hl : lv_has ls 5 [(0, .ref (h)), (1, .int (p0))] := hl
  refine lv_iload_n hx hb dX6_forget_0 rfl (lv_at hl 1 rfl) ?_
  obtain ⟨o1, w2, hc3, hx5, hd⟩ := m_t_e hd
  refine m_callxv (k := 1) (n := 6) (vx_runS (As := [.int (p0)]) (rest := []) ⟨hx, hb, hml, hown, hts⟩ (c_X6_requireUser l hst G w w2 p0 o1 hc3) (va_cwS 1 hts gX6_forget_X6_requireUser rfl rfl rfl (by decide +kernel) ⟨(Nat.le_of_ble_eq_true rfl), (Nat.le_of_ble_eq_true rfl)⟩) (m_preS hM hP hS) rfl rfl hl.1 rfl (lv_room (Nat.le_of_ble_eq_true rfl)) dX6_forget_1 ⟨(Nat.le_of_ble_eq_true rfl), (Nat.le_of_ble_eq_true rfl)⟩) hS ⟨⟨(Nat.le_of_ble_eq_true rfl), (Nat.le_of_ble_eq_true rfl)⟩, (Nat.le_of_ble_eq_true rfl), (Nat.le_of_ble_eq_true rfl)⟩ hout hlocks hx5 (fun r4 ho6 H locs hP hS => ?_)
  have hd := hd r4 ho6
  refine lv_iconst (v := 0) hx hb dX6_forget_4 (by decide) ?_
  refine lv_istore_n (lv' := [(2, .int (0)), (0, .ref (h)), (1, .int (p0))]) hx hb dX6_forget_5 rfl hl (by decide) rfl (fun ls hl => ?_)
  refine lv_aload_n hx hb dX6_forget_6 rfl (lv_at hl 1 rfl) ?_
  obtain ⟨hk7, hd⟩ := m_g_e hd
  obtain ⟨r8, hr8, hd⟩ := m_o_e hd
  refine m_getR (C := RX6) (T := TX6) (N := 8) (own := RX6) (ref := RX6) hx hb hts hin9 hown hM.1 hP 9 rfl 3 (r := r8) ⟨hk7, hr8⟩ (by decide) (hts (.fieldLink RX6 22 "CellNotebook" "log" "Ljava/util/ArrayList;") (by decide +kernel)) (fun _ h9 => h9) dX6_forget_7 ?_
  obtain ⟨hk9, hd⟩ := m_g_e hd
  obtain ⟨r10, w11, hc12, hd⟩ := m_b_e hd
  refine m_calli (k := 1) (n := 6) (va_runV (As := []) (rest := []) ⟨hx, hb, hml, hown, hts⟩ (c_Jx4a65c_size_8abf5 l G w2 w11 r8 r10 hc12) (cwV 0 hts gX6_forget_Jx4a65c_size_8abf5 rfl rfl rfl (by decide +kernel) ⟨(Nat.le_of_ble_eq_true rfl), (Nat.le_of_ble_eq_true rfl)⟩) (m_preV (C := RJx4a65c) (T := TJx4a65c) (N := 3) hM hP hS rfl (by decide) hk9) rfl rfl hl.1 rfl (lv_room (Nat.le_of_ble_eq_true rfl)) dX6_forget_10 ⟨(Nat.le_of_ble_eq_true rfl), (Nat.le_of_ble_eq_true rfl)⟩) hS ⟨(Nat.le_of_ble_eq_true rfl), (Nat.le_of_ble_eq_true rfl)⟩ (fun H locs hP hS => ?_)
  refine lv_iconst (v := 1) hx hb dX6_forget_13 (by decide) ?_
  refine lv_isub hx hb dX6_forget_14 ?_
  refine lv_istore_n (lv' := [(3, .int (r10 - 1)), (2, .int (0)), (0, .ref (h)), (1, .int (p0))]) hx hb dX6_forget_15 rfl hl (by decide) rfl (fun ls hl => ?_)
  refine W.widen (k := 1) (n := 6) (Nat.le_of_ble_eq_true rfl) (Nat.le_of_ble_eq_true rfl) ?_
  exact J16 m_N w11 h p0 0 (r10 - 1) _ _ _ hd hP hS (lv_sub hl [2, 3, 1, 0] rfl)

