noncomputable def f_X7_ownReason_75 (k26 : xS → Int32 → Int32 → Int32 → Option (Int32 × xS)) (u : xS) (x2 : Int32) (x4 : Int32) (s0 : Int32) (s1 : Int32) : Option (Int32 × xS) := k26 u x2 (s1 ||| s0) (x4 + 1)
noncomputable def f_X7_ownReason_74 (k26 : xS → Int32 → Int32 → Int32 → Option (Int32 × xS)) (u : xS) (x2 : Int32) (x4 : Int32) (s0 : Int32) : Option (Int32 × xS) := f_X7_ownReason_75 k26 u x2 x4 0 s0
noncomputable def f_X7_ownReason_26_b (k26 : xS → Int32 → Int32 → Int32 → Option (Int32 × xS)) (u : xS) (x2 : Int32) (x3 : Int32) (x4 : Int32) : Option (Int32 × xS) := if 8 ≤ x4 then (some (x3, u)) else (m_g (¬ (x2 < 0 ∨ 401 ≤ x2.toNatClampNeg)) <| m_b (f_X7_has u (u.2 16 x2.toNatClampNeg) x4) fun r206 u207 => if r206 = (0 : Int32) then (f_X7_ownReason_74 k26 u207 x2 x4 x3) else (m_g (¬ (((8 * x2) + x4) < 0 ∨ 3208 ≤ ((8 * x2) + x4).toNatClampNeg)) <| m_g (¬ (x4 < 0 ∨ 8 ≤ x4.toNatClampNeg)) <| if (u207.2 20 ((8 * x2) + x4).toNatClampNeg) = (u207.2 11 x4.toNatClampNeg) then (f_X7_ownReason_74 k26 u207 x2 x4 x3) else (f_X7_ownReason_75 k26 u207 x2 x4 2 x3)))
noncomputable def f_X7_ownReason_26 (n : Nat) : xS → Int32 → Int32 → Int32 → Option (Int32 × xS) := Nat.rec (motive := fun _ => xS → Int32 → Int32 → Int32 → Option (Int32 × xS)) (fun _ _ _ _ => none) (fun _ k => f_X7_ownReason_26_b  k) n
noncomputable def f_X7_ownReason_22 (u : xS) (x2 : Int32) (s0 : Int32) : Option (Int32 × xS) := f_X7_ownReason_26 m_N u x2 s0 0
noncomputable def f_X7_ownReason (u : xS) (p0 : Int32) : Option (Int32 × xS) := m_g (¬ (p0 < 0 ∨ 16 ≤ p0.toNatClampNeg)) <| m_g (¬ (p0 < 0 ∨ 16 ≤ p0.toNatClampNeg)) <| if (u.2 7 p0.toNatClampNeg) < (u.2 8 p0.toNatClampNeg) then (f_X7_ownReason_22 u (u.2 8 p0.toNatClampNeg) 0) else (f_X7_ownReason_22 u (u.2 8 p0.toNatClampNeg) 1)
set_option maxHeartbeats 1000000 in
set_option maxRecDepth 100000 in
theorem c_X7_ownReason (l : Launch) (G : m_G) (Z : xB) (hZ : x_ok Z) (u u' : xS) (p0 : Int32) (r : Int32) (hd : f_X7_ownReason u p0 = some (r, u')) : Met l yX7_ownReason wsX7_ownReason ({ frames := 1, cells := 0, slots := 0, locals := 21 } : Room) (m_Pc G (x_ov Z u) [.ref (Z.2.1), .int (p0)]) (m_Qi G r (x_ov Z u')) 0 0 (fun q => G.1 ≤ q) := by
  refine Met.ofW (cc := cX7_ownReason) (maxL := 5) (ret := (some .int)) (by decide +kernel) rfl ?_
  intro p e s m args below meth c s₁ B hml hv
  obtain ⟨rfl, hM, hP⟩ := hv
  have hx := B.exec
  have hb := B.bytes
  have hr := B.returns
  have hts := atoms_spec (ws := wsX7_ownReason) B.pre
  have hown : s.vm.findClass RX7 = some m.cls := findClass_of_methodNamed B.named
  have hlocks := B.notSynchronized
  have hin10 : ∀ w ∈ u_ws RX7 TX7 32, w ∈ wsX7_ownReason := by decide +kernel
  have hS : va_S (fun q => G.1 ≤ q) s.heap s.heap [] := va_S.rf
  have J26 : ∀ (n26 : Nat) (u : xS) (x2 : Int32) (x3 : Int32) (x4 : Int32) (H : Heap) (locs : List Loc) (ls : Array Slot), f_X7_ownReason_26 n26 u x2 x3 x4 = some (r, u') → mP G (x_ov Z u) H → va_S (fun q => G.1 ≤ q) s.heap H locs → lv_has ls 5 [(0, .ref (Z.2.1)), (2, .int (x2)), (3, .int (x3)), (4, .int (x4))] → W p l e ({ frames := 1, cells := 0, slots := 0, locals := 21 } : Room) s m ([.ref (Z.2.1), .int (p0)] : List Value).toArray below meth c H locs 0 0 (MQ below (m_Qi G r (x_ov Z u')) ([.ref (Z.2.1), .int (p0)] : List Value).toArray s 0 0 (fun q => G.1 ≤ q)) (F0 m 26 ls []) := by
    intro n26
    induction n26 with
    | zero => intro u x2 x3 x4 H locs ls hd; exact absurd (show (none : Option (Int32 × xS)) = some _ from hd) (fun h => nomatch h)
    | succ n26 ih26 =>
      have J75 : ∀ (u : xS) (x2 : Int32) (x4 : Int32) (s0 : Int32) (s1 : Int32) (H : Heap) (locs : List Loc) (ls : Array Slot), f_X7_ownReason_75 (f_X7_ownReason_26 n26) u x2 x4 s0 s1 = some (r, u') → mP G (x_ov Z u) H → va_S (fun q => G.1 ≤ q) s.heap H locs → lv_has ls 5 [(0, .ref (Z.2.1)), (2, .int (x2)), (4, .int (x4))] → W p l e ({ frames := 1, cells := 0, slots := 0, locals := 21 } : Room) s m ([.ref (Z.2.1), .int (p0)] : List Value).toArray below meth c H locs 0 0 (MQ below (m_Qi G r (x_ov Z u')) ([.ref (Z.2.1), .int (p0)] : List Value).toArray s 0 0 (fun q => G.1 ≤ q)) (F0 m 75 ls [.int (s0), .int (s1)]) := by
        intro u x2 x4 s0 s1 H locs ls hd hP hS hl
        refine lv_ior hx hb dX7_ownReason_75 ?_
        refine lv_istore_n (lv' := [(3, .int (s1 ||| s0)), (0, .ref (Z.2.1)), (2, .int (x2)), (4, .int (x4))]) hx hb dX7_ownReason_76 rfl hl (by decide) rfl (fun ls hl => ?_)
        refine lv_iinc (v := x4 + 1) (lv' := [(4, .int (x4 + 1)), (3, .int (s1 ||| s0)), (0, .ref (Z.2.1)), (2, .int (x2))]) hx hb dX7_ownReason_77 hl (k := 3) rfl rfl (by decide) rfl (fun ls hl => ?_)
        refine lv_goto (tgt := 26) hx hb dX7_ownReason_80 (by decide) ?_
        refine W.widen (k := 0) (n := 0) (Nat.le_of_ble_eq_true rfl) (Nat.le_of_ble_eq_true rfl) ?_
        exact ih26 u x2 (s1 ||| s0) (x4 + 1) _ _ _ hd hP hS (lv_sub hl [2, 3, 1, 0] rfl)
      have J74 : ∀ (u : xS) (x2 : Int32) (x4 : Int32) (s0 : Int32) (H : Heap) (locs : List Loc) (ls : Array Slot), f_X7_ownReason_74 (f_X7_ownReason_26 n26) u x2 x4 s0 = some (r, u') → mP G (x_ov Z u) H → va_S (fun q => G.1 ≤ q) s.heap H locs → lv_has ls 5 [(0, .ref (Z.2.1)), (2, .int (x2)), (4, .int (x4))] → W p l e ({ frames := 1, cells := 0, slots := 0, locals := 21 } : Room) s m ([.ref (Z.2.1), .int (p0)] : List Value).toArray below meth c H locs 0 0 (MQ below (m_Qi G r (x_ov Z u')) ([.ref (Z.2.1), .int (p0)] : List Value).toArray s 0 0 (fun q => G.1 ≤ q)) (F0 m 74 ls [.int (s0)]) := by
        intro u x2 x4 s0 H locs ls hd hP hS hl
        refine lv_iconst (v := 0) hx hb dX7_ownReason_74 (by decide) ?_
        refine W.widen (k := 0) (n := 0) (Nat.le_of_ble_eq_true rfl) (Nat.le_of_ble_eq_true rfl) ?_
        exact J75 u x2 x4 0 s0 _ _ _ hd hP hS (lv_sub hl [0, 1, 2] rfl)
      intro u x2 x3 x4 H locs ls hd hP hS hl
      have hd : f_X7_ownReason_26_b (f_X7_ownReason_26 n26) u x2 x3 x4 = some (r, u') := hd
      refine lv_iload hx hb dX7_ownReason_26 (lv_at hl 3 rfl) ?_
      refine lv_bipush (v := 8) hx hb dX7_ownReason_28 (by decide) ?_
      refine lv_icmp_ge (tgt := 83) hx hb dX7_ownReason_30 (by decide) (fun c204 => ?_) (fun c204 => ?_)
      · have hd := m_i_t c204 hd
        refine lv_iload_n hx hb dX7_ownReason_83 rfl (lv_at hl 2 rfl) ?_
        obtain ⟨e1, e2⟩ := m_s_e hd
        have e2 := congrArg (x_ov Z) e2
        refine W.widen (k := 0) (n := 0) (Nat.le_of_ble_eq_true rfl) (Nat.le_of_ble_eq_true rfl) ?_
        exact W.iret hx hb hr (fun t ht hW => ⟨⟨_, (x_ov Z u), rfl, ⟨e1, e2⟩, by show mP _ _ t.heap; rw [ht]; exact hP⟩, hS.F ht⟩) hS.2.2 dX7_ownReason_84
      · have hd := m_i_f c204 hd
        refine lv_iload_n hx hb dX7_ownReason_33 rfl (lv_at hl 2 rfl) ?_
        refine lv_aload_n hx hb dX7_ownReason_34 rfl (lv_at hl 0 rfl) ?_
        refine x_getA (own := RX7) (ref := RX7) hx hb hts hin10 hown hM.1 hZ hP 16 (by decide) (hts (.fieldLink RX7 52 "CellNotebookModel" "seen" "[I") (by decide +kernel)) (fun _ h9 => h9) dX7_ownReason_35 ?_
        refine lv_iload_n hx hb dX7_ownReason_38 rfl (lv_at hl 1 rfl) ?_
        obtain ⟨hg205, hd⟩ := m_g_e hd
        refine x_ald hx hb hM.1 hZ hP 16 (by decide) hg205 dX7_ownReason_39 ?_
        refine lv_iload hx hb dX7_ownReason_40 (lv_at hl 3 rfl) ?_
        obtain ⟨r206, u207, hc208, hd⟩ := m_b_e hd
        refine m_calli (k := 0) (n := 0) (va_runS (As := [.int (u.2 16 x2.toNatClampNeg), .int (x4)]) (rest := [.int (x3)]) ⟨hx, hb, hml, hown, hts⟩ (c_X7_has l G Z hZ u u207 (u.2 16 x2.toNatClampNeg) x4 r206 hc208) (va_cwS 2 hts gX7_ownReason_X7_has rfl rfl rfl (by decide +kernel) ⟨(Nat.le_of_ble_eq_true rfl), (Nat.le_of_ble_eq_true rfl)⟩) (m_preS hM hP hS) rfl rfl hl.1 rfl (lv_room (Nat.le_of_ble_eq_true rfl)) dX7_ownReason_42 ⟨(Nat.le_of_ble_eq_true rfl), (Nat.le_of_ble_eq_true rfl)⟩) hS ⟨(Nat.le_of_ble_eq_true rfl), (Nat.le_of_ble_eq_true rfl)⟩ (fun H locs hP hS => ?_)
        refine lv_if_eq (tgt := 74) hx hb dX7_ownReason_45 (by decide) (fun c209 => ?_) (fun c209 => ?_)
        · have hd := m_i_t c209 hd
          refine W.widen (k := 0) (n := 0) (Nat.le_of_ble_eq_true rfl) (Nat.le_of_ble_eq_true rfl) ?_
          exact J74 u207 x2 x4 x3 _ _ _ hd hP hS (lv_sub hl [0, 1, 3] rfl)
        · have hd := m_i_f c209 hd
          refine lv_aload_n hx hb dX7_ownReason_48 rfl (lv_at hl 0 rfl) ?_
          refine x_getA (own := RX7) (ref := RX7) hx hb hts hin10 hown hM.1 hZ hP 20 (by decide) (hts (.fieldLink RX7 65 "CellNotebookModel" "stamps" "[I") (by decide +kernel)) (fun _ h9 => h9) dX7_ownReason_49 ?_
          refine lv_bipush (v := 8) hx hb dX7_ownReason_52 (by decide) ?_
          refine lv_iload_n hx hb dX7_ownReason_54 rfl (lv_at hl 1 rfl) ?_
          refine lv_imul hx hb dX7_ownReason_55 ?_
          refine lv_iload hx hb dX7_ownReason_56 (lv_at hl 3 rfl) ?_
          refine lv_iadd hx hb dX7_ownReason_58 ?_
          obtain ⟨hg210, hd⟩ := m_g_e hd
          refine x_ald hx hb hM.1 hZ hP 20 (by decide) hg210 dX7_ownReason_59 ?_
          refine lv_aload_n hx hb dX7_ownReason_60 rfl (lv_at hl 0 rfl) ?_
          refine x_getA (own := RX7) (ref := RX7) hx hb hts hin10 hown hM.1 hZ hP 11 (by decide) (hts (.fieldLink RX7 40 "CellNotebookModel" "stamp" "[I") (by decide +kernel)) (fun _ h9 => h9) dX7_ownReason_61 ?_
          refine lv_iload hx hb dX7_ownReason_64 (lv_at hl 3 rfl) ?_
          obtain ⟨hg211, hd⟩ := m_g_e hd
          refine x_ald hx hb hM.1 hZ hP 11 (by decide) hg211 dX7_ownReason_66 ?_
          refine lv_icmp_eq (tgt := 74) hx hb dX7_ownReason_67 (by decide) (fun c212 => ?_) (fun c212 => ?_)
          · have hd := m_i_t c212 hd
            refine W.widen (k := 0) (n := 0) (Nat.le_of_ble_eq_true rfl) (Nat.le_of_ble_eq_true rfl) ?_
            exact J74 u207 x2 x4 x3 _ _ _ hd hP hS (lv_sub hl [0, 1, 3] rfl)
          · have hd := m_i_f c212 hd
            refine lv_iconst (v := 2) hx hb dX7_ownReason_70 (by decide) ?_
            refine lv_goto (tgt := 75) hx hb dX7_ownReason_71 (by decide) ?_
            refine W.widen (k := 0) (n := 0) (Nat.le_of_ble_eq_true rfl) (Nat.le_of_ble_eq_true rfl) ?_
            exact J75 u207 x2 x4 2 x3 _ _ _ hd hP hS (lv_sub hl [0, 1, 3] rfl)
  have J22 : ∀ (u : xS) (x2 : Int32) (s0 : Int32) (H : Heap) (locs : List Loc) (ls : Array Slot), f_X7_ownReason_22 u x2 s0 = some (r, u') → mP G (x_ov Z u) H → va_S (fun q => G.1 ≤ q) s.heap H locs → lv_has ls 5 [(0, .ref (Z.2.1)), (2, .int (x2))] → W p l e ({ frames := 1, cells := 0, slots := 0, locals := 21 } : Room) s m ([.ref (Z.2.1), .int (p0)] : List Value).toArray below meth c H locs 0 0 (MQ below (m_Qi G r (x_ov Z u')) ([.ref (Z.2.1), .int (p0)] : List Value).toArray s 0 0 (fun q => G.1 ≤ q)) (F0 m 22 ls [.int (s0)]) := by
    intro u x2 s0 H locs ls hd hP hS hl
    refine lv_istore_n (lv' := [(3, .int (s0)), (0, .ref (Z.2.1)), (2, .int (x2))]) hx hb dX7_ownReason_22 rfl hl (by decide) rfl (fun ls hl => ?_)
    refine lv_iconst (v := 0) hx hb dX7_ownReason_23 (by decide) ?_
    refine lv_istore (lv' := [(4, .int (0)), (3, .int (s0)), (0, .ref (Z.2.1)), (2, .int (x2))]) hx hb dX7_ownReason_24 hl (by decide) rfl (fun ls hl => ?_)
    refine W.widen (k := 0) (n := 0) (Nat.le_of_ble_eq_true rfl) (Nat.le_of_ble_eq_true rfl) ?_
    exact J26 m_N u x2 s0 0 _ _ _ hd hP hS (lv_sub hl [2, 3, 1, 0] rfl)
  have hl := lv_entry ([.ref (Z.2.1), .int (p0)]) (n := 5) (Nat.le_of_ble_eq_true rfl)
  rw [lg_entry_eq]
  generalize (lg_sl ([.ref (Z.2.1), .int (p0)]) ++ List.replicate (5 - (lg_sl ([.ref (Z.2.1), .int (p0)])).length) Slot.unset).toArray = ls at hl ⊢
  have hl : lv_has ls 5 [(0, .ref (Z.2.1)), (1, .int (p0))] := hl
  refine lv_aload_n hx hb dX7_ownReason_0 rfl (lv_at hl 0 rfl) ?_
  refine x_getA (own := RX7) (ref := RX7) hx hb hts hin10 hown hM.1 hZ hP 8 (by decide) (hts (.fieldLink RX7 31 "CellNotebookModel" "last" "[I") (by decide +kernel)) (fun _ h9 => h9) dX7_ownReason_1 ?_
  refine lv_iload_n hx hb dX7_ownReason_4 rfl (lv_at hl 1 rfl) ?_
  obtain ⟨hg1, hd⟩ := m_g_e hd
  refine x_ald hx hb hM.1 hZ hP 8 (by decide) hg1 dX7_ownReason_5 ?_
  refine lv_istore_n (lv' := [(2, .int (u.2 8 p0.toNatClampNeg)), (0, .ref (Z.2.1)), (1, .int (p0))]) hx hb dX7_ownReason_6 rfl hl (by decide) rfl (fun ls hl => ?_)
  refine lv_aload_n hx hb dX7_ownReason_7 rfl (lv_at hl 1 rfl) ?_
  refine x_getA (own := RX7) (ref := RX7) hx hb hts hin10 hown hM.1 hZ hP 7 (by decide) (hts (.fieldLink RX7 28 "CellNotebookModel" "changed" "[I") (by decide +kernel)) (fun _ h9 => h9) dX7_ownReason_8 ?_
  refine lv_iload_n hx hb dX7_ownReason_11 rfl (lv_at hl 2 rfl) ?_
  obtain ⟨hg2, hd⟩ := m_g_e hd
  refine x_ald hx hb hM.1 hZ hP 7 (by decide) hg2 dX7_ownReason_12 ?_
  refine lv_iload_n hx hb dX7_ownReason_13 rfl (lv_at hl 0 rfl) ?_
  refine lv_icmp_lt (tgt := 21) hx hb dX7_ownReason_14 (by decide) (fun c3 => ?_) (fun c3 => ?_)
  · have hd := m_i_t c3 hd
    refine lv_iconst (v := 0) hx hb dX7_ownReason_21 (by decide) ?_
    refine W.widen (k := 0) (n := 0) (Nat.le_of_ble_eq_true rfl) (Nat.le_of_ble_eq_true rfl) ?_
    exact J22 u (u.2 8 p0.toNatClampNeg) 0 _ _ _ hd hP hS (lv_sub hl [1, 0] rfl)
  · have hd := m_i_f c3 hd
    refine lv_iconst (v := 1) hx hb dX7_ownReason_17 (by decide) ?_
    refine lv_goto (tgt := 22) hx hb dX7_ownReason_18 (by decide) ?_
    refine W.widen (k := 0) (n := 0) (Nat.le_of_ble_eq_true rfl) (Nat.le_of_ble_eq_true rfl) ?_
    exact J22 u (u.2 8 p0.toNatClampNeg) 1 _ _ _ hd hP hS (lv_sub hl [1, 0] rfl)


noncomputable def f_X7_rests_108 (k12 : xS → Int32 → Int32 → Int32 → Int32 → Option (Int32 × xS)) (u : xS) (x1 : Int32) (x2 : Int32) (x4 : Int32) (s0 : Int32) : Option (Int32 × xS) := k12 u x1 x2 s0 (x4 + 1)
noncomputable def f_X7_rests_107 (k12 : xS → Int32 → Int32 → Int32 → Int32 → Option (Int32 × xS)) (u : xS) (x1 : Int32) (x2 : Int32) (x4 : Int32) : Option (Int32 × xS) := f_X7_rests_108 k12 u x1 x2 x4 0
noncomputable def f_X7_rests_103 (k12 : xS → Int32 → Int32 → Int32 → Int32 → Option (Int32 × xS)) (u : xS) (x1 : Int32) (x2 : Int32) (x4 : Int32) : Option (Int32 × xS) := f_X7_rests_108 k12 u x1 x2 x4 1
noncomputable def f_X7_rests_49 (k12 : xS → Int32 → Int32 → Int32 → Int32 → Option (Int32 × xS)) (u : xS) (x1 : Int32) (x2 : Int32) (x3 : Int32) (x4 : Int32) (s0 : Int32) : Option (Int32 × xS) := if x3 = (0 : Int32) then (if s0 ≤ (0 : Int32) then (f_X7_rests_107 k12 u x1 x2 x4) else (m_g (¬ (s0 < 0 ∨ 401 ≤ s0.toNatClampNeg)) <| if (u.2 14 s0.toNatClampNeg) = x1 then (f_X7_rests_107 k12 u x1 x2 x4) else (m_g (¬ (s0 < 0 ∨ 401 ≤ s0.toNatClampNeg)) <| m_g (¬ ((u.2 14 s0.toNatClampNeg) < 0 ∨ 16 ≤ (u.2 14 s0.toNatClampNeg).toNatClampNeg)) <| if (u.2 8 (u.2 14 s0.toNatClampNeg).toNatClampNeg) = s0 then (m_g (¬ (s0 < 0 ∨ 401 ≤ s0.toNatClampNeg)) <| m_g (¬ ((u.2 14 s0.toNatClampNeg) < 0 ∨ 16 ≤ (u.2 14 s0.toNatClampNeg).toNatClampNeg)) <| if (u.2 30 (u.2 14 s0.toNatClampNeg).toNatClampNeg) ≤ (0 : Int32) then (f_X7_rests_107 k12 u x1 x2 x4) else (f_X7_rests_103 k12 u x1 x2 x4)) else (f_X7_rests_103 k12 u x1 x2 x4)))) else (f_X7_rests_103 k12 u x1 x2 x4)
noncomputable def f_X7_rests_12_b (k12 : xS → Int32 → Int32 → Int32 → Int32 → Option (Int32 × xS)) (u : xS) (x1 : Int32) (x2 : Int32) (x3 : Int32) (x4 : Int32) : Option (Int32 × xS) := if 8 ≤ x4 then (m_g (vp_nar .boolean x3 = x3) <| some (x3, u)) else (m_g (¬ (x2 < 0 ∨ 401 ≤ x2.toNatClampNeg)) <| m_b (f_X7_has u (u.2 16 x2.toNatClampNeg) x4) fun r105 u106 => if r105 = (0 : Int32) then (f_X7_rests_49 k12 u106 x1 x2 x3 x4 0) else (m_g (¬ (((8 * x2) + x4) < 0 ∨ 3208 ≤ ((8 * x2) + x4).toNatClampNeg)) <| f_X7_rests_49 k12 u106 x1 x2 x3 x4 (u106.2 20 ((8 * x2) + x4).toNatClampNeg)))
noncomputable def f_X7_rests_12 (n : Nat) : xS → Int32 → Int32 → Int32 → Int32 → Option (Int32 × xS) := Nat.rec (motive := fun _ => xS → Int32 → Int32 → Int32 → Int32 → Option (Int32 × xS)) (fun _ _ _ _ _ => none) (fun _ k => f_X7_rests_12_b  k) n
noncomputable def f_X7_rests (u : xS) (p0 : Int32) : Option (Int32 × xS) := m_g (¬ (p0 < 0 ∨ 16 ≤ p0.toNatClampNeg)) <| f_X7_rests_12 m_N u p0 (u.2 8 p0.toNatClampNeg) 0 0
set_option maxHeartbeats 1000000 in
set_option maxRecDepth 100000 in
theorem c_X7_rests (l : Launch) (G : m_G) (Z : xB) (hZ : x_ok Z) (u u' : xS) (p0 : Int32) (r : Int32) (hd : f_X7_rests u p0 = some (r, u')) : Met l yX7_rests wsX7_rests ({ frames := 1, cells := 0, slots := 0, locals := 21 } : Room) (m_Pc G (x_ov Z u) [.ref (Z.2.1), .int (p0)]) (m_Qi G r (x_ov Z u')) 0 0 (fun q => G.1 ≤ q) := by
  refine Met.ofW (cc := cX7_rests) (maxL := 6) (ret := (some .boolean)) (by decide +kernel) rfl ?_
  intro p e s m args below meth c s₁ B hml hv
  obtain ⟨rfl, hM, hP⟩ := hv
  have hx := B.exec
  have hb := B.bytes
  have hr := B.returns
  have hts := atoms_spec (ws := wsX7_rests) B.pre
  have hown : s.vm.findClass RX7 = some m.cls := findClass_of_methodNamed B.named
  have hlocks := B.notSynchronized
  have hin10 : ∀ w ∈ u_ws RX7 TX7 32, w ∈ wsX7_rests := by decide +kernel
  have hS : va_S (fun q => G.1 ≤ q) s.heap s.heap [] := va_S.rf
  have J12 : ∀ (n12 : Nat) (u : xS) (x1 : Int32) (x2 : Int32) (x3 : Int32) (x4 : Int32) (H : Heap) (locs : List Loc) (ls : Array Slot), f_X7_rests_12 n12 u x1 x2 x3 x4 = some (r, u') → mP G (x_ov Z u) H → va_S (fun q => G.1 ≤ q) s.heap H locs → lv_has ls 6 [(0, .ref (Z.2.1)), (1, .int (x1)), (2, .int (x2)), (3, .int (x3)), (4, .int (x4))] → W p l e ({ frames := 1, cells := 0, slots := 0, locals := 21 } : Room) s m ([.ref (Z.2.1), .int (p0)] : List Value).toArray below meth c H locs 0 0 (MQ below (m_Qi G r (x_ov Z u')) ([.ref (Z.2.1), .int (p0)] : List Value).toArray s 0 0 (fun q => G.1 ≤ q)) (F0 m 12 ls []) := by
    intro n12
    induction n12 with
    | zero => intro u x1 x2 x3 x4 H locs ls hd; exact absurd (show (none : Option (Int32 × xS)) = some _ from hd) (fun h => nomatch h)
    | succ n12 ih12 =>
      have J108 : ∀ (u : xS) (x1 : Int32) (x2 : Int32) (x4 : Int32) (s0 : Int32) (H : Heap) (locs : List Loc) (ls : Array Slot), f_X7_rests_108 (f_X7_rests_12 n12) u x1 x2 x4 s0 = some (r, u') → mP G (x_ov Z u) H → va_S (fun q => G.1 ≤ q) s.heap H locs → lv_has ls 6 [(0, .ref (Z.2.1)), (1, .int (x1)), (2, .int (x2)), (4, .int (x4))] → W p l e ({ frames := 1, cells := 0, slots := 0, locals := 21 } : Room) s m ([.ref (Z.2.1), .int (p0)] : List Value).toArray below meth c H locs 0 0 (MQ below (m_Qi G r (x_ov Z u')) ([.ref (Z.2.1), .int (p0)] : List Value).toArray s 0 0 (fun q => G.1 ≤ q)) (F0 m 108 ls [.int (s0)]) := by
        intro u x1 x2 x4 s0 H locs ls hd hP hS hl
        refine lv_istore_n (lv' := [(3, .int (s0)), (0, .ref (Z.2.1)), (1, .int (x1)), (2, .int (x2)), (4, .int (x4))]) hx hb dX7_rests_108 rfl hl (by decide) rfl (fun ls hl => ?_)
        refine lv_iinc (v := x4 + 1) (lv' := [(4, .int (x4 + 1)), (3, .int (s0)), (0, .ref (Z.2.1)), (1, .int (x1)), (2, .int (x2))]) hx hb dX7_rests_109 hl (k := 4) rfl rfl (by decide) rfl (fun ls hl => ?_)
        refine lv_goto (tgt := 12) hx hb dX7_rests_112 (by decide) ?_
        refine W.widen (k := 0) (n := 0) (Nat.le_of_ble_eq_true rfl) (Nat.le_of_ble_eq_true rfl) ?_
        exact ih12 u x1 x2 s0 (x4 + 1) _ _ _ hd hP hS (lv_sub hl [2, 3, 4, 1, 0] rfl)
      have J107 : ∀ (u : xS) (x1 : Int32) (x2 : Int32) (x4 : Int32) (H : Heap) (locs : List Loc) (ls : Array Slot), f_X7_rests_107 (f_X7_rests_12 n12) u x1 x2 x4 = some (r, u') → mP G (x_ov Z u) H → va_S (fun q => G.1 ≤ q) s.heap H locs → lv_has ls 6 [(0, .ref (Z.2.1)), (1, .int (x1)), (2, .int (x2)), (4, .int (x4))] → W p l e ({ frames := 1, cells := 0, slots := 0, locals := 21 } : Room) s m ([.ref (Z.2.1), .int (p0)] : List Value).toArray below meth c H locs 0 0 (MQ below (m_Qi G r (x_ov Z u')) ([.ref (Z.2.1), .int (p0)] : List Value).toArray s 0 0 (fun q => G.1 ≤ q)) (F0 m 107 ls []) := by
        intro u x1 x2 x4 H locs ls hd hP hS hl
        refine lv_iconst (v := 0) hx hb dX7_rests_107 (by decide) ?_
        refine W.widen (k := 0) (n := 0) (Nat.le_of_ble_eq_true rfl) (Nat.le_of_ble_eq_true rfl) ?_
        exact J108 u x1 x2 x4 0 _ _ _ hd hP hS (lv_sub hl [0, 1, 2, 3] rfl)
      have J103 : ∀ (u : xS) (x1 : Int32) (x2 : Int32) (x4 : Int32) (H : Heap) (locs : List Loc) (ls : Array Slot), f_X7_rests_103 (f_X7_rests_12 n12) u x1 x2 x4 = some (r, u') → mP G (x_ov Z u) H → va_S (fun q => G.1 ≤ q) s.heap H locs → lv_has ls 6 [(0, .ref (Z.2.1)), (1, .int (x1)), (2, .int (x2)), (4, .int (x4))] → W p l e ({ frames := 1, cells := 0, slots := 0, locals := 21 } : Room) s m ([.ref (Z.2.1), .int (p0)] : List Value).toArray below meth c H locs 0 0 (MQ below (m_Qi G r (x_ov Z u')) ([.ref (Z.2.1), .int (p0)] : List Value).toArray s 0 0 (fun q => G.1 ≤ q)) (F0 m 103 ls []) := by
        intro u x1 x2 x4 H locs ls hd hP hS hl
        refine lv_iconst (v := 1) hx hb dX7_rests_103 (by decide) ?_
        refine lv_goto (tgt := 108) hx hb dX7_rests_104 (by decide) ?_
        refine W.widen (k := 0) (n := 0) (Nat.le_of_ble_eq_true rfl) (Nat.le_of_ble_eq_true rfl) ?_
        exact J108 u x1 x2 x4 1 _ _ _ hd hP hS (lv_sub hl [0, 1, 2, 3] rfl)
      have J49 : ∀ (u : xS) (x1 : Int32) (x2 : Int32) (x3 : Int32) (x4 : Int32) (s0 : Int32) (H : Heap) (locs : List Loc) (ls : Array Slot), f_X7_rests_49 (f_X7_rests_12 n12) u x1 x2 x3 x4 s0 = some (r, u') → mP G (x_ov Z u) H → va_S (fun q => G.1 ≤ q) s.heap H locs → lv_has ls 6 [(0, .ref (Z.2.1)), (1, .int (x1)), (2, .int (x2)), (3, .int (x3)), (4, .int (x4))] → W p l e ({ frames := 1, cells := 0, slots := 0, locals := 21 } : Room) s m ([.ref (Z.2.1), .int (p0)] : List Value).toArray below meth c H locs 0 0 (MQ below (m_Qi G r (x_ov Z u')) ([.ref (Z.2.1), .int (p0)] : List Value).toArray s 0 0 (fun q => G.1 ≤ q)) (F0 m 49 ls [.int (s0)]) := by
        intro u x1 x2 x3 x4 s0 H locs ls hd hP hS hl
        refine lv_istore (lv' := [(5, .int (s0)), (0, .ref (Z.2.1)), (1, .int (x1)), (2, .int (x2)), (3, .int (x3)), (4, .int (x4))]) hx hb dX7_rests_49 hl (by decide) rfl (fun ls hl => ?_)
        refine lv_iload_n hx hb dX7_rests_51 rfl (lv_at hl 4 rfl) ?_
        refine lv_if_ne (tgt := 103) hx hb dX7_rests_52 (by decide) (fun c210 => ?_) (fun c210 => ?_)
        · have hd := m_i_f c210 hd
          refine W.widen (k := 0) (n := 0) (Nat.le_of_ble_eq_true rfl) (Nat.le_of_ble_eq_true rfl) ?_
          exact J103 u x1 x2 x4 _ _ _ hd hP hS (lv_sub hl [1, 2, 3, 5] rfl)
        · have hd := m_i_t c210 hd
          refine lv_iload hx hb dX7_rests_55 (lv_at hl 0 rfl) ?_
          refine lv_if_le (tgt := 107) hx hb dX7_rests_57 (by decide) (fun c211 => ?_) (fun c211 => ?_)
          · have hd := m_i_t c211 hd
            refine W.widen (k := 0) (n := 0) (Nat.le_of_ble_eq_true rfl) (Nat.le_of_ble_eq_true rfl) ?_
            exact J107 u x1 x2 x4 _ _ _ hd hP hS (lv_sub hl [1, 2, 3, 5] rfl)
          · have hd := m_i_f c211 hd
            refine lv_aload_n hx hb dX7_rests_60 rfl (lv_at hl 1 rfl) ?_
            refine x_getA (own := RX7) (ref := RX7) hx hb hts hin10 hown hM.1 hZ hP 14 (by decide) (hts (.fieldLink RX7 46 "CellNotebookModel" "cell" "[I") (by decide +kernel)) (fun _ h9 => h9) dX7_rests_61 ?_
            refine lv_iload hx hb dX7_rests_64 (lv_at hl 0 rfl) ?_
            obtain ⟨hg212, hd⟩ := m_g_e hd
            refine x_ald hx hb hM.1 hZ hP 14 (by decide) hg212 dX7_rests_66 ?_
            refine lv_iload_n hx hb dX7_rests_67 rfl (lv_at hl 2 rfl) ?_
            refine lv_icmp_eq (tgt := 107) hx hb dX7_rests_68 (by decide) (fun c213 => ?_) (fun c213 => ?_)
            · have hd := m_i_t c213 hd
              refine W.widen (k := 0) (n := 0) (Nat.le_of_ble_eq_true rfl) (Nat.le_of_ble_eq_true rfl) ?_
              exact J107 u x1 x2 x4 _ _ _ hd hP hS (lv_sub hl [1, 2, 3, 5] rfl)
            · have hd := m_i_f c213 hd
              refine lv_aload_n hx hb dX7_rests_71 rfl (lv_at hl 1 rfl) ?_
              refine x_getA (own := RX7) (ref := RX7) hx hb hts hin10 hown hM.1 hZ hP 8 (by decide) (hts (.fieldLink RX7 31 "CellNotebookModel" "last" "[I") (by decide +kernel)) (fun _ h9 => h9) dX7_rests_72 ?_
              refine lv_aload_n hx hb dX7_rests_75 rfl (lv_at hl 1 rfl) ?_
              refine x_getA (own := RX7) (ref := RX7) hx hb hts hin10 hown hM.1 hZ hP 14 (by decide) (hts (.fieldLink RX7 46 "CellNotebookModel" "cell" "[I") (by decide +kernel)) (fun _ h9 => h9) dX7_rests_76 ?_
              refine lv_iload hx hb dX7_rests_79 (lv_at hl 0 rfl) ?_
              obtain ⟨hg214, hd⟩ := m_g_e hd
              refine x_ald hx hb hM.1 hZ hP 14 (by decide) hg214 dX7_rests_81 ?_
              obtain ⟨hg215, hd⟩ := m_g_e hd
              refine x_ald hx hb hM.1 hZ hP 8 (by decide) hg215 dX7_rests_82 ?_
              refine lv_iload hx hb dX7_rests_83 (lv_at hl 0 rfl) ?_
              refine lv_icmp_ne (tgt := 103) hx hb dX7_rests_85 (by decide) (fun c216 => ?_) (fun c216 => ?_)
              · have hd := m_i_f c216 hd
                refine W.widen (k := 0) (n := 0) (Nat.le_of_ble_eq_true rfl) (Nat.le_of_ble_eq_true rfl) ?_
                exact J103 u x1 x2 x4 _ _ _ hd hP hS (lv_sub hl [1, 2, 3, 5] rfl)
              · have hd := m_i_t c216 hd
                refine lv_aload_n hx hb dX7_rests_88 rfl (lv_at hl 1 rfl) ?_
                refine x_getA (own := RX7) (ref := RX7) hx hb hts hin10 hown hM.1 hZ hP 30 (by decide) (hts (.fieldLink RX7 80 "CellNotebookModel" "reason" "[I") (by decide +kernel)) (fun _ h9 => h9) dX7_rests_89 ?_
                refine lv_aload_n hx hb dX7_rests_92 rfl (lv_at hl 1 rfl) ?_
                refine x_getA (own := RX7) (ref := RX7) hx hb hts hin10 hown hM.1 hZ hP 14 (by decide) (hts (.fieldLink RX7 46 "CellNotebookModel" "cell" "[I") (by decide +kernel)) (fun _ h9 => h9) dX7_rests_93 ?_
                refine lv_iload hx hb dX7_rests_96 (lv_at hl 0 rfl) ?_
                obtain ⟨hg217, hd⟩ := m_g_e hd
                refine x_ald hx hb hM.1 hZ hP 14 (by decide) hg217 dX7_rests_98 ?_
                obtain ⟨hg218, hd⟩ := m_g_e hd
                refine x_ald hx hb hM.1 hZ hP 30 (by decide) hg218 dX7_rests_99 ?_
                refine lv_if_le (tgt := 107) hx hb dX7_rests_100 (by decide) (fun c219 => ?_) (fun c219 => ?_)
                · have hd := m_i_t c219 hd
                  refine W.widen (k := 0) (n := 0) (Nat.le_of_ble_eq_true rfl) (Nat.le_of_ble_eq_true rfl) ?_
                  exact J107 u x1 x2 x4 _ _ _ hd hP hS (lv_sub hl [1, 2, 3, 5] rfl)
                · have hd := m_i_f c219 hd
                  refine W.widen (k := 0) (n := 0) (Nat.le_of_ble_eq_true rfl) (Nat.le_of_ble_eq_true rfl) ?_
                  exact J103 u x1 x2 x4 _ _ _ hd hP hS (lv_sub hl [1, 2, 3, 5] rfl)
      intro u x1 x2 x3 x4 H locs ls hd hP hS hl
      have hd : f_X7_rests_12_b (f_X7_rests_12 n12) u x1 x2 x3 x4 = some (r, u') := hd
      refine lv_iload hx hb dX7_rests_12 (lv_at hl 4 rfl) ?_
      refine lv_bipush (v := 8) hx hb dX7_rests_14 (by decide) ?_
      refine lv_icmp_ge (tgt := 115) hx hb dX7_rests_16 (by decide) (fun c102 => ?_) (fun c102 => ?_)
      · have hd := m_i_t c102 hd
        refine lv_iload_n hx hb dX7_rests_115 rfl (lv_at hl 3 rfl) ?_
        obtain ⟨hn103, hd⟩ := m_g_e hd
        obtain ⟨e1, e2⟩ := m_s_e hd
        have e2 := congrArg (x_ov Z) e2
        refine W.widen (k := 0) (n := 0) (Nat.le_of_ble_eq_true rfl) (Nat.le_of_ble_eq_true rfl) ?_
        exact W.zret hx hb hr (m_narZ hn103).1 (fun t ht hW => ⟨⟨_, (x_ov Z u), rfl, ⟨e1, e2⟩, by show mP _ _ t.heap; rw [ht]; exact hP⟩, hS.F ht⟩) hS.2.2 dX7_rests_116
      · have hd := m_i_f c102 hd
        refine lv_aload_n hx hb dX7_rests_19 rfl (lv_at hl 0 rfl) ?_
        refine x_getA (own := RX7) (ref := RX7) hx hb hts hin10 hown hM.1 hZ hP 16 (by decide) (hts (.fieldLink RX7 52 "CellNotebookModel" "seen" "[I") (by decide +kernel)) (fun _ h9 => h9) dX7_rests_20 ?_
        refine lv_iload_n hx hb dX7_rests_23 rfl (lv_at hl 2 rfl) ?_
        obtain ⟨hg104, hd⟩ := m_g_e hd
        refine x_ald hx hb hM.1 hZ hP 16 (by decide) hg104 dX7_rests_24 ?_
        refine lv_iload hx hb dX7_rests_25 (lv_at hl 4 rfl) ?_
        obtain ⟨r105, u106, hc107, hd⟩ := m_b_e hd
        refine m_calli (k := 0) (n := 0) (va_runS (As := [.int (u.2 16 x2.toNatClampNeg), .int (x4)]) (rest := []) ⟨hx, hb, hml, hown, hts⟩ (c_X7_has l G Z hZ u u106 (u.2 16 x2.toNatClampNeg) x4 r105 hc107) (va_cwS 2 hts gX7_rests_X7_has rfl rfl rfl (by decide +kernel) ⟨(Nat.le_of_ble_eq_true rfl), (Nat.le_of_ble_eq_true rfl)⟩) (m_preS hM hP hS) rfl rfl hl.1 rfl (lv_room (Nat.le_of_ble_eq_true rfl)) dX7_rests_27 ⟨(Nat.le_of_ble_eq_true rfl), (Nat.le_of_ble_eq_true rfl)⟩) hS ⟨(Nat.le_of_ble_eq_true rfl), (Nat.le_of_ble_eq_true rfl)⟩ (fun H locs hP hS => ?_)
        refine lv_if_eq (tgt := 48) hx hb dX7_rests_30 (by decide) (fun c108 => ?_) (fun c108 => ?_)
        · have hd := m_i_t c108 hd
          refine lv_iconst (v := 0) hx hb dX7_rests_48 (by decide) ?_
          refine W.widen (k := 0) (n := 0) (Nat.le_of_ble_eq_true rfl) (Nat.le_of_ble_eq_true rfl) ?_
          exact J49 u106 x1 x2 x3 x4 0 _ _ _ hd hP hS (lv_sub hl [0, 1, 2, 3, 4] rfl)
        · have hd := m_i_f c108 hd
          refine lv_aload_n hx hb dX7_rests_33 rfl (lv_at hl 0 rfl) ?_
          refine x_getA (own := RX7) (ref := RX7) hx hb hts hin10 hown hM.1 hZ hP 20 (by decide) (hts (.fieldLink RX7 65 "CellNotebookModel" "stamps" "[I") (by decide +kernel)) (fun _ h9 => h9) dX7_rests_34 ?_
          refine lv_bipush (v := 8) hx hb dX7_rests_37 (by decide) ?_
          refine lv_iload_n hx hb dX7_rests_39 rfl (lv_at hl 2 rfl) ?_
          refine lv_imul hx hb dX7_rests_40 ?_
          refine lv_iload hx hb dX7_rests_41 (lv_at hl 4 rfl) ?_
          refine lv_iadd hx hb dX7_rests_43 ?_
          obtain ⟨hg109, hd⟩ := m_g_e hd
          refine x_ald hx hb hM.1 hZ hP 20 (by decide) hg109 dX7_rests_44 ?_
          refine lv_goto (tgt := 49) hx hb dX7_rests_45 (by decide) ?_
          refine W.widen (k := 0) (n := 0) (Nat.le_of_ble_eq_true rfl) (Nat.le_of_ble_eq_true rfl) ?_
          exact J49 u106 x1 x2 x3 x4 (u106.2 20 ((8 * x2) + x4).toNatClampNeg) _ _ _ hd hP hS (lv_sub hl [0, 1, 2, 3, 4] rfl)
  have hl := lv_entry ([.ref (Z.2.1), .int (p0)]) (n := 6) (Nat.le_of_ble_eq_true rfl)
  rw [lg_entry_eq]
  generalize (lg_sl ([.ref (Z.2.1), .int (p0)]) ++ List.replicate (6 - (lg_sl ([.ref (Z.2.1), .int (p0)])).length) Slot.unset).toArray = ls at hl ⊢
  have hl : lv_has ls 6 [(0, .ref (Z.2.1)), (1, .int (p0))] := hl
  refine lv_aload_n hx hb dX7_rests_0 rfl (lv_at hl 0 rfl) ?_
  refine x_getA (own := RX7) (ref := RX7) hx hb hts hin10 hown hM.1 hZ hP 8 (by decide) (hts (.fieldLink RX7 31 "CellNotebookModel" "last" "[I") (by decide +kernel)) (fun _ h9 => h9) dX7_rests_1 ?_
  refine lv_iload_n hx hb dX7_rests_4 rfl (lv_at hl 1 rfl) ?_
  obtain ⟨hg1, hd⟩ := m_g_e hd
  refine x_ald hx hb hM.1 hZ hP 8 (by decide) hg1 dX7_rests_5 ?_
  refine lv_istore_n (lv' := [(2, .int (u.2 8 p0.toNatClampNeg)), (0, .ref (Z.2.1)), (1, .int (p0))]) hx hb dX7_rests_6 rfl hl (by decide) rfl (fun ls hl => ?_)
  refine lv_iconst (v := 0) hx hb dX7_rests_7 (by decide) ?_
  refine lv_istore_n (lv' := [(3, .int (0)), (2, .int (u.2 8 p0.toNatClampNeg)), (0, .ref (Z.2.1)), (1, .int (p0))]) hx hb dX7_rests_8 rfl hl (by decide) rfl (fun ls hl => ?_)
  refine lv_iconst (v := 0) hx hb dX7_rests_9 (by decide) ?_
  refine lv_istore (lv' := [(4, .int (0)), (3, .int (0)), (2, .int (u.2 8 p0.toNatClampNeg)), (0, .ref (Z.2.1)), (1, .int (p0))]) hx hb dX7_rests_10 hl (by decide) rfl (fun ls hl => ?_)
  refine W.widen (k := 0) (n := 0) (Nat.le_of_ble_eq_true rfl) (Nat.le_of_ble_eq_true rfl) ?_
  exact J12 m_N u p0 (u.2 8 p0.toNatClampNeg) 0 0 _ _ _ hd hP hS (lv_sub hl [3, 4, 2, 1, 0] rfl)


noncomputable def f_X7_reasons_87 (k42 : xS → Int32 → Option (Unit × xS)) (k50 : xS → Int32 → Int32 → Option (Unit × xS)) (u : xS) (x1 : Int32) (x2 : Int32) (s0 : Int32) (s1 : Int32) (s2 : Int32) : Option (Unit × xS) := m_g (¬ (s2 < 0 ∨ 16 ≤ s2.toNatClampNeg)) <| m_l (x_sA u 30 (s2.toNatClampNeg) (s1 ||| s0)) fun u619 => k50 u619 x1 (x2 + 1)
noncomputable def f_X7_reasons_86 (k42 : xS → Int32 → Option (Unit × xS)) (k50 : xS → Int32 → Int32 → Option (Unit × xS)) (u : xS) (x1 : Int32) (x2 : Int32) (s0 : Int32) (s1 : Int32) : Option (Unit × xS) := f_X7_reasons_87 k42 k50 u x1 x2 0 s0 s1
noncomputable def f_X7_reasons_50_b (k42 : xS → Int32 → Option (Unit × xS)) (k50 : xS → Int32 → Int32 → Option (Unit × xS)) (u : xS) (x1 : Int32) (x2 : Int32) : Option (Unit × xS) := if (u.1 0) ≤ x2 then (k42 u (x1 + 1)) else (m_g (¬ (x2 < 0 ∨ 16 ≤ x2.toNatClampNeg)) <| m_g (¬ (x2 < 0 ∨ 16 ≤ x2.toNatClampNeg)) <| if (u.2 8 x2.toNatClampNeg) ≤ (0 : Int32) then (f_X7_reasons_86 k42 k50 u x1 x2 (u.2 30 x2.toNatClampNeg) x2) else (m_b (f_X7_rests u x2) fun r414 u415 => if r414 = (0 : Int32) then (f_X7_reasons_86 k42 k50 u415 x1 x2 (u.2 30 x2.toNatClampNeg) x2) else (f_X7_reasons_87 k42 k50 u415 x1 x2 4 (u.2 30 x2.toNatClampNeg) x2)))
noncomputable def f_X7_reasons_50 (k42 : xS → Int32 → Option (Unit × xS)) (n : Nat) : xS → Int32 → Int32 → Option (Unit × xS) := Nat.rec (motive := fun _ => xS → Int32 → Int32 → Option (Unit × xS)) (fun _ _ _ => none) (fun _ k => f_X7_reasons_50_b k42 k) n
noncomputable def f_X7_reasons_42_b (k42 : xS → Int32 → Option (Unit × xS)) (u : xS) (x1 : Int32) : Option (Unit × xS) := if 16 ≤ x1 then (some ((), u)) else (f_X7_reasons_50 k42 m_N u x1 0)
noncomputable def f_X7_reasons_42 (n : Nat) : xS → Int32 → Option (Unit × xS) := Nat.rec (motive := fun _ => xS → Int32 → Option (Unit × xS)) (fun _ _ => none) (fun _ k => f_X7_reasons_42_b  k) n
noncomputable def f_X7_reasons_33 (k2 : xS → Int32 → Option (Unit × xS)) (u : xS) (x1 : Int32) (s0 : Int32) (s1 : Int32) : Option (Unit × xS) := m_g (¬ (s1 < 0 ∨ 16 ≤ s1.toNatClampNeg)) <| m_l (x_sA u 30 (s1.toNatClampNeg) s0) fun u208 => k2 u208 (x1 + 1)
noncomputable def f_X7_reasons_2_b (k2 : xS → Int32 → Option (Unit × xS)) (u : xS) (x1 : Int32) : Option (Unit × xS) := if (u.1 0) ≤ x1 then (f_X7_reasons_42 m_N u 0) else (m_g (¬ (x1 < 0 ∨ 16 ≤ x1.toNatClampNeg)) <| if (u.2 8 x1.toNatClampNeg) = (0 : Int32) then (f_X7_reasons_33 k2 u x1 0 x1) else (m_b (f_X7_ownReason u x1) fun r104 u105 => f_X7_reasons_33 k2 u105 x1 r104 x1))
noncomputable def f_X7_reasons_2 (n : Nat) : xS → Int32 → Option (Unit × xS) := Nat.rec (motive := fun _ => xS → Int32 → Option (Unit × xS)) (fun _ _ => none) (fun _ k => f_X7_reasons_2_b  k) n
noncomputable def f_X7_reasons (u : xS)  : Option (Unit × xS) := f_X7_reasons_2 m_N u 0
set_option maxHeartbeats 1000000 in
set_option maxRecDepth 100000 in
theorem c_X7_reasons (l : Launch) (G : m_G) (Z : xB) (hZ : x_ok Z) (u u' : xS)  (r : Unit) (hd : f_X7_reasons u = some (r, u')) : Met l yX7_reasons wsX7_reasons ({ frames := 2, cells := 0, slots := 0, locals := 46 } : Room) (m_Pc G (x_ov Z u) [.ref (Z.2.1)]) (m_Qv G r (x_ov Z u')) 0 0 (fun q => G.1 ≤ q) := by
  refine Met.ofW (cc := cX7_reasons) (maxL := 3) (ret := none) (by decide +kernel) rfl ?_
  intro p e s m args below meth c s₁ B hml hv
  obtain ⟨rfl, hM, hP⟩ := hv
  have hx := B.exec
  have hb := B.bytes
  have hr := B.returns
  have hts := atoms_spec (ws := wsX7_reasons) B.pre
  have hown : s.vm.findClass RX7 = some m.cls := findClass_of_methodNamed B.named
  have hlocks := B.notSynchronized
  have hin10 : ∀ w ∈ u_ws RX7 TX7 32, w ∈ wsX7_reasons := by decide +kernel
  have hS : va_S (fun q => G.1 ≤ q) s.heap s.heap [] := va_S.rf
  have J42 : ∀ (n42 : Nat) (u : xS) (x1 : Int32) (H : Heap) (locs : List Loc) (ls : Array Slot), f_X7_reasons_42 n42 u x1 = some (r, u') → mP G (x_ov Z u) H → va_S (fun q => G.1 ≤ q) s.heap H locs → lv_has ls 3 [(0, .ref (Z.2.1)), (1, .int (x1))] → W p l e ({ frames := 2, cells := 0, slots := 0, locals := 46 } : Room) s m ([.ref (Z.2.1)] : List Value).toArray below meth c H locs 0 0 (MQ below (m_Qv G r (x_ov Z u')) ([.ref (Z.2.1)] : List Value).toArray s 0 0 (fun q => G.1 ≤ q)) (F0 m 42 ls []) := by
    intro n42
    induction n42 with
    | zero => intro u x1 H locs ls hd; exact absurd (show (none : Option (Unit × xS)) = some _ from hd) (fun h => nomatch h)
    | succ n42 ih42 =>
      have J50 : ∀ (n50 : Nat) (u : xS) (x1 : Int32) (x2 : Int32) (H : Heap) (locs : List Loc) (ls : Array Slot), f_X7_reasons_50 (f_X7_reasons_42 n42) n50 u x1 x2 = some (r, u') → mP G (x_ov Z u) H → va_S (fun q => G.1 ≤ q) s.heap H locs → lv_has ls 3 [(0, .ref (Z.2.1)), (1, .int (x1)), (2, .int (x2))] → W p l e ({ frames := 2, cells := 0, slots := 0, locals := 46 } : Room) s m ([.ref (Z.2.1)] : List Value).toArray below meth c H locs 0 0 (MQ below (m_Qv G r (x_ov Z u')) ([.ref (Z.2.1)] : List Value).toArray s 0 0 (fun q => G.1 ≤ q)) (F0 m 50 ls []) := by
        intro n50
        induction n50 with
        | zero => intro u x1 x2 H locs ls hd; exact absurd (show (none : Option (Unit × xS)) = some _ from hd) (fun h => nomatch h)
        | succ n50 ih50 =>
          have J87 : ∀ (u : xS) (x1 : Int32) (x2 : Int32) (s0 : Int32) (s1 : Int32) (s2 : Int32) (H : Heap) (locs : List Loc) (ls : Array Slot), f_X7_reasons_87 (f_X7_reasons_42 n42) (f_X7_reasons_50 (f_X7_reasons_42 n42) n50) u x1 x2 s0 s1 s2 = some (r, u') → mP G (x_ov Z u) H → va_S (fun q => G.1 ≤ q) s.heap H locs → lv_has ls 3 [(0, .ref (Z.2.1)), (1, .int (x1)), (2, .int (x2))] → W p l e ({ frames := 2, cells := 0, slots := 0, locals := 46 } : Room) s m ([.ref (Z.2.1)] : List Value).toArray below meth c H locs 0 0 (MQ below (m_Qv G r (x_ov Z u')) ([.ref (Z.2.1)] : List Value).toArray s 0 0 (fun q => G.1 ≤ q)) (F0 m 87 ls [.int (s0), .int (s1), .int (s2), .ref (Z.2.2.1 30)]) := by
            intro u x1 x2 s0 s1 s2 H locs ls hd hP hS hl
            refine lv_ior hx hb dX7_reasons_87 ?_
            obtain ⟨hg618, hd⟩ := m_g_e hd
            refine x_ast hx hb hM.1 hZ hP hS 30 (by decide) hg618 dX7_reasons_88 (fun H locs hP hS => ?_)
            obtain ⟨u619, ew, hd⟩ := m_l_e hd
            have hP : mP G (x_ov Z u619) H := by rw [ew]; exact hP
            refine lv_iinc (v := x2 + 1) (lv' := [(2, .int (x2 + 1)), (0, .ref (Z.2.1)), (1, .int (x1))]) hx hb dX7_reasons_89 hl (k := 2) rfl rfl (by decide) rfl (fun ls hl => ?_)
            refine lv_goto (tgt := 50) hx hb dX7_reasons_92 (by decide) ?_
            refine W.widen (k := 0) (n := 0) (Nat.le_of_ble_eq_true rfl) (Nat.le_of_ble_eq_true rfl) ?_
            exact ih50 u619 x1 (x2 + 1) _ _ _ hd hP hS (lv_sub hl [1, 2, 0] rfl)
          have J86 : ∀ (u : xS) (x1 : Int32) (x2 : Int32) (s0 : Int32) (s1 : Int32) (H : Heap) (locs : List Loc) (ls : Array Slot), f_X7_reasons_86 (f_X7_reasons_42 n42) (f_X7_reasons_50 (f_X7_reasons_42 n42) n50) u x1 x2 s0 s1 = some (r, u') → mP G (x_ov Z u) H → va_S (fun q => G.1 ≤ q) s.heap H locs → lv_has ls 3 [(0, .ref (Z.2.1)), (1, .int (x1)), (2, .int (x2))] → W p l e ({ frames := 2, cells := 0, slots := 0, locals := 46 } : Room) s m ([.ref (Z.2.1)] : List Value).toArray below meth c H locs 0 0 (MQ below (m_Qv G r (x_ov Z u')) ([.ref (Z.2.1)] : List Value).toArray s 0 0 (fun q => G.1 ≤ q)) (F0 m 86 ls [.int (s0), .int (s1), .ref (Z.2.2.1 30)]) := by
            intro u x1 x2 s0 s1 H locs ls hd hP hS hl
            refine lv_iconst (v := 0) hx hb dX7_reasons_86 (by decide) ?_
            refine W.widen (k := 0) (n := 0) (Nat.le_of_ble_eq_true rfl) (Nat.le_of_ble_eq_true rfl) ?_
            exact J87 u x1 x2 0 s0 s1 _ _ _ hd hP hS (lv_sub hl [0, 1, 2] rfl)
          intro u x1 x2 H locs ls hd hP hS hl
          have hd : f_X7_reasons_50_b (f_X7_reasons_42 n42) (f_X7_reasons_50 (f_X7_reasons_42 n42) n50) u x1 x2 = some (r, u') := hd
          refine lv_iload_n hx hb dX7_reasons_50 rfl (lv_at hl 2 rfl) ?_
          refine lv_aload_n hx hb dX7_reasons_51 rfl (lv_at hl 0 rfl) ?_
          refine x_getI (own := RX7) (ref := RX7) hx hb hts hin10 hown hM.1 hZ hP 0 (by decide) (hts (.fieldLink RX7 87 "CellNotebookModel" "cells" "I") (by decide +kernel)) (fun _ h9 => h9) dX7_reasons_52 ?_
          refine lv_icmp_ge (tgt := 95) hx hb dX7_reasons_55 (by decide) (fun c410 => ?_) (fun c410 => ?_)
          · have hd := m_i_t c410 hd
            refine lv_iinc (v := x1 + 1) (lv' := [(1, .int (x1 + 1)), (0, .ref (Z.2.1)), (2, .int (x2))]) hx hb dX7_reasons_95 hl (k := 1) rfl rfl (by decide) rfl (fun ls hl => ?_)
            refine lv_goto (tgt := 42) hx hb dX7_reasons_98 (by decide) ?_
            refine W.widen (k := 0) (n := 0) (Nat.le_of_ble_eq_true rfl) (Nat.le_of_ble_eq_true rfl) ?_
            exact ih42 u (x1 + 1) _ _ _ hd hP hS (lv_sub hl [1, 0] rfl)
          · have hd := m_i_f c410 hd
            refine lv_aload_n hx hb dX7_reasons_58 rfl (lv_at hl 0 rfl) ?_
            refine x_getA (own := RX7) (ref := RX7) hx hb hts hin10 hown hM.1 hZ hP 30 (by decide) (hts (.fieldLink RX7 80 "CellNotebookModel" "reason" "[I") (by decide +kernel)) (fun _ h9 => h9) dX7_reasons_59 ?_
            refine lv_iload_n hx hb dX7_reasons_62 rfl (lv_at hl 2 rfl) ?_
            refine lv_dup2_11 hx hb dX7_reasons_63 rfl rfl ?_
            obtain ⟨hg411, hd⟩ := m_g_e hd
            refine x_ald hx hb hM.1 hZ hP 30 (by decide) hg411 dX7_reasons_64 ?_
            refine lv_aload_n hx hb dX7_reasons_65 rfl (lv_at hl 0 rfl) ?_
            refine x_getA (own := RX7) (ref := RX7) hx hb hts hin10 hown hM.1 hZ hP 8 (by decide) (hts (.fieldLink RX7 31 "CellNotebookModel" "last" "[I") (by decide +kernel)) (fun _ h9 => h9) dX7_reasons_66 ?_
            refine lv_iload_n hx hb dX7_reasons_69 rfl (lv_at hl 2 rfl) ?_
            obtain ⟨hg412, hd⟩ := m_g_e hd
            refine x_ald hx hb hM.1 hZ hP 8 (by decide) hg412 dX7_reasons_70 ?_
            refine lv_if_le (tgt := 86) hx hb dX7_reasons_71 (by decide) (fun c413 => ?_) (fun c413 => ?_)
            · have hd := m_i_t c413 hd
              refine W.widen (k := 0) (n := 0) (Nat.le_of_ble_eq_true rfl) (Nat.le_of_ble_eq_true rfl) ?_
              exact J86 u x1 x2 (u.2 30 x2.toNatClampNeg) x2 _ _ _ hd hP hS (lv_sub hl [0, 1, 2] rfl)
            · have hd := m_i_f c413 hd
              refine lv_aload_n hx hb dX7_reasons_74 rfl (lv_at hl 0 rfl) ?_
              refine lv_iload_n hx hb dX7_reasons_75 rfl (lv_at hl 2 rfl) ?_
              obtain ⟨r414, u415, hc416, hd⟩ := m_b_e hd
              refine m_calli (k := 0) (n := 0) (va_runV (As := [.int (x2)]) (rest := [.int (u.2 30 x2.toNatClampNeg), .int (x2), .ref (Z.2.2.1 30)]) ⟨hx, hb, hml, hown, hts⟩ (c_X7_rests l G Z hZ u u415 x2 r414 hc416) (cwV 1 hts gX7_reasons_X7_rests rfl rfl rfl (by decide +kernel) ⟨(Nat.le_of_ble_eq_true rfl), (Nat.le_of_ble_eq_true rfl)⟩) (m_preV (C := RX7) (T := TX7) (N := 32) hM hP hS rfl (by decide) hZ.1) rfl rfl hl.1 rfl (lv_room (Nat.le_of_ble_eq_true rfl)) dX7_reasons_76 ⟨(Nat.le_of_ble_eq_true rfl), (Nat.le_of_ble_eq_true rfl)⟩) hS ⟨(Nat.le_of_ble_eq_true rfl), (Nat.le_of_ble_eq_true rfl)⟩ (fun H locs hP hS => ?_)
              refine lv_if_eq (tgt := 86) hx hb dX7_reasons_79 (by decide) (fun c417 => ?_) (fun c417 => ?_)
              · have hd := m_i_t c417 hd
                refine W.widen (k := 0) (n := 0) (Nat.le_of_ble_eq_true rfl) (Nat.le_of_ble_eq_true rfl) ?_
                exact J86 u415 x1 x2 (u.2 30 x2.toNatClampNeg) x2 _ _ _ hd hP hS (lv_sub hl [0, 1, 2] rfl)
              · have hd := m_i_f c417 hd
                refine lv_iconst (v := 4) hx hb dX7_reasons_82 (by decide) ?_
                refine lv_goto (tgt := 87) hx hb dX7_reasons_83 (by decide) ?_
                refine W.widen (k := 0) (n := 0) (Nat.le_of_ble_eq_true rfl) (Nat.le_of_ble_eq_true rfl) ?_
                exact J87 u415 x1 x2 4 (u.2 30 x2.toNatClampNeg) x2 _ _ _ hd hP hS (lv_sub hl [0, 1, 2] rfl)
      intro u x1 H locs ls hd hP hS hl
      have hd : f_X7_reasons_42_b (f_X7_reasons_42 n42) u x1 = some (r, u') := hd
      refine lv_iload_n hx hb dX7_reasons_42 rfl (lv_at hl 1 rfl) ?_
      refine lv_bipush (v := 16) hx hb dX7_reasons_43 (by decide) ?_
      refine lv_icmp_ge (tgt := 101) hx hb dX7_reasons_45 (by decide) (fun c309 => ?_) (fun c309 => ?_)
      · have hd := m_i_t c309 hd
        obtain ⟨e1, e2⟩ := m_s_e hd
        have e2 := congrArg (x_ov Z) e2
        refine W.widen (k := 0) (n := 0) (Nat.le_of_ble_eq_true rfl) (Nat.le_of_ble_eq_true rfl) ?_
        exact W.vret hx hb hr (fun t ht hW => ⟨⟨(x_ov Z u), rfl, e2, by show mP _ _ t.heap; rw [ht]; exact hP⟩, hS.F ht⟩) hS.2.2 dX7_reasons_101
      · have hd := m_i_f c309 hd
        refine lv_iconst (v := 0) hx hb dX7_reasons_48 (by decide) ?_
        refine lv_istore_n (lv' := [(2, .int (0)), (0, .ref (Z.2.1)), (1, .int (x1))]) hx hb dX7_reasons_49 rfl hl (by decide) rfl (fun ls hl => ?_)
        refine W.widen (k := 0) (n := 0) (Nat.le_of_ble_eq_true rfl) (Nat.le_of_ble_eq_true rfl) ?_
        exact J50 m_N u x1 0 _ _ _ hd hP hS (lv_sub hl [1, 2, 0] rfl)
  have J2 : ∀ (n2 : Nat) (u : xS) (x1 : Int32) (H : Heap) (locs : List Loc) (ls : Array Slot), f_X7_reasons_2 n2 u x1 = some (r, u') → mP G (x_ov Z u) H → va_S (fun q => G.1 ≤ q) s.heap H locs → lv_has ls 3 [(0, .ref (Z.2.1)), (1, .int (x1))] → W p l e ({ frames := 2, cells := 0, slots := 0, locals := 46 } : Room) s m ([.ref (Z.2.1)] : List Value).toArray below meth c H locs 0 0 (MQ below (m_Qv G r (x_ov Z u')) ([.ref (Z.2.1)] : List Value).toArray s 0 0 (fun q => G.1 ≤ q)) (F0 m 2 ls []) := by
    intro n2
    induction n2 with
    | zero => intro u x1 H locs ls hd; exact absurd (show (none : Option (Unit × xS)) = some _ from hd) (fun h => nomatch h)
    | succ n2 ih2 =>
      have J33 : ∀ (u : xS) (x1 : Int32) (s0 : Int32) (s1 : Int32) (H : Heap) (locs : List Loc) (ls : Array Slot), f_X7_reasons_33 (f_X7_reasons_2 n2) u x1 s0 s1 = some (r, u') → mP G (x_ov Z u) H → va_S (fun q => G.1 ≤ q) s.heap H locs → lv_has ls 3 [(0, .ref (Z.2.1)), (1, .int (x1))] → W p l e ({ frames := 2, cells := 0, slots := 0, locals := 46 } : Room) s m ([.ref (Z.2.1)] : List Value).toArray below meth c H locs 0 0 (MQ below (m_Qv G r (x_ov Z u')) ([.ref (Z.2.1)] : List Value).toArray s 0 0 (fun q => G.1 ≤ q)) (F0 m 33 ls [.int (s0), .int (s1), .ref (Z.2.2.1 30)]) := by
        intro u x1 s0 s1 H locs ls hd hP hS hl
        obtain ⟨hg207, hd⟩ := m_g_e hd
        refine x_ast hx hb hM.1 hZ hP hS 30 (by decide) hg207 dX7_reasons_33 (fun H locs hP hS => ?_)
        obtain ⟨u208, ew, hd⟩ := m_l_e hd
        have hP : mP G (x_ov Z u208) H := by rw [ew]; exact hP
        refine lv_iinc (v := x1 + 1) (lv' := [(1, .int (x1 + 1)), (0, .ref (Z.2.1))]) hx hb dX7_reasons_34 hl (k := 1) rfl rfl (by decide) rfl (fun ls hl => ?_)
        refine lv_goto (tgt := 2) hx hb dX7_reasons_37 (by decide) ?_
        refine W.widen (k := 0) (n := 0) (Nat.le_of_ble_eq_true rfl) (Nat.le_of_ble_eq_true rfl) ?_
        exact ih2 u208 (x1 + 1) _ _ _ hd hP hS (lv_sub hl [1, 0] rfl)
      intro u x1 H locs ls hd hP hS hl
      have hd : f_X7_reasons_2_b (f_X7_reasons_2 n2) u x1 = some (r, u') := hd
      refine lv_iload_n hx hb dX7_reasons_2 rfl (lv_at hl 1 rfl) ?_
      refine lv_aload_n hx hb dX7_reasons_3 rfl (lv_at hl 0 rfl) ?_
      refine x_getI (own := RX7) (ref := RX7) hx hb hts hin10 hown hM.1 hZ hP 0 (by decide) (hts (.fieldLink RX7 87 "CellNotebookModel" "cells" "I") (by decide +kernel)) (fun _ h9 => h9) dX7_reasons_4 ?_
      refine lv_icmp_ge (tgt := 40) hx hb dX7_reasons_7 (by decide) (fun c101 => ?_) (fun c101 => ?_)
      · have hd := m_i_t c101 hd
        refine lv_iconst (v := 0) hx hb dX7_reasons_40 (by decide) ?_
        refine lv_istore_n (lv' := [(1, .int (0)), (0, .ref (Z.2.1))]) hx hb dX7_reasons_41 rfl hl (by decide) rfl (fun ls hl => ?_)
        refine W.widen (k := 0) (n := 0) (Nat.le_of_ble_eq_true rfl) (Nat.le_of_ble_eq_true rfl) ?_
        exact J42 m_N u 0 _ _ _ hd hP hS (lv_sub hl [1, 0] rfl)
      · have hd := m_i_f c101 hd
        refine lv_aload_n hx hb dX7_reasons_10 rfl (lv_at hl 0 rfl) ?_
        refine x_getA (own := RX7) (ref := RX7) hx hb hts hin10 hown hM.1 hZ hP 30 (by decide) (hts (.fieldLink RX7 80 "CellNotebookModel" "reason" "[I") (by decide +kernel)) (fun _ h9 => h9) dX7_reasons_11 ?_
        refine lv_iload_n hx hb dX7_reasons_14 rfl (lv_at hl 1 rfl) ?_
        refine lv_aload_n hx hb dX7_reasons_15 rfl (lv_at hl 0 rfl) ?_
        refine x_getA (own := RX7) (ref := RX7) hx hb hts hin10 hown hM.1 hZ hP 8 (by decide) (hts (.fieldLink RX7 31 "CellNotebookModel" "last" "[I") (by decide +kernel)) (fun _ h9 => h9) dX7_reasons_16 ?_
        refine lv_iload_n hx hb dX7_reasons_19 rfl (lv_at hl 1 rfl) ?_
        obtain ⟨hg102, hd⟩ := m_g_e hd
        refine x_ald hx hb hM.1 hZ hP 8 (by decide) hg102 dX7_reasons_20 ?_
        refine lv_if_ne (tgt := 28) hx hb dX7_reasons_21 (by decide) (fun c103 => ?_) (fun c103 => ?_)
        · have hd := m_i_f c103 hd
          refine lv_aload_n hx hb dX7_reasons_28 rfl (lv_at hl 0 rfl) ?_
          refine lv_iload_n hx hb dX7_reasons_29 rfl (lv_at hl 1 rfl) ?_
          obtain ⟨r104, u105, hc106, hd⟩ := m_b_e hd
          refine m_calli (k := 0) (n := 0) (va_runV (As := [.int (x1)]) (rest := [.int (x1), .ref (Z.2.2.1 30)]) ⟨hx, hb, hml, hown, hts⟩ (c_X7_ownReason l G Z hZ u u105 x1 r104 hc106) (cwV 1 hts gX7_reasons_X7_ownReason rfl rfl rfl (by decide +kernel) ⟨(Nat.le_of_ble_eq_true rfl), (Nat.le_of_ble_eq_true rfl)⟩) (m_preV (C := RX7) (T := TX7) (N := 32) hM hP hS rfl (by decide) hZ.1) rfl rfl hl.1 rfl (lv_room (Nat.le_of_ble_eq_true rfl)) dX7_reasons_30 ⟨(Nat.le_of_ble_eq_true rfl), (Nat.le_of_ble_eq_true rfl)⟩) hS ⟨(Nat.le_of_ble_eq_true rfl), (Nat.le_of_ble_eq_true rfl)⟩ (fun H locs hP hS => ?_)
          refine W.widen (k := 0) (n := 0) (Nat.le_of_ble_eq_true rfl) (Nat.le_of_ble_eq_true rfl) ?_
          exact J33 u105 x1 r104 x1 _ _ _ hd hP hS (lv_sub hl [0, 1] rfl)
        · have hd := m_i_t c103 hd
          refine lv_iconst (v := 0) hx hb dX7_reasons_24 (by decide) ?_
          refine lv_goto (tgt := 33) hx hb dX7_reasons_25 (by decide) ?_
          refine W.widen (k := 0) (n := 0) (Nat.le_of_ble_eq_true rfl) (Nat.le_of_ble_eq_true rfl) ?_
          exact J33 u x1 0 x1 _ _ _ hd hP hS (lv_sub hl [0, 1] rfl)
  have hl := lv_entry ([.ref (Z.2.1)]) (n := 3) (Nat.le_of_ble_eq_true rfl)
  rw [lg_entry_eq]
  generalize (lg_sl ([.ref (Z.2.1)]) ++ List.replicate (3 - (lg_sl ([.ref (Z.2.1)])).length) Slot.unset).toArray = ls at hl ⊢
  have hl : lv_has ls 3 [(0, .ref (Z.2.1))] := hl
  refine lv_iconst (v := 0) hx hb dX7_reasons_0 (by decide) ?_
  refine lv_istore_n (lv' := [(1, .int (0)), (0, .ref (Z.2.1))]) hx hb dX7_reasons_1 rfl hl (by decide) rfl (fun ls hl => ?_)
  refine W.widen (k := 0) (n := 0) (Nat.le_of_ble_eq_true rfl) (Nat.le_of_ble_eq_true rfl) ?_
  exact J2 m_N u 0 _ _ _ hd hP hS (lv_sub hl [1, 0] rfl)


noncomputable def f_X7_refresh_96 (k33 : xS → Int32 → Int32 → Int32 → Option (Int32 × xS)) (u : xS) (x1 : Int32) (x2 : Int32) (x3 : Int32) : Option (Int32 × xS) := k33 u x1 x2 (x3 + 1)
noncomputable def f_X7_refresh_84 (k33 : xS → Int32 → Int32 → Int32 → Option (Int32 × xS)) (u : xS) (x1 : Int32) (x2 : Int32) (x3 : Int32) (x4 : Int32) : Option (Int32 × xS) := m_b (f_X7_runs u x1 x4) fun r322 u323 => f_X7_refresh_96 k33 u323 x1 (x2 + 1) x3
noncomputable def f_X7_refresh_33_b (k33 : xS → Int32 → Int32 → Int32 → Option (Int32 × xS)) (u : xS) (x1 : Int32) (x2 : Int32) (x3 : Int32) : Option (Int32 × xS) := if (u.1 0) ≤ x3 then (some (x2, u)) else (m_g (¬ (x3 < 0 ∨ 16 ≤ x3.toNatClampNeg)) <| m_b (f_X7_reasons u) fun r211 u212 => m_b (f_X7_rightOf u212 x1 (u.2 1 x3.toNatClampNeg)) fun r214 u215 => if r214 < 2 then (f_X7_refresh_96 k33 u215 x1 x2 x3) else (m_g (¬ ((u.2 1 x3.toNatClampNeg) < 0 ∨ 16 ≤ (u.2 1 x3.toNatClampNeg).toNatClampNeg)) <| if (u215.2 8 (u.2 1 x3.toNatClampNeg).toNatClampNeg) = (0 : Int32) then (f_X7_refresh_84 k33 u215 x1 x2 x3 (u.2 1 x3.toNatClampNeg)) else (m_g (¬ ((u.2 1 x3.toNatClampNeg) < 0 ∨ 16 ≤ (u.2 1 x3.toNatClampNeg).toNatClampNeg)) <| if (u215.2 30 (u.2 1 x3.toNatClampNeg).toNatClampNeg) ≤ (0 : Int32) then (f_X7_refresh_96 k33 u215 x1 x2 x3) else (f_X7_refresh_84 k33 u215 x1 x2 x3 (u.2 1 x3.toNatClampNeg)))))
noncomputable def f_X7_refresh_33 (n : Nat) : xS → Int32 → Int32 → Int32 → Option (Int32 × xS) := Nat.rec (motive := fun _ => xS → Int32 → Int32 → Int32 → Option (Int32 × xS)) (fun _ _ _ _ => none) (fun _ k => f_X7_refresh_33_b  k) n
noncomputable def f_X7_refresh_20 (u : xS) (x1 : Int32) (s0 : Int32) (s1 : Int32) : Option (Int32 × xS) := m_b (f_X7_goes u s1 s0 1) fun r105 u106 => if r105 = (0 : Int32) then (some (0, u106)) else (f_X7_refresh_33 m_N u106 x1 0 0)
noncomputable def f_X7_refresh (u : xS) (p0 : Int32) : Option (Int32 × xS) := m_b (f_X7_isUser u p0) fun r1 u2 => if 380 < (u2.1 13) then (f_X7_refresh_20 u2 p0 0 r1) else (f_X7_refresh_20 u2 p0 1 r1)
set_option maxHeartbeats 1000000 in
set_option maxRecDepth 100000 in
theorem c_X7_refresh (l : Launch) (G : m_G) (Z : xB) (hZ : x_ok Z) (u u' : xS) (p0 : Int32) (r : Int32) (hd : f_X7_refresh u p0 = some (r, u')) : Met l yX7_refresh wsX7_refresh ({ frames := 6, cells := 0, slots := 0, locals := 138 } : Room) (m_Pc G (x_ov Z u) [.ref (Z.2.1), .int (p0)]) (m_Qi G r (x_ov Z u')) 0 0 (fun q => G.1 ≤ q) := by
  refine Met.ofW (cc := cX7_refresh) (maxL := 6) (ret := (some .int)) (by decide +kernel) rfl ?_
  intro p e s m args below meth c s₁ B hml hv
  obtain ⟨rfl, hM, hP⟩ := hv
  have hx := B.exec
  have hb := B.bytes
  have hr := B.returns
  have hts := atoms_spec (ws := wsX7_refresh) B.pre
  have hown : s.vm.findClass RX7 = some m.cls := findClass_of_methodNamed B.named
  have hlocks := B.notSynchronized
  have hin10 : ∀ w ∈ u_ws RX7 TX7 32, w ∈ wsX7_refresh := by decide +kernel
  have hS : va_S (fun q => G.1 ≤ q) s.heap s.heap [] := va_S.rf
  have J33 : ∀ (n33 : Nat) (u : xS) (x1 : Int32) (x2 : Int32) (x3 : Int32) (H : Heap) (locs : List Loc) (ls : Array Slot), f_X7_refresh_33 n33 u x1 x2 x3 = some (r, u') → mP G (x_ov Z u) H → va_S (fun q => G.1 ≤ q) s.heap H locs → lv_has ls 6 [(0, .ref (Z.2.1)), (1, .int (x1)), (2, .int (x2)), (3, .int (x3))] → W p l e ({ frames := 6, cells := 0, slots := 0, locals := 138 } : Room) s m ([.ref (Z.2.1), .int (p0)] : List Value).toArray below meth c H locs 0 0 (MQ below (m_Qi G r (x_ov Z u')) ([.ref (Z.2.1), .int (p0)] : List Value).toArray s 0 0 (fun q => G.1 ≤ q)) (F0 m 33 ls []) := by
    intro n33
    induction n33 with
    | zero => intro u x1 x2 x3 H locs ls hd; exact absurd (show (none : Option (Int32 × xS)) = some _ from hd) (fun h => nomatch h)
    | succ n33 ih33 =>
      have J96 : ∀ (u : xS) (x1 : Int32) (x2 : Int32) (x3 : Int32) (H : Heap) (locs : List Loc) (ls : Array Slot), f_X7_refresh_96 (f_X7_refresh_33 n33) u x1 x2 x3 = some (r, u') → mP G (x_ov Z u) H → va_S (fun q => G.1 ≤ q) s.heap H locs → lv_has ls 6 [(0, .ref (Z.2.1)), (1, .int (x1)), (2, .int (x2)), (3, .int (x3))] → W p l e ({ frames := 6, cells := 0, slots := 0, locals := 138 } : Room) s m ([.ref (Z.2.1), .int (p0)] : List Value).toArray below meth c H locs 0 0 (MQ below (m_Qi G r (x_ov Z u')) ([.ref (Z.2.1), .int (p0)] : List Value).toArray s 0 0 (fun q => G.1 ≤ q)) (F0 m 96 ls []) := by
        intro u x1 x2 x3 H locs ls hd hP hS hl
        refine lv_iinc (v := x3 + 1) (lv' := [(3, .int (x3 + 1)), (0, .ref (Z.2.1)), (1, .int (x1)), (2, .int (x2))]) hx hb dX7_refresh_96 hl (k := 3) rfl rfl (by decide) rfl (fun ls hl => ?_)
        refine lv_goto (tgt := 33) hx hb dX7_refresh_99 (by decide) ?_
        refine W.widen (k := 0) (n := 0) (Nat.le_of_ble_eq_true rfl) (Nat.le_of_ble_eq_true rfl) ?_
        exact ih33 u x1 x2 (x3 + 1) _ _ _ hd hP hS (lv_sub hl [1, 2, 3, 0] rfl)
      have J84 : ∀ (u : xS) (x1 : Int32) (x2 : Int32) (x3 : Int32) (x4 : Int32) (H : Heap) (locs : List Loc) (ls : Array Slot), f_X7_refresh_84 (f_X7_refresh_33 n33) u x1 x2 x3 x4 = some (r, u') → mP G (x_ov Z u) H → va_S (fun q => G.1 ≤ q) s.heap H locs → lv_has ls 6 [(0, .ref (Z.2.1)), (1, .int (x1)), (2, .int (x2)), (3, .int (x3)), (4, .int (x4))] → W p l e ({ frames := 6, cells := 0, slots := 0, locals := 138 } : Room) s m ([.ref (Z.2.1), .int (p0)] : List Value).toArray below meth c H locs 0 0 (MQ below (m_Qi G r (x_ov Z u')) ([.ref (Z.2.1), .int (p0)] : List Value).toArray s 0 0 (fun q => G.1 ≤ q)) (F0 m 84 ls []) := by
        intro u x1 x2 x3 x4 H locs ls hd hP hS hl
        refine lv_aload_n hx hb dX7_refresh_84 rfl (lv_at hl 0 rfl) ?_
        refine lv_iload_n hx hb dX7_refresh_85 rfl (lv_at hl 1 rfl) ?_
        refine lv_iload hx hb dX7_refresh_86 (lv_at hl 4 rfl) ?_
        obtain ⟨r322, u323, hc324, hd⟩ := m_b_e hd
        refine m_calli (k := 0) (n := 0) (va_runV (As := [.int (x1), .int (x4)]) (rest := []) ⟨hx, hb, hml, hown, hts⟩ (c_X7_runs l G Z hZ u u323 x1 x4 r322 hc324) (cwV 2 hts gX7_refresh_X7_runs rfl rfl rfl (by decide +kernel) ⟨(Nat.le_of_ble_eq_true rfl), (Nat.le_of_ble_eq_true rfl)⟩) (m_preV (C := RX7) (T := TX7) (N := 32) hM hP hS rfl (by decide) hZ.1) rfl rfl hl.1 rfl (lv_room (Nat.le_of_ble_eq_true rfl)) dX7_refresh_88 ⟨(Nat.le_of_ble_eq_true rfl), (Nat.le_of_ble_eq_true rfl)⟩) hS ⟨(Nat.le_of_ble_eq_true rfl), (Nat.le_of_ble_eq_true rfl)⟩ (fun H locs hP hS => ?_)
        refine lv_istore (lv' := [(5, .int (r322)), (0, .ref (Z.2.1)), (1, .int (x1)), (2, .int (x2)), (3, .int (x3)), (4, .int (x4))]) hx hb dX7_refresh_91 hl (by decide) rfl (fun ls hl => ?_)
        refine lv_iinc (v := x2 + 1) (lv' := [(2, .int (x2 + 1)), (5, .int (r322)), (0, .ref (Z.2.1)), (1, .int (x1)), (3, .int (x3)), (4, .int (x4))]) hx hb dX7_refresh_93 hl (k := 3) rfl rfl (by decide) rfl (fun ls hl => ?_)
        refine W.widen (k := 0) (n := 0) (Nat.le_of_ble_eq_true rfl) (Nat.le_of_ble_eq_true rfl) ?_
        exact J96 u323 x1 (x2 + 1) x3 _ _ _ hd hP hS (lv_sub hl [2, 3, 0, 4] rfl)
      intro u x1 x2 x3 H locs ls hd hP hS hl
      have hd : f_X7_refresh_33_b (f_X7_refresh_33 n33) u x1 x2 x3 = some (r, u') := hd
      refine lv_iload_n hx hb dX7_refresh_33 rfl (lv_at hl 3 rfl) ?_
      refine lv_aload_n hx hb dX7_refresh_34 rfl (lv_at hl 0 rfl) ?_
      refine x_getI (own := RX7) (ref := RX7) hx hb hts hin10 hown hM.1 hZ hP 0 (by decide) (hts (.fieldLink RX7 87 "CellNotebookModel" "cells" "I") (by decide +kernel)) (fun _ h9 => h9) dX7_refresh_35 ?_
      refine lv_icmp_ge (tgt := 102) hx hb dX7_refresh_38 (by decide) (fun c209 => ?_) (fun c209 => ?_)
      · have hd := m_i_t c209 hd
        refine lv_iload_n hx hb dX7_refresh_102 rfl (lv_at hl 2 rfl) ?_
        obtain ⟨e1, e2⟩ := m_s_e hd
        have e2 := congrArg (x_ov Z) e2
        refine W.widen (k := 0) (n := 0) (Nat.le_of_ble_eq_true rfl) (Nat.le_of_ble_eq_true rfl) ?_
        exact W.iret hx hb hr (fun t ht hW => ⟨⟨_, (x_ov Z u), rfl, ⟨e1, e2⟩, by show mP _ _ t.heap; rw [ht]; exact hP⟩, hS.F ht⟩) hS.2.2 dX7_refresh_103
      · have hd := m_i_f c209 hd
        refine lv_aload_n hx hb dX7_refresh_41 rfl (lv_at hl 0 rfl) ?_
        refine x_getA (own := RX7) (ref := RX7) hx hb hts hin10 hown hM.1 hZ hP 1 (by decide) (hts (.fieldLink RX7 7 "CellNotebookModel" "order" "[I") (by decide +kernel)) (fun _ h9 => h9) dX7_refresh_42 ?_
        refine lv_iload_n hx hb dX7_refresh_45 rfl (lv_at hl 3 rfl) ?_
        obtain ⟨hg210, hd⟩ := m_g_e hd
        refine x_ald hx hb hM.1 hZ hP 1 (by decide) hg210 dX7_refresh_46 ?_
        refine lv_istore (lv' := [(4, .int (u.2 1 x3.toNatClampNeg)), (0, .ref (Z.2.1)), (1, .int (x1)), (2, .int (x2)), (3, .int (x3))]) hx hb dX7_refresh_47 hl (by decide) rfl (fun ls hl => ?_)
        refine lv_aload_n hx hb dX7_refresh_49 rfl (lv_at hl 1 rfl) ?_
        obtain ⟨r211, u212, hc213, hd⟩ := m_b_e hd
        refine m_callv (k := 0) (n := 0) (va_runV (As := []) (rest := []) ⟨hx, hb, hml, hown, hts⟩ (c_X7_reasons l G Z hZ u u212  r211 hc213) (cwV 0 hts gX7_refresh_X7_reasons rfl rfl rfl (by decide +kernel) ⟨(Nat.le_of_ble_eq_true rfl), (Nat.le_of_ble_eq_true rfl)⟩) (m_preV (C := RX7) (T := TX7) (N := 32) hM hP hS rfl (by decide) hZ.1) rfl rfl hl.1 rfl (lv_room (Nat.le_of_ble_eq_true rfl)) dX7_refresh_50 ⟨(Nat.le_of_ble_eq_true rfl), (Nat.le_of_ble_eq_true rfl)⟩) hS ⟨(Nat.le_of_ble_eq_true rfl), (Nat.le_of_ble_eq_true rfl)⟩ (fun H locs hP hS => ?_)
        refine lv_aload_n hx hb dX7_refresh_53 rfl (lv_at hl 1 rfl) ?_
        refine lv_iload_n hx hb dX7_refresh_54 rfl (lv_at hl 2 rfl) ?_
        refine lv_iload hx hb dX7_refresh_55 (lv_at hl 0 rfl) ?_
        obtain ⟨r214, u215, hc216, hd⟩ := m_b_e hd
        refine m_calli (k := 0) (n := 0) (va_runV (As := [.int (x1), .int (u.2 1 x3.toNatClampNeg)]) (rest := []) ⟨hx, hb, hml, hown, hts⟩ (c_X7_rightOf l G Z hZ u212 u215 x1 (u.2 1 x3.toNatClampNeg) r214 hc216) (cwV 2 hts gX7_refresh_X7_rightOf rfl rfl rfl (by decide +kernel) ⟨(Nat.le_of_ble_eq_true rfl), (Nat.le_of_ble_eq_true rfl)⟩) (m_preV (C := RX7) (T := TX7) (N := 32) hM hP hS rfl (by decide) hZ.1) rfl rfl hl.1 rfl (lv_room (Nat.le_of_ble_eq_true rfl)) dX7_refresh_57 ⟨(Nat.le_of_ble_eq_true rfl), (Nat.le_of_ble_eq_true rfl)⟩) hS ⟨(Nat.le_of_ble_eq_true rfl), (Nat.le_of_ble_eq_true rfl)⟩ (fun H locs hP hS => ?_)
        refine lv_iconst (v := 2) hx hb dX7_refresh_60 (by decide) ?_
        refine lv_icmp_lt (tgt := 96) hx hb dX7_refresh_61 (by decide) (fun c217 => ?_) (fun c217 => ?_)
        · have hd := m_i_t c217 hd
          refine W.widen (k := 0) (n := 0) (Nat.le_of_ble_eq_true rfl) (Nat.le_of_ble_eq_true rfl) ?_
          exact J96 u215 x1 x2 x3 _ _ _ hd hP hS (lv_sub hl [1, 2, 3, 4] rfl)
        · have hd := m_i_f c217 hd
          refine lv_aload_n hx hb dX7_refresh_64 rfl (lv_at hl 1 rfl) ?_
          refine x_getA (own := RX7) (ref := RX7) hx hb hts hin10 hown hM.1 hZ hP 8 (by decide) (hts (.fieldLink RX7 31 "CellNotebookModel" "last" "[I") (by decide +kernel)) (fun _ h9 => h9) dX7_refresh_65 ?_
          refine lv_iload hx hb dX7_refresh_68 (lv_at hl 0 rfl) ?_
          obtain ⟨hg218, hd⟩ := m_g_e hd
          refine x_ald hx hb hM.1 hZ hP 8 (by decide) hg218 dX7_refresh_70 ?_
          refine lv_if_eq (tgt := 84) hx hb dX7_refresh_71 (by decide) (fun c219 => ?_) (fun c219 => ?_)
          · have hd := m_i_t c219 hd
            refine W.widen (k := 0) (n := 0) (Nat.le_of_ble_eq_true rfl) (Nat.le_of_ble_eq_true rfl) ?_
            exact J84 u215 x1 x2 x3 (u.2 1 x3.toNatClampNeg) _ _ _ hd hP hS (lv_sub hl [1, 2, 3, 4, 0] rfl)
          · have hd := m_i_f c219 hd
            refine lv_aload_n hx hb dX7_refresh_74 rfl (lv_at hl 1 rfl) ?_
            refine x_getA (own := RX7) (ref := RX7) hx hb hts hin10 hown hM.1 hZ hP 30 (by decide) (hts (.fieldLink RX7 80 "CellNotebookModel" "reason" "[I") (by decide +kernel)) (fun _ h9 => h9) dX7_refresh_75 ?_
            refine lv_iload hx hb dX7_refresh_78 (lv_at hl 0 rfl) ?_
            obtain ⟨hg220, hd⟩ := m_g_e hd
            refine x_ald hx hb hM.1 hZ hP 30 (by decide) hg220 dX7_refresh_80 ?_
            refine lv_if_le (tgt := 96) hx hb dX7_refresh_81 (by decide) (fun c221 => ?_) (fun c221 => ?_)
            · have hd := m_i_t c221 hd
              refine W.widen (k := 0) (n := 0) (Nat.le_of_ble_eq_true rfl) (Nat.le_of_ble_eq_true rfl) ?_
              exact J96 u215 x1 x2 x3 _ _ _ hd hP hS (lv_sub hl [1, 2, 3, 4] rfl)
            · have hd := m_i_f c221 hd
              refine W.widen (k := 0) (n := 0) (Nat.le_of_ble_eq_true rfl) (Nat.le_of_ble_eq_true rfl) ?_
              exact J84 u215 x1 x2 x3 (u.2 1 x3.toNatClampNeg) _ _ _ hd hP hS (lv_sub hl [1, 2, 3, 4, 0] rfl)
  have J20 : ∀ (u : xS) (x1 : Int32) (s0 : Int32) (s1 : Int32) (H : Heap) (locs : List Loc) (ls : Array Slot), f_X7_refresh_20 u x1 s0 s1 = some (r, u') → mP G (x_ov Z u) H → va_S (fun q => G.1 ≤ q) s.heap H locs → lv_has ls 6 [(0, .ref (Z.2.1)), (1, .int (x1))] → W p l e ({ frames := 6, cells := 0, slots := 0, locals := 138 } : Room) s m ([.ref (Z.2.1), .int (p0)] : List Value).toArray below meth c H locs 0 0 (MQ below (m_Qi G r (x_ov Z u')) ([.ref (Z.2.1), .int (p0)] : List Value).toArray s 0 0 (fun q => G.1 ≤ q)) (F0 m 20 ls [.int (s0), .int (s1), .ref (Z.2.1)]) := by
    intro u x1 s0 s1 H locs ls hd hP hS hl
    refine lv_iconst (v := 1) hx hb dX7_refresh_20 (by decide) ?_
    obtain ⟨r105, u106, hc107, hd⟩ := m_b_e hd
    refine m_calli (k := 0) (n := 0) (va_runV (As := [.int (s1), .int (s0), .int (1)]) (rest := []) ⟨hx, hb, hml, hown, hts⟩ (c_X7_goes l G Z hZ u u106 s1 s0 1 r105 hc107) (cwV 3 hts gX7_refresh_X7_goes rfl rfl rfl (by decide +kernel) ⟨(Nat.le_of_ble_eq_true rfl), (Nat.le_of_ble_eq_true rfl)⟩) (m_preV (C := RX7) (T := TX7) (N := 32) hM hP hS rfl (by decide) hZ.1) rfl rfl hl.1 rfl (lv_room (Nat.le_of_ble_eq_true rfl)) dX7_refresh_21 ⟨(Nat.le_of_ble_eq_true rfl), (Nat.le_of_ble_eq_true rfl)⟩) hS ⟨(Nat.le_of_ble_eq_true rfl), (Nat.le_of_ble_eq_true rfl)⟩ (fun H locs hP hS => ?_)
    refine lv_if_ne (tgt := 29) hx hb dX7_refresh_24 (by decide) (fun c108 => ?_) (fun c108 => ?_)
    · have hd := m_i_f c108 hd
      refine lv_iconst (v := 0) hx hb dX7_refresh_29 (by decide) ?_
      refine lv_istore_n (lv' := [(2, .int (0)), (0, .ref (Z.2.1)), (1, .int (x1))]) hx hb dX7_refresh_30 rfl hl (by decide) rfl (fun ls hl => ?_)
      refine lv_iconst (v := 0) hx hb dX7_refresh_31 (by decide) ?_
      refine lv_istore_n (lv' := [(3, .int (0)), (2, .int (0)), (0, .ref (Z.2.1)), (1, .int (x1))]) hx hb dX7_refresh_32 rfl hl (by decide) rfl (fun ls hl => ?_)
      refine W.widen (k := 0) (n := 0) (Nat.le_of_ble_eq_true rfl) (Nat.le_of_ble_eq_true rfl) ?_
      exact J33 m_N u106 x1 0 0 _ _ _ hd hP hS (lv_sub hl [2, 3, 1, 0] rfl)
    · have hd := m_i_t c108 hd
      refine lv_iconst (v := 0) hx hb dX7_refresh_27 (by decide) ?_
      obtain ⟨e1, e2⟩ := m_s_e hd
      have e2 := congrArg (x_ov Z) e2
      refine W.widen (k := 0) (n := 0) (Nat.le_of_ble_eq_true rfl) (Nat.le_of_ble_eq_true rfl) ?_
      exact W.iret hx hb hr (fun t ht hW => ⟨⟨_, (x_ov Z u106), rfl, ⟨e1, e2⟩, by show mP _ _ t.heap; rw [ht]; exact hP⟩, hS.F ht⟩) hS.2.2 dX7_refresh_28
  have hl := lv_entry ([.ref (Z.2.1), .int (p0)]) (n := 6) (Nat.le_of_ble_eq_true rfl)
  rw [lg_entry_eq]
  generalize (lg_sl ([.ref (Z.2.1), .int (p0)]) ++ List.replicate (6 - (lg_sl ([.ref (Z.2.1), .int (p0)])).length) Slot.unset).toArray = ls at hl ⊢
  have hl : lv_has ls 6 [(0, .ref (Z.2.1)), (1, .int (p0))] := hl
  refine lv_aload_n hx hb dX7_refresh_0 rfl (lv_at hl 0 rfl) ?_
  refine lv_iload_n hx hb dX7_refresh_1 rfl (lv_at hl 1 rfl) ?_
  obtain ⟨r1, u2, hc3, hd⟩ := m_b_e hd
  refine m_calli (k := 0) (n := 0) (va_runS (As := [.int (p0)]) (rest := [.ref (Z.2.1)]) ⟨hx, hb, hml, hown, hts⟩ (c_X7_isUser l G Z hZ u u2 p0 r1 hc3) (va_cwS 1 hts gX7_refresh_X7_isUser rfl rfl rfl (by decide +kernel) ⟨(Nat.le_of_ble_eq_true rfl), (Nat.le_of_ble_eq_true rfl)⟩) (m_preS hM hP hS) rfl rfl hl.1 rfl (lv_room (Nat.le_of_ble_eq_true rfl)) dX7_refresh_2 ⟨(Nat.le_of_ble_eq_true rfl), (Nat.le_of_ble_eq_true rfl)⟩) hS ⟨(Nat.le_of_ble_eq_true rfl), (Nat.le_of_ble_eq_true rfl)⟩ (fun H locs hP hS => ?_)
  refine lv_aload_n hx hb dX7_refresh_5 rfl (lv_at hl 0 rfl) ?_
  refine x_getI (own := RX7) (ref := RX7) hx hb hts hin10 hown hM.1 hZ hP 13 (by decide) (hts (.fieldLink RX7 115 "CellNotebookModel" "runs" "I") (by decide +kernel)) (fun _ h9 => h9) dX7_refresh_6 ?_
  refine lv_sipush (v := 380) hx hb dX7_refresh_9 (by decide) ?_
  refine lv_icmp_gt (tgt := 19) hx hb dX7_refresh_12 (by decide) (fun c4 => ?_) (fun c4 => ?_)
  · have hd := m_i_t c4 hd
    refine lv_iconst (v := 0) hx hb dX7_refresh_19 (by decide) ?_
    refine W.widen (k := 0) (n := 0) (Nat.le_of_ble_eq_true rfl) (Nat.le_of_ble_eq_true rfl) ?_
    exact J20 u2 p0 0 r1 _ _ _ hd hP hS (lv_sub hl [0, 1] rfl)
  · have hd := m_i_f c4 hd
    refine lv_iconst (v := 1) hx hb dX7_refresh_15 (by decide) ?_
    refine lv_goto (tgt := 20) hx hb dX7_refresh_16 (by decide) ?_
    refine W.widen (k := 0) (n := 0) (Nat.le_of_ble_eq_true rfl) (Nat.le_of_ble_eq_true rfl) ?_
    exact J20 u2 p0 1 r1 _ _ _ hd hP hS (lv_sub hl [0, 1] rfl)


noncomputable def f_X7_isSet_27 (u : xS) (s0 : Int32) : Option (Int32 × xS) := m_g (vp_nar .boolean s0 = s0) <| some (s0, u)
noncomputable def f_X7_isSet_26 (u : xS)  : Option (Int32 × xS) := f_X7_isSet_27 u 0
noncomputable def f_X7_isSet (u : xS) (p0 : Int32) : Option (Int32 × xS) := m_b (f_X7_isName u p0) fun r1 u2 => m_b (f_X7_goes u2 r1 1 1) fun r4 u5 => if r4 = (0 : Int32) then (f_X7_isSet_26 u5) else (m_g (¬ (p0 < 0 ∨ 8 ≤ p0.toNatClampNeg)) <| if (u5.2 11 p0.toNatClampNeg) ≤ (0 : Int32) then (f_X7_isSet_26 u5) else (f_X7_isSet_27 u5 1))
set_option maxHeartbeats 1000000 in
set_option maxRecDepth 100000 in
theorem c_X7_isSet (l : Launch) (G : m_G) (Z : xB) (hZ : x_ok Z) (u u' : xS) (p0 : Int32) (r : Int32) (hd : f_X7_isSet u p0 = some (r, u')) : Met l yX7_isSet wsX7_isSet ({ frames := 2, cells := 0, slots := 0, locals := 42 } : Room) (m_Pc G (x_ov Z u) [.ref (Z.2.1), .int (p0)]) (m_Qi G r (x_ov Z u')) 0 0 (fun q => G.1 ≤ q) := by
  refine Met.ofW (cc := cX7_isSet) (maxL := 2) (ret := (some .boolean)) (by decide +kernel) rfl ?_
  intro p e s m args below meth c s₁ B hml hv
  obtain ⟨rfl, hM, hP⟩ := hv
  have hx := B.exec
  have hb := B.bytes
  have hr := B.returns
  have hts := atoms_spec (ws := wsX7_isSet) B.pre
  have hown : s.vm.findClass RX7 = some m.cls := findClass_of_methodNamed B.named
  have hlocks := B.notSynchronized
  have hin10 : ∀ w ∈ u_ws RX7 TX7 32, w ∈ wsX7_isSet := by decide +kernel
  have hS : va_S (fun q => G.1 ≤ q) s.heap s.heap [] := va_S.rf
  have J27 : ∀ (u : xS) (s0 : Int32) (H : Heap) (locs : List Loc) (ls : Array Slot), f_X7_isSet_27 u s0 = some (r, u') → mP G (x_ov Z u) H → va_S (fun q => G.1 ≤ q) s.heap H locs → lv_has ls 2 [] → W p l e ({ frames := 2, cells := 0, slots := 0, locals := 42 } : Room) s m ([.ref (Z.2.1), .int (p0)] : List Value).toArray below meth c H locs 0 0 (MQ below (m_Qi G r (x_ov Z u')) ([.ref (Z.2.1), .int (p0)] : List Value).toArray s 0 0 (fun q => G.1 ≤ q)) (F0 m 27 ls [.int (s0)]) := by
    intro u s0 H locs ls hd hP hS hl
    obtain ⟨hn210, hd⟩ := m_g_e hd
    obtain ⟨e1, e2⟩ := m_s_e hd
    have e2 := congrArg (x_ov Z) e2
    refine W.widen (k := 0) (n := 0) (Nat.le_of_ble_eq_true rfl) (Nat.le_of_ble_eq_true rfl) ?_
    exact W.zret hx hb hr (m_narZ hn210).1 (fun t ht hW => ⟨⟨_, (x_ov Z u), rfl, ⟨e1, e2⟩, by show mP _ _ t.heap; rw [ht]; exact hP⟩, hS.F ht⟩) hS.2.2 dX7_isSet_27
  have J26 : ∀ (u : xS) (H : Heap) (locs : List Loc) (ls : Array Slot), f_X7_isSet_26 u = some (r, u') → mP G (x_ov Z u) H → va_S (fun q => G.1 ≤ q) s.heap H locs → lv_has ls 2 [] → W p l e ({ frames := 2, cells := 0, slots := 0, locals := 42 } : Room) s m ([.ref (Z.2.1), .int (p0)] : List Value).toArray below meth c H locs 0 0 (MQ below (m_Qi G r (x_ov Z u')) ([.ref (Z.2.1), .int (p0)] : List Value).toArray s 0 0 (fun q => G.1 ≤ q)) (F0 m 26 ls []) := by
    intro u H locs ls hd hP hS hl
    refine lv_iconst (v := 0) hx hb dX7_isSet_26 (by decide) ?_
    refine W.widen (k := 0) (n := 0) (Nat.le_of_ble_eq_true rfl) (Nat.le_of_ble_eq_true rfl) ?_
    exact J27 u 0 _ _ _ hd hP hS (lv_sub hl [] rfl)
  have hl := lv_entry ([.ref (Z.2.1), .int (p0)]) (n := 2) (Nat.le_of_ble_eq_true rfl)
  rw [lg_entry_eq]
  generalize (lg_sl ([.ref (Z.2.1), .int (p0)]) ++ List.replicate (2 - (lg_sl ([.ref (Z.2.1), .int (p0)])).length) Slot.unset).toArray = ls at hl ⊢
  have hl : lv_has ls 2 [(0, .ref (Z.2.1)), (1, .int (p0))] := hl
  refine lv_aload_n hx hb dX7_isSet_0 rfl (lv_at hl 0 rfl) ?_
  refine lv_iload_n hx hb dX7_isSet_1 rfl (lv_at hl 1 rfl) ?_
  obtain ⟨r1, u2, hc3, hd⟩ := m_b_e hd
  refine m_calli (k := 0) (n := 0) (va_runS (As := [.int (p0)]) (rest := [.ref (Z.2.1)]) ⟨hx, hb, hml, hown, hts⟩ (c_X7_isName l G Z hZ u u2 p0 r1 hc3) (va_cwS 1 hts gX7_isSet_X7_isName rfl rfl rfl (by decide +kernel) ⟨(Nat.le_of_ble_eq_true rfl), (Nat.le_of_ble_eq_true rfl)⟩) (m_preS hM hP hS) rfl rfl hl.1 rfl (lv_room (Nat.le_of_ble_eq_true rfl)) dX7_isSet_2 ⟨(Nat.le_of_ble_eq_true rfl), (Nat.le_of_ble_eq_true rfl)⟩) hS ⟨(Nat.le_of_ble_eq_true rfl), (Nat.le_of_ble_eq_true rfl)⟩ (fun H locs hP hS => ?_)
  refine lv_iconst (v := 1) hx hb dX7_isSet_5 (by decide) ?_
  refine lv_iconst (v := 1) hx hb dX7_isSet_6 (by decide) ?_
  obtain ⟨r4, u5, hc6, hd⟩ := m_b_e hd
  refine m_calli (k := 0) (n := 0) (va_runV (As := [.int (r1), .int (1), .int (1)]) (rest := []) ⟨hx, hb, hml, hown, hts⟩ (c_X7_goes l G Z hZ u2 u5 r1 1 1 r4 hc6) (cwV 3 hts gX7_isSet_X7_goes rfl rfl rfl (by decide +kernel) ⟨(Nat.le_of_ble_eq_true rfl), (Nat.le_of_ble_eq_true rfl)⟩) (m_preV (C := RX7) (T := TX7) (N := 32) hM hP hS rfl (by decide) hZ.1) rfl rfl hl.1 rfl (lv_room (Nat.le_of_ble_eq_true rfl)) dX7_isSet_7 ⟨(Nat.le_of_ble_eq_true rfl), (Nat.le_of_ble_eq_true rfl)⟩) hS ⟨(Nat.le_of_ble_eq_true rfl), (Nat.le_of_ble_eq_true rfl)⟩ (fun H locs hP hS => ?_)
  refine lv_if_eq (tgt := 26) hx hb dX7_isSet_10 (by decide) (fun c7 => ?_) (fun c7 => ?_)
  · have hd := m_i_t c7 hd
    refine W.widen (k := 0) (n := 0) (Nat.le_of_ble_eq_true rfl) (Nat.le_of_ble_eq_true rfl) ?_
    exact J26 u5 _ _ _ hd hP hS (lv_sub hl [] rfl)
  · have hd := m_i_f c7 hd
    refine lv_aload_n hx hb dX7_isSet_13 rfl (lv_at hl 0 rfl) ?_
    refine x_getA (own := RX7) (ref := RX7) hx hb hts hin10 hown hM.1 hZ hP 11 (by decide) (hts (.fieldLink RX7 40 "CellNotebookModel" "stamp" "[I") (by decide +kernel)) (fun _ h9 => h9) dX7_isSet_14 ?_
    refine lv_iload_n hx hb dX7_isSet_17 rfl (lv_at hl 1 rfl) ?_
    obtain ⟨hg8, hd⟩ := m_g_e hd
    refine x_ald hx hb hM.1 hZ hP 11 (by decide) hg8 dX7_isSet_18 ?_
    refine lv_if_le (tgt := 26) hx hb dX7_isSet_19 (by decide) (fun c9 => ?_) (fun c9 => ?_)
    · have hd := m_i_t c9 hd
      refine W.widen (k := 0) (n := 0) (Nat.le_of_ble_eq_true rfl) (Nat.le_of_ble_eq_true rfl) ?_
      exact J26 u5 _ _ _ hd hP hS (lv_sub hl [] rfl)
    · have hd := m_i_f c9 hd
      refine lv_iconst (v := 1) hx hb dX7_isSet_22 (by decide) ?_
      refine lv_goto (tgt := 27) hx hb dX7_isSet_23 (by decide) ?_
      refine W.widen (k := 0) (n := 0) (Nat.le_of_ble_eq_true rfl) (Nat.le_of_ble_eq_true rfl) ?_
      exact J27 u5 1 _ _ _ hd hP hS (lv_sub hl [] rfl)


noncomputable def f_X7_value_42 (u : xS) (s0 : Int32) : Option (Int32 × xS) := some (s0, u)
noncomputable def f_X7_value_25 (u : xS) (x1 : Int32) (s0 : Int32) (s1 : Int32) : Option (Int32 × xS) := m_b (f_X7_goes u s1 s0 1) fun r207 u208 => if r207 = (0 : Int32) then (f_X7_value_42 u208 0) else (m_g (¬ (x1 < 0 ∨ 8 ≤ x1.toNatClampNeg)) <| f_X7_value_42 u208 (u208.2 10 x1.toNatClampNeg))
noncomputable def f_X7_value_24 (u : xS) (x1 : Int32) (s0 : Int32) : Option (Int32 × xS) := f_X7_value_25 u x1 0 s0
noncomputable def f_X7_value (u : xS) (p0 : Int32) : Option (Int32 × xS) := m_b (f_X7_isName u p0) fun r1 u2 => if r1 = (0 : Int32) then (f_X7_value_24 u2 p0 r1) else (m_g (¬ (p0 < 0 ∨ 8 ≤ p0.toNatClampNeg)) <| if (u2.2 11 p0.toNatClampNeg) ≤ (0 : Int32) then (f_X7_value_24 u2 p0 r1) else (f_X7_value_25 u2 p0 1 r1))
set_option maxHeartbeats 1000000 in
set_option maxRecDepth 100000 in
theorem c_X7_value (l : Launch) (G : m_G) (Z : xB) (hZ : x_ok Z) (u u' : xS) (p0 : Int32) (r : Int32) (hd : f_X7_value u p0 = some (r, u')) : Met l yX7_value wsX7_value ({ frames := 2, cells := 0, slots := 0, locals := 42 } : Room) (m_Pc G (x_ov Z u) [.ref (Z.2.1), .int (p0)]) (m_Qi G r (x_ov Z u')) 0 0 (fun q => G.1 ≤ q) := by
  refine Met.ofW (cc := cX7_value) (maxL := 3) (ret := (some .int)) (by decide +kernel) rfl ?_
  intro p e s m args below meth c s₁ B hml hv
  obtain ⟨rfl, hM, hP⟩ := hv
  have hx := B.exec
  have hb := B.bytes
  have hr := B.returns
  have hts := atoms_spec (ws := wsX7_value) B.pre
  have hown : s.vm.findClass RX7 = some m.cls := findClass_of_methodNamed B.named
  have hlocks := B.notSynchronized
  have hin10 : ∀ w ∈ u_ws RX7 TX7 32, w ∈ wsX7_value := by decide +kernel
  have hS : va_S (fun q => G.1 ≤ q) s.heap s.heap [] := va_S.rf
  have J42 : ∀ (u : xS) (s0 : Int32) (H : Heap) (locs : List Loc) (ls : Array Slot), f_X7_value_42 u s0 = some (r, u') → mP G (x_ov Z u) H → va_S (fun q => G.1 ≤ q) s.heap H locs → lv_has ls 3 [] → W p l e ({ frames := 2, cells := 0, slots := 0, locals := 42 } : Room) s m ([.ref (Z.2.1), .int (p0)] : List Value).toArray below meth c H locs 0 0 (MQ below (m_Qi G r (x_ov Z u')) ([.ref (Z.2.1), .int (p0)] : List Value).toArray s 0 0 (fun q => G.1 ≤ q)) (F0 m 42 ls [.int (s0)]) := by
    intro u s0 H locs ls hd hP hS hl
    obtain ⟨e1, e2⟩ := m_s_e hd
    have e2 := congrArg (x_ov Z) e2
    refine W.widen (k := 0) (n := 0) (Nat.le_of_ble_eq_true rfl) (Nat.le_of_ble_eq_true rfl) ?_
    exact W.iret hx hb hr (fun t ht hW => ⟨⟨_, (x_ov Z u), rfl, ⟨e1, e2⟩, by show mP _ _ t.heap; rw [ht]; exact hP⟩, hS.F ht⟩) hS.2.2 dX7_value_42
  have J25 : ∀ (u : xS) (x1 : Int32) (s0 : Int32) (s1 : Int32) (H : Heap) (locs : List Loc) (ls : Array Slot), f_X7_value_25 u x1 s0 s1 = some (r, u') → mP G (x_ov Z u) H → va_S (fun q => G.1 ≤ q) s.heap H locs → lv_has ls 3 [(0, .ref (Z.2.1)), (1, .int (x1))] → W p l e ({ frames := 2, cells := 0, slots := 0, locals := 42 } : Room) s m ([.ref (Z.2.1), .int (p0)] : List Value).toArray below meth c H locs 0 0 (MQ below (m_Qi G r (x_ov Z u')) ([.ref (Z.2.1), .int (p0)] : List Value).toArray s 0 0 (fun q => G.1 ≤ q)) (F0 m 25 ls [.int (s0), .int (s1), .ref (Z.2.1)]) := by
    intro u x1 s0 s1 H locs ls hd hP hS hl
    refine lv_iconst (v := 1) hx hb dX7_value_25 (by decide) ?_
    obtain ⟨r207, u208, hc209, hd⟩ := m_b_e hd
    refine m_calli (k := 0) (n := 0) (va_runV (As := [.int (s1), .int (s0), .int (1)]) (rest := []) ⟨hx, hb, hml, hown, hts⟩ (c_X7_goes l G Z hZ u u208 s1 s0 1 r207 hc209) (cwV 3 hts gX7_value_X7_goes rfl rfl rfl (by decide +kernel) ⟨(Nat.le_of_ble_eq_true rfl), (Nat.le_of_ble_eq_true rfl)⟩) (m_preV (C := RX7) (T := TX7) (N := 32) hM hP hS rfl (by decide) hZ.1) rfl rfl hl.1 rfl (lv_room (Nat.le_of_ble_eq_true rfl)) dX7_value_26 ⟨(Nat.le_of_ble_eq_true rfl), (Nat.le_of_ble_eq_true rfl)⟩) hS ⟨(Nat.le_of_ble_eq_true rfl), (Nat.le_of_ble_eq_true rfl)⟩ (fun H locs hP hS => ?_)
    refine lv_if_eq (tgt := 41) hx hb dX7_value_29 (by decide) (fun c210 => ?_) (fun c210 => ?_)
    · have hd := m_i_t c210 hd
      refine lv_iconst (v := 0) hx hb dX7_value_41 (by decide) ?_
      refine W.widen (k := 0) (n := 0) (Nat.le_of_ble_eq_true rfl) (Nat.le_of_ble_eq_true rfl) ?_
      exact J42 u208 0 _ _ _ hd hP hS (lv_sub hl [] rfl)
    · have hd := m_i_f c210 hd
      refine lv_aload_n hx hb dX7_value_32 rfl (lv_at hl 0 rfl) ?_
      refine x_getA (own := RX7) (ref := RX7) hx hb hts hin10 hown hM.1 hZ hP 10 (by decide) (hts (.fieldLink RX7 37 "CellNotebookModel" "value" "[I") (by decide +kernel)) (fun _ h9 => h9) dX7_value_33 ?_
      refine lv_iload_n hx hb dX7_value_36 rfl (lv_at hl 1 rfl) ?_
      obtain ⟨hg211, hd⟩ := m_g_e hd
      refine x_ald hx hb hM.1 hZ hP 10 (by decide) hg211 dX7_value_37 ?_
      refine lv_goto (tgt := 42) hx hb dX7_value_38 (by decide) ?_
      refine W.widen (k := 0) (n := 0) (Nat.le_of_ble_eq_true rfl) (Nat.le_of_ble_eq_true rfl) ?_
      exact J42 u208 (u208.2 10 x1.toNatClampNeg) _ _ _ hd hP hS (lv_sub hl [] rfl)
  have J24 : ∀ (u : xS) (x1 : Int32) (s0 : Int32) (H : Heap) (locs : List Loc) (ls : Array Slot), f_X7_value_24 u x1 s0 = some (r, u') → mP G (x_ov Z u) H → va_S (fun q => G.1 ≤ q) s.heap H locs → lv_has ls 3 [(0, .ref (Z.2.1)), (1, .int (x1))] → W p l e ({ frames := 2, cells := 0, slots := 0, locals := 42 } : Room) s m ([.ref (Z.2.1), .int (p0)] : List Value).toArray below meth c H locs 0 0 (MQ below (m_Qi G r (x_ov Z u')) ([.ref (Z.2.1), .int (p0)] : List Value).toArray s 0 0 (fun q => G.1 ≤ q)) (F0 m 24 ls [.int (s0), .ref (Z.2.1)]) := by
    intro u x1 s0 H locs ls hd hP hS hl
    refine lv_iconst (v := 0) hx hb dX7_value_24 (by decide) ?_
    refine W.widen (k := 0) (n := 0) (Nat.le_of_ble_eq_true rfl) (Nat.le_of_ble_eq_true rfl) ?_
    exact J25 u x1 0 s0 _ _ _ hd hP hS (lv_sub hl [0, 1] rfl)
  have hl := lv_entry ([.ref (Z.2.1), .int (p0)]) (n := 3) (Nat.le_of_ble_eq_true rfl)
  rw [lg_entry_eq]
  generalize (lg_sl ([.ref (Z.2.1), .int (p0)]) ++ List.replicate (3 - (lg_sl ([.ref (Z.2.1), .int (p0)])).length) Slot.unset).toArray = ls at hl ⊢
  have hl : lv_has ls 3 [(0, .ref (Z.2.1)), (1, .int (p0))] := hl
  refine lv_iload_n hx hb dX7_value_0 rfl (lv_at hl 1 rfl) ?_
  obtain ⟨r1, u2, hc3, hd⟩ := m_b_e hd
  refine m_calli (k := 0) (n := 0) (va_runS (As := [.int (p0)]) (rest := []) ⟨hx, hb, hml, hown, hts⟩ (c_X7_isName l G Z hZ u u2 p0 r1 hc3) (va_cwS 1 hts gX7_value_X7_isName rfl rfl rfl (by decide +kernel) ⟨(Nat.le_of_ble_eq_true rfl), (Nat.le_of_ble_eq_true rfl)⟩) (m_preS hM hP hS) rfl rfl hl.1 rfl (lv_room (Nat.le_of_ble_eq_true rfl)) dX7_value_1 ⟨(Nat.le_of_ble_eq_true rfl), (Nat.le_of_ble_eq_true rfl)⟩) hS ⟨(Nat.le_of_ble_eq_true rfl), (Nat.le_of_ble_eq_true rfl)⟩ (fun H locs hP hS => ?_)
  refine lv_istore_n (lv' := [(2, .int (r1)), (0, .ref (Z.2.1)), (1, .int (p0))]) hx hb dX7_value_4 rfl hl (by decide) rfl (fun ls hl => ?_)
  refine lv_aload_n hx hb dX7_value_5 rfl (lv_at hl 1 rfl) ?_
  refine lv_iload_n hx hb dX7_value_6 rfl (lv_at hl 0 rfl) ?_
  refine lv_iload_n hx hb dX7_value_7 rfl (lv_at hl 0 rfl) ?_
  refine lv_if_eq (tgt := 24) hx hb dX7_value_8 (by decide) (fun c4 => ?_) (fun c4 => ?_)
  · have hd := m_i_t c4 hd
    refine W.widen (k := 0) (n := 0) (Nat.le_of_ble_eq_true rfl) (Nat.le_of_ble_eq_true rfl) ?_
    exact J24 u2 p0 r1 _ _ _ hd hP hS (lv_sub hl [1, 2] rfl)
  · have hd := m_i_f c4 hd
    refine lv_aload_n hx hb dX7_value_11 rfl (lv_at hl 1 rfl) ?_
    refine x_getA (own := RX7) (ref := RX7) hx hb hts hin10 hown hM.1 hZ hP 11 (by decide) (hts (.fieldLink RX7 40 "CellNotebookModel" "stamp" "[I") (by decide +kernel)) (fun _ h9 => h9) dX7_value_12 ?_
    refine lv_iload_n hx hb dX7_value_15 rfl (lv_at hl 2 rfl) ?_
    obtain ⟨hg5, hd⟩ := m_g_e hd
    refine x_ald hx hb hM.1 hZ hP 11 (by decide) hg5 dX7_value_16 ?_
    refine lv_if_le (tgt := 24) hx hb dX7_value_17 (by decide) (fun c6 => ?_) (fun c6 => ?_)
    · have hd := m_i_t c6 hd
      refine W.widen (k := 0) (n := 0) (Nat.le_of_ble_eq_true rfl) (Nat.le_of_ble_eq_true rfl) ?_
      exact J24 u2 p0 r1 _ _ _ hd hP hS (lv_sub hl [1, 2] rfl)
    · have hd := m_i_f c6 hd
      refine lv_iconst (v := 1) hx hb dX7_value_20 (by decide) ?_
      refine lv_goto (tgt := 25) hx hb dX7_value_21 (by decide) ?_
      refine W.widen (k := 0) (n := 0) (Nat.le_of_ble_eq_true rfl) (Nat.le_of_ble_eq_true rfl) ?_
      exact J25 u2 p0 1 r1 _ _ _ hd hP hS (lv_sub hl [1, 2] rfl)


noncomputable def f_X7_stamp_23 (u : xS) (s0 : Int32) : Option (Int32 × xS) := some (s0, u)
noncomputable def f_X7_stamp (u : xS) (p0 : Int32) : Option (Int32 × xS) := m_b (f_X7_isName u p0) fun r1 u2 => m_b (f_X7_goes u2 r1 1 1) fun r4 u5 => if r4 = (0 : Int32) then (f_X7_stamp_23 u5 0) else (m_g (¬ (p0 < 0 ∨ 8 ≤ p0.toNatClampNeg)) <| f_X7_stamp_23 u5 (u5.2 11 p0.toNatClampNeg))
set_option maxHeartbeats 1000000 in
set_option maxRecDepth 100000 in
theorem c_X7_stamp (l : Launch) (G : m_G) (Z : xB) (hZ : x_ok Z) (u u' : xS) (p0 : Int32) (r : Int32) (hd : f_X7_stamp u p0 = some (r, u')) : Met l yX7_stamp wsX7_stamp ({ frames := 2, cells := 0, slots := 0, locals := 42 } : Room) (m_Pc G (x_ov Z u) [.ref (Z.2.1), .int (p0)]) (m_Qi G r (x_ov Z u')) 0 0 (fun q => G.1 ≤ q) := by
  refine Met.ofW (cc := cX7_stamp) (maxL := 2) (ret := (some .int)) (by decide +kernel) rfl ?_
  intro p e s m args below meth c s₁ B hml hv
  obtain ⟨rfl, hM, hP⟩ := hv
  have hx := B.exec
  have hb := B.bytes
  have hr := B.returns
  have hts := atoms_spec (ws := wsX7_stamp) B.pre
  have hown : s.vm.findClass RX7 = some m.cls := findClass_of_methodNamed B.named
  have hlocks := B.notSynchronized
  have hin10 : ∀ w ∈ u_ws RX7 TX7 32, w ∈ wsX7_stamp := by decide +kernel
  have hS : va_S (fun q => G.1 ≤ q) s.heap s.heap [] := va_S.rf
  have J23 : ∀ (u : xS) (s0 : Int32) (H : Heap) (locs : List Loc) (ls : Array Slot), f_X7_stamp_23 u s0 = some (r, u') → mP G (x_ov Z u) H → va_S (fun q => G.1 ≤ q) s.heap H locs → lv_has ls 2 [] → W p l e ({ frames := 2, cells := 0, slots := 0, locals := 42 } : Room) s m ([.ref (Z.2.1), .int (p0)] : List Value).toArray below meth c H locs 0 0 (MQ below (m_Qi G r (x_ov Z u')) ([.ref (Z.2.1), .int (p0)] : List Value).toArray s 0 0 (fun q => G.1 ≤ q)) (F0 m 23 ls [.int (s0)]) := by
    intro u s0 H locs ls hd hP hS hl
    obtain ⟨e1, e2⟩ := m_s_e hd
    have e2 := congrArg (x_ov Z) e2
    refine W.widen (k := 0) (n := 0) (Nat.le_of_ble_eq_true rfl) (Nat.le_of_ble_eq_true rfl) ?_
    exact W.iret hx hb hr (fun t ht hW => ⟨⟨_, (x_ov Z u), rfl, ⟨e1, e2⟩, by show mP _ _ t.heap; rw [ht]; exact hP⟩, hS.F ht⟩) hS.2.2 dX7_stamp_23
  have hl := lv_entry ([.ref (Z.2.1), .int (p0)]) (n := 2) (Nat.le_of_ble_eq_true rfl)
  rw [lg_entry_eq]
  generalize (lg_sl ([.ref (Z.2.1), .int (p0)]) ++ List.replicate (2 - (lg_sl ([.ref (Z.2.1), .int (p0)])).length) Slot.unset).toArray = ls at hl ⊢
  have hl : lv_has ls 2 [(0, .ref (Z.2.1)), (1, .int (p0))] := hl
  refine lv_aload_n hx hb dX7_stamp_0 rfl (lv_at hl 0 rfl) ?_
  refine lv_iload_n hx hb dX7_stamp_1 rfl (lv_at hl 1 rfl) ?_
  obtain ⟨r1, u2, hc3, hd⟩ := m_b_e hd
  refine m_calli (k := 0) (n := 0) (va_runS (As := [.int (p0)]) (rest := [.ref (Z.2.1)]) ⟨hx, hb, hml, hown, hts⟩ (c_X7_isName l G Z hZ u u2 p0 r1 hc3) (va_cwS 1 hts gX7_stamp_X7_isName rfl rfl rfl (by decide +kernel) ⟨(Nat.le_of_ble_eq_true rfl), (Nat.le_of_ble_eq_true rfl)⟩) (m_preS hM hP hS) rfl rfl hl.1 rfl (lv_room (Nat.le_of_ble_eq_true rfl)) dX7_stamp_2 ⟨(Nat.le_of_ble_eq_true rfl), (Nat.le_of_ble_eq_true rfl)⟩) hS ⟨(Nat.le_of_ble_eq_true rfl), (Nat.le_of_ble_eq_true rfl)⟩ (fun H locs hP hS => ?_)
  refine lv_iconst (v := 1) hx hb dX7_stamp_5 (by decide) ?_
  refine lv_iconst (v := 1) hx hb dX7_stamp_6 (by decide) ?_
  obtain ⟨r4, u5, hc6, hd⟩ := m_b_e hd
  refine m_calli (k := 0) (n := 0) (va_runV (As := [.int (r1), .int (1), .int (1)]) (rest := []) ⟨hx, hb, hml, hown, hts⟩ (c_X7_goes l G Z hZ u2 u5 r1 1 1 r4 hc6) (cwV 3 hts gX7_stamp_X7_goes rfl rfl rfl (by decide +kernel) ⟨(Nat.le_of_ble_eq_true rfl), (Nat.le_of_ble_eq_true rfl)⟩) (m_preV (C := RX7) (T := TX7) (N := 32) hM hP hS rfl (by decide) hZ.1) rfl rfl hl.1 rfl (lv_room (Nat.le_of_ble_eq_true rfl)) dX7_stamp_7 ⟨(Nat.le_of_ble_eq_true rfl), (Nat.le_of_ble_eq_true rfl)⟩) hS ⟨(Nat.le_of_ble_eq_true rfl), (Nat.le_of_ble_eq_true rfl)⟩ (fun H locs hP hS => ?_)
  refine lv_if_eq (tgt := 22) hx hb dX7_stamp_10 (by decide) (fun c7 => ?_) (fun c7 => ?_)
  · have hd := m_i_t c7 hd
    refine lv_iconst (v := 0) hx hb dX7_stamp_22 (by decide) ?_
    refine W.widen (k := 0) (n := 0) (Nat.le_of_ble_eq_true rfl) (Nat.le_of_ble_eq_true rfl) ?_
    exact J23 u5 0 _ _ _ hd hP hS (lv_sub hl [] rfl)
  · have hd := m_i_f c7 hd
    refine lv_aload_n hx hb dX7_stamp_13 rfl (lv_at hl 0 rfl) ?_
    refine x_getA (own := RX7) (ref := RX7) hx hb hts hin10 hown hM.1 hZ hP 11 (by decide) (hts (.fieldLink RX7 40 "CellNotebookModel" "stamp" "[I") (by decide +kernel)) (fun _ h9 => h9) dX7_stamp_14 ?_
    refine lv_iload_n hx hb dX7_stamp_17 rfl (lv_at hl 1 rfl) ?_
    obtain ⟨hg8, hd⟩ := m_g_e hd
    refine x_ald hx hb hM.1 hZ hP 11 (by decide) hg8 dX7_stamp_18 ?_
    refine lv_goto (tgt := 23) hx hb dX7_stamp_19 (by decide) ?_
    refine W.widen (k := 0) (n := 0) (Nat.le_of_ble_eq_true rfl) (Nat.le_of_ble_eq_true rfl) ?_
    exact J23 u5 (u5.2 11 p0.toNatClampNeg) _ _ _ hd hP hS (lv_sub hl [] rfl)


noncomputable def f_X7_lastRun_24 (u : xS) (s0 : Int32) : Option (Int32 × xS) := some (s0, u)
noncomputable def f_X7_lastRun (u : xS) (p0 : Int32) : Option (Int32 × xS) := m_b (f_X7_isCell u p0) fun r1 u2 => m_b (f_X7_goes u2 r1 1 1) fun r4 u5 => if r4 = (0 : Int32) then (f_X7_lastRun_24 u5 0) else (m_g (¬ (p0 < 0 ∨ 16 ≤ p0.toNatClampNeg)) <| f_X7_lastRun_24 u5 (u5.2 8 p0.toNatClampNeg))
set_option maxHeartbeats 1000000 in
set_option maxRecDepth 100000 in
theorem c_X7_lastRun (l : Launch) (G : m_G) (Z : xB) (hZ : x_ok Z) (u u' : xS) (p0 : Int32) (r : Int32) (hd : f_X7_lastRun u p0 = some (r, u')) : Met l yX7_lastRun wsX7_lastRun ({ frames := 2, cells := 0, slots := 0, locals := 43 } : Room) (m_Pc G (x_ov Z u) [.ref (Z.2.1), .int (p0)]) (m_Qi G r (x_ov Z u')) 0 0 (fun q => G.1 ≤ q) := by
  refine Met.ofW (cc := cX7_lastRun) (maxL := 2) (ret := (some .int)) (by decide +kernel) rfl ?_
  intro p e s m args below meth c s₁ B hml hv
  obtain ⟨rfl, hM, hP⟩ := hv
  have hx := B.exec
  have hb := B.bytes
  have hr := B.returns
  have hts := atoms_spec (ws := wsX7_lastRun) B.pre
  have hown : s.vm.findClass RX7 = some m.cls := findClass_of_methodNamed B.named
  have hlocks := B.notSynchronized
  have hin10 : ∀ w ∈ u_ws RX7 TX7 32, w ∈ wsX7_lastRun := by decide +kernel
  have hS : va_S (fun q => G.1 ≤ q) s.heap s.heap [] := va_S.rf
  have J24 : ∀ (u : xS) (s0 : Int32) (H : Heap) (locs : List Loc) (ls : Array Slot), f_X7_lastRun_24 u s0 = some (r, u') → mP G (x_ov Z u) H → va_S (fun q => G.1 ≤ q) s.heap H locs → lv_has ls 2 [] → W p l e ({ frames := 2, cells := 0, slots := 0, locals := 43 } : Room) s m ([.ref (Z.2.1), .int (p0)] : List Value).toArray below meth c H locs 0 0 (MQ below (m_Qi G r (x_ov Z u')) ([.ref (Z.2.1), .int (p0)] : List Value).toArray s 0 0 (fun q => G.1 ≤ q)) (F0 m 24 ls [.int (s0)]) := by
    intro u s0 H locs ls hd hP hS hl
    obtain ⟨e1, e2⟩ := m_s_e hd
    have e2 := congrArg (x_ov Z) e2
    refine W.widen (k := 0) (n := 0) (Nat.le_of_ble_eq_true rfl) (Nat.le_of_ble_eq_true rfl) ?_
    exact W.iret hx hb hr (fun t ht hW => ⟨⟨_, (x_ov Z u), rfl, ⟨e1, e2⟩, by show mP _ _ t.heap; rw [ht]; exact hP⟩, hS.F ht⟩) hS.2.2 dX7_lastRun_24
  have hl := lv_entry ([.ref (Z.2.1), .int (p0)]) (n := 2) (Nat.le_of_ble_eq_true rfl)
  rw [lg_entry_eq]
  generalize (lg_sl ([.ref (Z.2.1), .int (p0)]) ++ List.replicate (2 - (lg_sl ([.ref (Z.2.1), .int (p0)])).length) Slot.unset).toArray = ls at hl ⊢
  have hl : lv_has ls 2 [(0, .ref (Z.2.1)), (1, .int (p0))] := hl
  refine lv_aload_n hx hb dX7_lastRun_0 rfl (lv_at hl 0 rfl) ?_
  refine lv_aload_n hx hb dX7_lastRun_1 rfl (lv_at hl 0 rfl) ?_
  refine lv_iload_n hx hb dX7_lastRun_2 rfl (lv_at hl 1 rfl) ?_
  obtain ⟨r1, u2, hc3, hd⟩ := m_b_e hd
  refine m_calli (k := 0) (n := 0) (va_runV (As := [.int (p0)]) (rest := [.ref (Z.2.1)]) ⟨hx, hb, hml, hown, hts⟩ (c_X7_isCell l G Z hZ u u2 p0 r1 hc3) (cwV 1 hts gX7_lastRun_X7_isCell rfl rfl rfl (by decide +kernel) ⟨(Nat.le_of_ble_eq_true rfl), (Nat.le_of_ble_eq_true rfl)⟩) (m_preV (C := RX7) (T := TX7) (N := 32) hM hP hS rfl (by decide) hZ.1) rfl rfl hl.1 rfl (lv_room (Nat.le_of_ble_eq_true rfl)) dX7_lastRun_3 ⟨(Nat.le_of_ble_eq_true rfl), (Nat.le_of_ble_eq_true rfl)⟩) hS ⟨(Nat.le_of_ble_eq_true rfl), (Nat.le_of_ble_eq_true rfl)⟩ (fun H locs hP hS => ?_)
  refine lv_iconst (v := 1) hx hb dX7_lastRun_6 (by decide) ?_
  refine lv_iconst (v := 1) hx hb dX7_lastRun_7 (by decide) ?_
  obtain ⟨r4, u5, hc6, hd⟩ := m_b_e hd
  refine m_calli (k := 0) (n := 0) (va_runV (As := [.int (r1), .int (1), .int (1)]) (rest := []) ⟨hx, hb, hml, hown, hts⟩ (c_X7_goes l G Z hZ u2 u5 r1 1 1 r4 hc6) (cwV 3 hts gX7_lastRun_X7_goes rfl rfl rfl (by decide +kernel) ⟨(Nat.le_of_ble_eq_true rfl), (Nat.le_of_ble_eq_true rfl)⟩) (m_preV (C := RX7) (T := TX7) (N := 32) hM hP hS rfl (by decide) hZ.1) rfl rfl hl.1 rfl (lv_room (Nat.le_of_ble_eq_true rfl)) dX7_lastRun_8 ⟨(Nat.le_of_ble_eq_true rfl), (Nat.le_of_ble_eq_true rfl)⟩) hS ⟨(Nat.le_of_ble_eq_true rfl), (Nat.le_of_ble_eq_true rfl)⟩ (fun H locs hP hS => ?_)
  refine lv_if_eq (tgt := 23) hx hb dX7_lastRun_11 (by decide) (fun c7 => ?_) (fun c7 => ?_)
  · have hd := m_i_t c7 hd
    refine lv_iconst (v := 0) hx hb dX7_lastRun_23 (by decide) ?_
    refine W.widen (k := 0) (n := 0) (Nat.le_of_ble_eq_true rfl) (Nat.le_of_ble_eq_true rfl) ?_
    exact J24 u5 0 _ _ _ hd hP hS (lv_sub hl [] rfl)
  · have hd := m_i_f c7 hd
    refine lv_aload_n hx hb dX7_lastRun_14 rfl (lv_at hl 0 rfl) ?_
    refine x_getA (own := RX7) (ref := RX7) hx hb hts hin10 hown hM.1 hZ hP 8 (by decide) (hts (.fieldLink RX7 31 "CellNotebookModel" "last" "[I") (by decide +kernel)) (fun _ h9 => h9) dX7_lastRun_15 ?_
    refine lv_iload_n hx hb dX7_lastRun_18 rfl (lv_at hl 1 rfl) ?_
    obtain ⟨hg8, hd⟩ := m_g_e hd
    refine x_ald hx hb hM.1 hZ hP 8 (by decide) hg8 dX7_lastRun_19 ?_
    refine lv_goto (tgt := 24) hx hb dX7_lastRun_20 (by decide) ?_
    refine W.widen (k := 0) (n := 0) (Nat.le_of_ble_eq_true rfl) (Nat.le_of_ble_eq_true rfl) ?_
    exact J24 u5 (u5.2 8 p0.toNatClampNeg) _ _ _ hd hP hS (lv_sub hl [] rfl)


noncomputable def f_X7_hasResult_33 (u : xS) (s0 : Int32) : Option (Int32 × xS) := m_g (vp_nar .boolean s0 = s0) <| some (s0, u)
noncomputable def f_X7_hasResult_32 (u : xS)  : Option (Int32 × xS) := f_X7_hasResult_33 u 0
noncomputable def f_X7_hasResult (u : xS) (p0 : Int32) : Option (Int32 × xS) := m_b (f_X7_isCell u p0) fun r1 u2 => m_b (f_X7_goes u2 r1 1 1) fun r4 u5 => if r4 = (0 : Int32) then (f_X7_hasResult_32 u5) else (m_g (¬ (p0 < 0 ∨ 16 ≤ p0.toNatClampNeg)) <| m_g (¬ ((u5.2 8 p0.toNatClampNeg) < 0 ∨ 401 ≤ (u5.2 8 p0.toNatClampNeg).toNatClampNeg)) <| if (u5.2 18 (u5.2 8 p0.toNatClampNeg).toNatClampNeg) = (0 : Int32) then (f_X7_hasResult_32 u5) else (f_X7_hasResult_33 u5 1))
set_option maxHeartbeats 1000000 in
set_option maxRecDepth 100000 in
theorem c_X7_hasResult (l : Launch) (G : m_G) (Z : xB) (hZ : x_ok Z) (u u' : xS) (p0 : Int32) (r : Int32) (hd : f_X7_hasResult u p0 = some (r, u')) : Met l yX7_hasResult wsX7_hasResult ({ frames := 2, cells := 0, slots := 0, locals := 43 } : Room) (m_Pc G (x_ov Z u) [.ref (Z.2.1), .int (p0)]) (m_Qi G r (x_ov Z u')) 0 0 (fun q => G.1 ≤ q) := by
  refine Met.ofW (cc := cX7_hasResult) (maxL := 2) (ret := (some .boolean)) (by decide +kernel) rfl ?_
  intro p e s m args below meth c s₁ B hml hv
  obtain ⟨rfl, hM, hP⟩ := hv
  have hx := B.exec
  have hb := B.bytes
  have hr := B.returns
  have hts := atoms_spec (ws := wsX7_hasResult) B.pre
  have hown : s.vm.findClass RX7 = some m.cls := findClass_of_methodNamed B.named
  have hlocks := B.notSynchronized
  have hin10 : ∀ w ∈ u_ws RX7 TX7 32, w ∈ wsX7_hasResult := by decide +kernel
  have hS : va_S (fun q => G.1 ≤ q) s.heap s.heap [] := va_S.rf
  have J33 : ∀ (u : xS) (s0 : Int32) (H : Heap) (locs : List Loc) (ls : Array Slot), f_X7_hasResult_33 u s0 = some (r, u') → mP G (x_ov Z u) H → va_S (fun q => G.1 ≤ q) s.heap H locs → lv_has ls 2 [] → W p l e ({ frames := 2, cells := 0, slots := 0, locals := 43 } : Room) s m ([.ref (Z.2.1), .int (p0)] : List Value).toArray below meth c H locs 0 0 (MQ below (m_Qi G r (x_ov Z u')) ([.ref (Z.2.1), .int (p0)] : List Value).toArray s 0 0 (fun q => G.1 ≤ q)) (F0 m 33 ls [.int (s0)]) := by
    intro u s0 H locs ls hd hP hS hl
    obtain ⟨hn211, hd⟩ := m_g_e hd
    obtain ⟨e1, e2⟩ := m_s_e hd
    have e2 := congrArg (x_ov Z) e2
    refine W.widen (k := 0) (n := 0) (Nat.le_of_ble_eq_true rfl) (Nat.le_of_ble_eq_true rfl) ?_
    exact W.zret hx hb hr (m_narZ hn211).1 (fun t ht hW => ⟨⟨_, (x_ov Z u), rfl, ⟨e1, e2⟩, by show mP _ _ t.heap; rw [ht]; exact hP⟩, hS.F ht⟩) hS.2.2 dX7_hasResult_33
  have J32 : ∀ (u : xS) (H : Heap) (locs : List Loc) (ls : Array Slot), f_X7_hasResult_32 u = some (r, u') → mP G (x_ov Z u) H → va_S (fun q => G.1 ≤ q) s.heap H locs → lv_has ls 2 [] → W p l e ({ frames := 2, cells := 0, slots := 0, locals := 43 } : Room) s m ([.ref (Z.2.1), .int (p0)] : List Value).toArray below meth c H locs 0 0 (MQ below (m_Qi G r (x_ov Z u')) ([.ref (Z.2.1), .int (p0)] : List Value).toArray s 0 0 (fun q => G.1 ≤ q)) (F0 m 32 ls []) := by
    intro u H locs ls hd hP hS hl
    refine lv_iconst (v := 0) hx hb dX7_hasResult_32 (by decide) ?_
    refine W.widen (k := 0) (n := 0) (Nat.le_of_ble_eq_true rfl) (Nat.le_of_ble_eq_true rfl) ?_
    exact J33 u 0 _ _ _ hd hP hS (lv_sub hl [] rfl)
  have hl := lv_entry ([.ref (Z.2.1), .int (p0)]) (n := 2) (Nat.le_of_ble_eq_true rfl)
  rw [lg_entry_eq]
  generalize (lg_sl ([.ref (Z.2.1), .int (p0)]) ++ List.replicate (2 - (lg_sl ([.ref (Z.2.1), .int (p0)])).length) Slot.unset).toArray = ls at hl ⊢
  have hl : lv_has ls 2 [(0, .ref (Z.2.1)), (1, .int (p0))] := hl
  refine lv_aload_n hx hb dX7_hasResult_0 rfl (lv_at hl 0 rfl) ?_
  refine lv_aload_n hx hb dX7_hasResult_1 rfl (lv_at hl 0 rfl) ?_
  refine lv_iload_n hx hb dX7_hasResult_2 rfl (lv_at hl 1 rfl) ?_
  obtain ⟨r1, u2, hc3, hd⟩ := m_b_e hd
  refine m_calli (k := 0) (n := 0) (va_runV (As := [.int (p0)]) (rest := [.ref (Z.2.1)]) ⟨hx, hb, hml, hown, hts⟩ (c_X7_isCell l G Z hZ u u2 p0 r1 hc3) (cwV 1 hts gX7_hasResult_X7_isCell rfl rfl rfl (by decide +kernel) ⟨(Nat.le_of_ble_eq_true rfl), (Nat.le_of_ble_eq_true rfl)⟩) (m_preV (C := RX7) (T := TX7) (N := 32) hM hP hS rfl (by decide) hZ.1) rfl rfl hl.1 rfl (lv_room (Nat.le_of_ble_eq_true rfl)) dX7_hasResult_3 ⟨(Nat.le_of_ble_eq_true rfl), (Nat.le_of_ble_eq_true rfl)⟩) hS ⟨(Nat.le_of_ble_eq_true rfl), (Nat.le_of_ble_eq_true rfl)⟩ (fun H locs hP hS => ?_)
  refine lv_iconst (v := 1) hx hb dX7_hasResult_6 (by decide) ?_
  refine lv_iconst (v := 1) hx hb dX7_hasResult_7 (by decide) ?_
  obtain ⟨r4, u5, hc6, hd⟩ := m_b_e hd
  refine m_calli (k := 0) (n := 0) (va_runV (As := [.int (r1), .int (1), .int (1)]) (rest := []) ⟨hx, hb, hml, hown, hts⟩ (c_X7_goes l G Z hZ u2 u5 r1 1 1 r4 hc6) (cwV 3 hts gX7_hasResult_X7_goes rfl rfl rfl (by decide +kernel) ⟨(Nat.le_of_ble_eq_true rfl), (Nat.le_of_ble_eq_true rfl)⟩) (m_preV (C := RX7) (T := TX7) (N := 32) hM hP hS rfl (by decide) hZ.1) rfl rfl hl.1 rfl (lv_room (Nat.le_of_ble_eq_true rfl)) dX7_hasResult_8 ⟨(Nat.le_of_ble_eq_true rfl), (Nat.le_of_ble_eq_true rfl)⟩) hS ⟨(Nat.le_of_ble_eq_true rfl), (Nat.le_of_ble_eq_true rfl)⟩ (fun H locs hP hS => ?_)
  refine lv_if_eq (tgt := 32) hx hb dX7_hasResult_11 (by decide) (fun c7 => ?_) (fun c7 => ?_)
  · have hd := m_i_t c7 hd
    refine W.widen (k := 0) (n := 0) (Nat.le_of_ble_eq_true rfl) (Nat.le_of_ble_eq_true rfl) ?_
    exact J32 u5 _ _ _ hd hP hS (lv_sub hl [] rfl)
  · have hd := m_i_f c7 hd
    refine lv_aload_n hx hb dX7_hasResult_14 rfl (lv_at hl 0 rfl) ?_
    refine x_getA (own := RX7) (ref := RX7) hx hb hts hin10 hown hM.1 hZ hP 18 (by decide) (hts (.fieldLink RX7 58 "CellNotebookModel" "results" "[Z") (by decide +kernel)) (fun _ h9 => h9) dX7_hasResult_15 ?_
    refine lv_aload_n hx hb dX7_hasResult_18 rfl (lv_at hl 0 rfl) ?_
    refine x_getA (own := RX7) (ref := RX7) hx hb hts hin10 hown hM.1 hZ hP 8 (by decide) (hts (.fieldLink RX7 31 "CellNotebookModel" "last" "[I") (by decide +kernel)) (fun _ h9 => h9) dX7_hasResult_19 ?_
    refine lv_iload_n hx hb dX7_hasResult_22 rfl (lv_at hl 1 rfl) ?_
    obtain ⟨hg8, hd⟩ := m_g_e hd
    refine x_ald hx hb hM.1 hZ hP 8 (by decide) hg8 dX7_hasResult_23 ?_
    obtain ⟨hg9, hd⟩ := m_g_e hd
    refine x_zald hx hb hM.1 hZ hP 18 (by decide) hg9 dX7_hasResult_24 ?_
    refine lv_if_eq (tgt := 32) hx hb dX7_hasResult_25 (by decide) (fun c10 => ?_) (fun c10 => ?_)
    · have hd := m_i_t c10 hd
      refine W.widen (k := 0) (n := 0) (Nat.le_of_ble_eq_true rfl) (Nat.le_of_ble_eq_true rfl) ?_
      exact J32 u5 _ _ _ hd hP hS (lv_sub hl [] rfl)
    · have hd := m_i_f c10 hd
      refine lv_iconst (v := 1) hx hb dX7_hasResult_28 (by decide) ?_
      refine lv_goto (tgt := 33) hx hb dX7_hasResult_29 (by decide) ?_
      refine W.widen (k := 0) (n := 0) (Nat.le_of_ble_eq_true rfl) (Nat.le_of_ble_eq_true rfl) ?_
      exact J33 u5 1 _ _ _ hd hP hS (lv_sub hl [] rfl)


noncomputable def f_X7_result_78 (u : xS) (s0 : Int32) : Option (Int32 × xS) := some (s0, u)
noncomputable def f_X7_result_56 (u : xS) (x2 : Int32) (s0 : Int32) (s1 : Int32) : Option (Int32 × xS) := m_b (f_X7_goes u s1 s0 1) fun r417 u418 => if r417 = (0 : Int32) then (f_X7_result_78 u418 0) else (m_g (¬ (x2 < 0 ∨ 16 ≤ x2.toNatClampNeg)) <| m_g (¬ ((u418.2 8 x2.toNatClampNeg) < 0 ∨ 401 ≤ (u418.2 8 x2.toNatClampNeg).toNatClampNeg)) <| f_X7_result_78 u418 (u418.2 17 (u418.2 8 x2.toNatClampNeg).toNatClampNeg))
noncomputable def f_X7_result_55 (u : xS) (x2 : Int32) (s0 : Int32) : Option (Int32 × xS) := f_X7_result_56 u x2 0 s0
noncomputable def f_X7_result_20 (u : xS) (x1 : Int32) (x2 : Int32) (s0 : Int32) : Option (Int32 × xS) := if s0 = (0 : Int32) then (f_X7_result_55 u x2 s0) else (m_b (f_X7_rightOf u x1 x2) fun r210 u211 => if r210 < 1 then (f_X7_result_55 u211 x2 s0) else (m_g (¬ (x2 < 0 ∨ 16 ≤ x2.toNatClampNeg)) <| m_g (¬ ((u211.2 8 x2.toNatClampNeg) < 0 ∨ 401 ≤ (u211.2 8 x2.toNatClampNeg).toNatClampNeg)) <| if (u211.2 18 (u211.2 8 x2.toNatClampNeg).toNatClampNeg) = (0 : Int32) then (f_X7_result_55 u211 x2 s0) else (f_X7_result_56 u211 x2 1 s0)))
noncomputable def f_X7_result_19 (u : xS) (x1 : Int32) (x2 : Int32) : Option (Int32 × xS) := f_X7_result_20 u x1 x2 0
noncomputable def f_X7_result (u : xS) (p0 : Int32) (p1 : Int32) : Option (Int32 × xS) := m_b (f_X7_isUser u p0) fun r1 u2 => if r1 = (0 : Int32) then (f_X7_result_19 u2 p0 p1) else (m_b (f_X7_isCell u2 p1) fun r5 u6 => if r5 = (0 : Int32) then (f_X7_result_19 u6 p0 p1) else (f_X7_result_20 u6 p0 p1 1))
set_option maxHeartbeats 1000000 in
set_option maxRecDepth 100000 in
theorem c_X7_result (l : Launch) (G : m_G) (Z : xB) (hZ : x_ok Z) (u u' : xS) (p0 : Int32) (p1 : Int32) (r : Int32) (hd : f_X7_result u p0 p1 = some (r, u')) : Met l yX7_result wsX7_result ({ frames := 2, cells := 0, slots := 0, locals := 43 } : Room) (m_Pc G (x_ov Z u) [.ref (Z.2.1), .int (p0), .int (p1)]) (m_Qi G r (x_ov Z u')) 0 0 (fun q => G.1 ≤ q) := by
  refine Met.ofW (cc := cX7_result) (maxL := 4) (ret := (some .int)) (by decide +kernel) rfl ?_
  intro p e s m args below meth c s₁ B hml hv
  obtain ⟨rfl, hM, hP⟩ := hv
  have hx := B.exec
  have hb := B.bytes
  have hr := B.returns
  have hts := atoms_spec (ws := wsX7_result) B.pre
  have hown : s.vm.findClass RX7 = some m.cls := findClass_of_methodNamed B.named
  have hlocks := B.notSynchronized
  have hin10 : ∀ w ∈ u_ws RX7 TX7 32, w ∈ wsX7_result := by decide +kernel
  have hS : va_S (fun q => G.1 ≤ q) s.heap s.heap [] := va_S.rf
  have J78 : ∀ (u : xS) (s0 : Int32) (H : Heap) (locs : List Loc) (ls : Array Slot), f_X7_result_78 u s0 = some (r, u') → mP G (x_ov Z u) H → va_S (fun q => G.1 ≤ q) s.heap H locs → lv_has ls 4 [] → W p l e ({ frames := 2, cells := 0, slots := 0, locals := 43 } : Room) s m ([.ref (Z.2.1), .int (p0), .int (p1)] : List Value).toArray below meth c H locs 0 0 (MQ below (m_Qi G r (x_ov Z u')) ([.ref (Z.2.1), .int (p0), .int (p1)] : List Value).toArray s 0 0 (fun q => G.1 ≤ q)) (F0 m 78 ls [.int (s0)]) := by
    intro u s0 H locs ls hd hP hS hl
    obtain ⟨e1, e2⟩ := m_s_e hd
    have e2 := congrArg (x_ov Z) e2
    refine W.widen (k := 0) (n := 0) (Nat.le_of_ble_eq_true rfl) (Nat.le_of_ble_eq_true rfl) ?_
    exact W.iret hx hb hr (fun t ht hW => ⟨⟨_, (x_ov Z u), rfl, ⟨e1, e2⟩, by show mP _ _ t.heap; rw [ht]; exact hP⟩, hS.F ht⟩) hS.2.2 dX7_result_78
  have J56 : ∀ (u : xS) (x2 : Int32) (s0 : Int32) (s1 : Int32) (H : Heap) (locs : List Loc) (ls : Array Slot), f_X7_result_56 u x2 s0 s1 = some (r, u') → mP G (x_ov Z u) H → va_S (fun q => G.1 ≤ q) s.heap H locs → lv_has ls 4 [(0, .ref (Z.2.1)), (2, .int (x2))] → W p l e ({ frames := 2, cells := 0, slots := 0, locals := 43 } : Room) s m ([.ref (Z.2.1), .int (p0), .int (p1)] : List Value).toArray below meth c H locs 0 0 (MQ below (m_Qi G r (x_ov Z u')) ([.ref (Z.2.1), .int (p0), .int (p1)] : List Value).toArray s 0 0 (fun q => G.1 ≤ q)) (F0 m 56 ls [.int (s0), .int (s1), .ref (Z.2.1)]) := by
    intro u x2 s0 s1 H locs ls hd hP hS hl
    refine lv_iconst (v := 1) hx hb dX7_result_56 (by decide) ?_
    obtain ⟨r417, u418, hc419, hd⟩ := m_b_e hd
    refine m_calli (k := 0) (n := 0) (va_runV (As := [.int (s1), .int (s0), .int (1)]) (rest := []) ⟨hx, hb, hml, hown, hts⟩ (c_X7_goes l G Z hZ u u418 s1 s0 1 r417 hc419) (cwV 3 hts gX7_result_X7_goes rfl rfl rfl (by decide +kernel) ⟨(Nat.le_of_ble_eq_true rfl), (Nat.le_of_ble_eq_true rfl)⟩) (m_preV (C := RX7) (T := TX7) (N := 32) hM hP hS rfl (by decide) hZ.1) rfl rfl hl.1 rfl (lv_room (Nat.le_of_ble_eq_true rfl)) dX7_result_57 ⟨(Nat.le_of_ble_eq_true rfl), (Nat.le_of_ble_eq_true rfl)⟩) hS ⟨(Nat.le_of_ble_eq_true rfl), (Nat.le_of_ble_eq_true rfl)⟩ (fun H locs hP hS => ?_)
    refine lv_if_eq (tgt := 77) hx hb dX7_result_60 (by decide) (fun c420 => ?_) (fun c420 => ?_)
    · have hd := m_i_t c420 hd
      refine lv_iconst (v := 0) hx hb dX7_result_77 (by decide) ?_
      refine W.widen (k := 0) (n := 0) (Nat.le_of_ble_eq_true rfl) (Nat.le_of_ble_eq_true rfl) ?_
      exact J78 u418 0 _ _ _ hd hP hS (lv_sub hl [] rfl)
    · have hd := m_i_f c420 hd
      refine lv_aload_n hx hb dX7_result_63 rfl (lv_at hl 0 rfl) ?_
      refine x_getA (own := RX7) (ref := RX7) hx hb hts hin10 hown hM.1 hZ hP 17 (by decide) (hts (.fieldLink RX7 55 "CellNotebookModel" "result" "[I") (by decide +kernel)) (fun _ h9 => h9) dX7_result_64 ?_
      refine lv_aload_n hx hb dX7_result_67 rfl (lv_at hl 0 rfl) ?_
      refine x_getA (own := RX7) (ref := RX7) hx hb hts hin10 hown hM.1 hZ hP 8 (by decide) (hts (.fieldLink RX7 31 "CellNotebookModel" "last" "[I") (by decide +kernel)) (fun _ h9 => h9) dX7_result_68 ?_
      refine lv_iload_n hx hb dX7_result_71 rfl (lv_at hl 1 rfl) ?_
      obtain ⟨hg421, hd⟩ := m_g_e hd
      refine x_ald hx hb hM.1 hZ hP 8 (by decide) hg421 dX7_result_72 ?_
      obtain ⟨hg422, hd⟩ := m_g_e hd
      refine x_ald hx hb hM.1 hZ hP 17 (by decide) hg422 dX7_result_73 ?_
      refine lv_goto (tgt := 78) hx hb dX7_result_74 (by decide) ?_
      refine W.widen (k := 0) (n := 0) (Nat.le_of_ble_eq_true rfl) (Nat.le_of_ble_eq_true rfl) ?_
      exact J78 u418 (u418.2 17 (u418.2 8 x2.toNatClampNeg).toNatClampNeg) _ _ _ hd hP hS (lv_sub hl [] rfl)
  have J55 : ∀ (u : xS) (x2 : Int32) (s0 : Int32) (H : Heap) (locs : List Loc) (ls : Array Slot), f_X7_result_55 u x2 s0 = some (r, u') → mP G (x_ov Z u) H → va_S (fun q => G.1 ≤ q) s.heap H locs → lv_has ls 4 [(0, .ref (Z.2.1)), (2, .int (x2))] → W p l e ({ frames := 2, cells := 0, slots := 0, locals := 43 } : Room) s m ([.ref (Z.2.1), .int (p0), .int (p1)] : List Value).toArray below meth c H locs 0 0 (MQ below (m_Qi G r (x_ov Z u')) ([.ref (Z.2.1), .int (p0), .int (p1)] : List Value).toArray s 0 0 (fun q => G.1 ≤ q)) (F0 m 55 ls [.int (s0), .ref (Z.2.1)]) := by
    intro u x2 s0 H locs ls hd hP hS hl
    refine lv_iconst (v := 0) hx hb dX7_result_55 (by decide) ?_
    refine W.widen (k := 0) (n := 0) (Nat.le_of_ble_eq_true rfl) (Nat.le_of_ble_eq_true rfl) ?_
    exact J56 u x2 0 s0 _ _ _ hd hP hS (lv_sub hl [0, 1] rfl)
  have J20 : ∀ (u : xS) (x1 : Int32) (x2 : Int32) (s0 : Int32) (H : Heap) (locs : List Loc) (ls : Array Slot), f_X7_result_20 u x1 x2 s0 = some (r, u') → mP G (x_ov Z u) H → va_S (fun q => G.1 ≤ q) s.heap H locs → lv_has ls 4 [(0, .ref (Z.2.1)), (1, .int (x1)), (2, .int (x2))] → W p l e ({ frames := 2, cells := 0, slots := 0, locals := 43 } : Room) s m ([.ref (Z.2.1), .int (p0), .int (p1)] : List Value).toArray below meth c H locs 0 0 (MQ below (m_Qi G r (x_ov Z u')) ([.ref (Z.2.1), .int (p0), .int (p1)] : List Value).toArray s 0 0 (fun q => G.1 ≤ q)) (F0 m 20 ls [.int (s0)]) := by
    intro u x1 x2 s0 H locs ls hd hP hS hl
    refine lv_istore_n (lv' := [(3, .int (s0)), (0, .ref (Z.2.1)), (1, .int (x1)), (2, .int (x2))]) hx hb dX7_result_20 rfl hl (by decide) rfl (fun ls hl => ?_)
    refine lv_aload_n hx hb dX7_result_21 rfl (lv_at hl 1 rfl) ?_
    refine lv_iload_n hx hb dX7_result_22 rfl (lv_at hl 0 rfl) ?_
    refine lv_iload_n hx hb dX7_result_23 rfl (lv_at hl 0 rfl) ?_
    refine lv_if_eq (tgt := 55) hx hb dX7_result_24 (by decide) (fun c209 => ?_) (fun c209 => ?_)
    · have hd := m_i_t c209 hd
      refine W.widen (k := 0) (n := 0) (Nat.le_of_ble_eq_true rfl) (Nat.le_of_ble_eq_true rfl) ?_
      exact J55 u x2 s0 _ _ _ hd hP hS (lv_sub hl [1, 3] rfl)
    · have hd := m_i_f c209 hd
      refine lv_aload_n hx hb dX7_result_27 rfl (lv_at hl 1 rfl) ?_
      refine lv_iload_n hx hb dX7_result_28 rfl (lv_at hl 2 rfl) ?_
      refine lv_iload_n hx hb dX7_result_29 rfl (lv_at hl 3 rfl) ?_
      obtain ⟨r210, u211, hc212, hd⟩ := m_b_e hd
      refine m_calli (k := 0) (n := 0) (va_runV (As := [.int (x1), .int (x2)]) (rest := [.int (s0), .ref (Z.2.1)]) ⟨hx, hb, hml, hown, hts⟩ (c_X7_rightOf l G Z hZ u u211 x1 x2 r210 hc212) (cwV 2 hts gX7_result_X7_rightOf rfl rfl rfl (by decide +kernel) ⟨(Nat.le_of_ble_eq_true rfl), (Nat.le_of_ble_eq_true rfl)⟩) (m_preV (C := RX7) (T := TX7) (N := 32) hM hP hS rfl (by decide) hZ.1) rfl rfl hl.1 rfl (lv_room (Nat.le_of_ble_eq_true rfl)) dX7_result_30 ⟨(Nat.le_of_ble_eq_true rfl), (Nat.le_of_ble_eq_true rfl)⟩) hS ⟨(Nat.le_of_ble_eq_true rfl), (Nat.le_of_ble_eq_true rfl)⟩ (fun H locs hP hS => ?_)
      refine lv_iconst (v := 1) hx hb dX7_result_33 (by decide) ?_
      refine lv_icmp_lt (tgt := 55) hx hb dX7_result_34 (by decide) (fun c213 => ?_) (fun c213 => ?_)
      · have hd := m_i_t c213 hd
        refine W.widen (k := 0) (n := 0) (Nat.le_of_ble_eq_true rfl) (Nat.le_of_ble_eq_true rfl) ?_
        exact J55 u211 x2 s0 _ _ _ hd hP hS (lv_sub hl [1, 3] rfl)
      · have hd := m_i_f c213 hd
        refine lv_aload_n hx hb dX7_result_37 rfl (lv_at hl 1 rfl) ?_
        refine x_getA (own := RX7) (ref := RX7) hx hb hts hin10 hown hM.1 hZ hP 18 (by decide) (hts (.fieldLink RX7 58 "CellNotebookModel" "results" "[Z") (by decide +kernel)) (fun _ h9 => h9) dX7_result_38 ?_
        refine lv_aload_n hx hb dX7_result_41 rfl (lv_at hl 1 rfl) ?_
        refine x_getA (own := RX7) (ref := RX7) hx hb hts hin10 hown hM.1 hZ hP 8 (by decide) (hts (.fieldLink RX7 31 "CellNotebookModel" "last" "[I") (by decide +kernel)) (fun _ h9 => h9) dX7_result_42 ?_
        refine lv_iload_n hx hb dX7_result_45 rfl (lv_at hl 3 rfl) ?_
        obtain ⟨hg214, hd⟩ := m_g_e hd
        refine x_ald hx hb hM.1 hZ hP 8 (by decide) hg214 dX7_result_46 ?_
        obtain ⟨hg215, hd⟩ := m_g_e hd
        refine x_zald hx hb hM.1 hZ hP 18 (by decide) hg215 dX7_result_47 ?_
        refine lv_if_eq (tgt := 55) hx hb dX7_result_48 (by decide) (fun c216 => ?_) (fun c216 => ?_)
        · have hd := m_i_t c216 hd
          refine W.widen (k := 0) (n := 0) (Nat.le_of_ble_eq_true rfl) (Nat.le_of_ble_eq_true rfl) ?_
          exact J55 u211 x2 s0 _ _ _ hd hP hS (lv_sub hl [1, 3] rfl)
        · have hd := m_i_f c216 hd
          refine lv_iconst (v := 1) hx hb dX7_result_51 (by decide) ?_
          refine lv_goto (tgt := 56) hx hb dX7_result_52 (by decide) ?_
          refine W.widen (k := 0) (n := 0) (Nat.le_of_ble_eq_true rfl) (Nat.le_of_ble_eq_true rfl) ?_
          exact J56 u211 x2 1 s0 _ _ _ hd hP hS (lv_sub hl [1, 3] rfl)
  have J19 : ∀ (u : xS) (x1 : Int32) (x2 : Int32) (H : Heap) (locs : List Loc) (ls : Array Slot), f_X7_result_19 u x1 x2 = some (r, u') → mP G (x_ov Z u) H → va_S (fun q => G.1 ≤ q) s.heap H locs → lv_has ls 4 [(0, .ref (Z.2.1)), (1, .int (x1)), (2, .int (x2))] → W p l e ({ frames := 2, cells := 0, slots := 0, locals := 43 } : Room) s m ([.ref (Z.2.1), .int (p0), .int (p1)] : List Value).toArray below meth c H locs 0 0 (MQ below (m_Qi G r (x_ov Z u')) ([.ref (Z.2.1), .int (p0), .int (p1)] : List Value).toArray s 0 0 (fun q => G.1 ≤ q)) (F0 m 19 ls []) := by
    intro u x1 x2 H locs ls hd hP hS hl
    refine lv_iconst (v := 0) hx hb dX7_result_19 (by decide) ?_
    refine W.widen (k := 0) (n := 0) (Nat.le_of_ble_eq_true rfl) (Nat.le_of_ble_eq_true rfl) ?_
    exact J20 u x1 x2 0 _ _ _ hd hP hS (lv_sub hl [0, 1, 2] rfl)
  have hl := lv_entry ([.ref (Z.2.1), .int (p0), .int (p1)]) (n := 4) (Nat.le_of_ble_eq_true rfl)
  rw [lg_entry_eq]
  generalize (lg_sl ([.ref (Z.2.1), .int (p0), .int (p1)]) ++ List.replicate (4 - (lg_sl ([.ref (Z.2.1), .int (p0), .int (p1)])).length) Slot.unset).toArray = ls at hl ⊢
  have hl : lv_has ls 4 [(0, .ref (Z.2.1)), (1, .int (p0)), (2, .int (p1))] := hl
  refine lv_iload_n hx hb dX7_result_0 rfl (lv_at hl 1 rfl) ?_
  obtain ⟨r1, u2, hc3, hd⟩ := m_b_e hd
  refine m_calli (k := 0) (n := 0) (va_runS (As := [.int (p0)]) (rest := []) ⟨hx, hb, hml, hown, hts⟩ (c_X7_isUser l G Z hZ u u2 p0 r1 hc3) (va_cwS 1 hts gX7_result_X7_isUser rfl rfl rfl (by decide +kernel) ⟨(Nat.le_of_ble_eq_true rfl), (Nat.le_of_ble_eq_true rfl)⟩) (m_preS hM hP hS) rfl rfl hl.1 rfl (lv_room (Nat.le_of_ble_eq_true rfl)) dX7_result_1 ⟨(Nat.le_of_ble_eq_true rfl), (Nat.le_of_ble_eq_true rfl)⟩) hS ⟨(Nat.le_of_ble_eq_true rfl), (Nat.le_of_ble_eq_true rfl)⟩ (fun H locs hP hS => ?_)
  refine lv_if_eq (tgt := 19) hx hb dX7_result_4 (by decide) (fun c4 => ?_) (fun c4 => ?_)
  · have hd := m_i_t c4 hd
    refine W.widen (k := 0) (n := 0) (Nat.le_of_ble_eq_true rfl) (Nat.le_of_ble_eq_true rfl) ?_
    exact J19 u2 p0 p1 _ _ _ hd hP hS (lv_sub hl [0, 1, 2] rfl)
  · have hd := m_i_f c4 hd
    refine lv_aload_n hx hb dX7_result_7 rfl (lv_at hl 0 rfl) ?_
    refine lv_iload_n hx hb dX7_result_8 rfl (lv_at hl 2 rfl) ?_
    obtain ⟨r5, u6, hc7, hd⟩ := m_b_e hd
    refine m_calli (k := 0) (n := 0) (va_runV (As := [.int (p1)]) (rest := []) ⟨hx, hb, hml, hown, hts⟩ (c_X7_isCell l G Z hZ u2 u6 p1 r5 hc7) (cwV 1 hts gX7_result_X7_isCell rfl rfl rfl (by decide +kernel) ⟨(Nat.le_of_ble_eq_true rfl), (Nat.le_of_ble_eq_true rfl)⟩) (m_preV (C := RX7) (T := TX7) (N := 32) hM hP hS rfl (by decide) hZ.1) rfl rfl hl.1 rfl (lv_room (Nat.le_of_ble_eq_true rfl)) dX7_result_9 ⟨(Nat.le_of_ble_eq_true rfl), (Nat.le_of_ble_eq_true rfl)⟩) hS ⟨(Nat.le_of_ble_eq_true rfl), (Nat.le_of_ble_eq_true rfl)⟩ (fun H locs hP hS => ?_)
    refine lv_if_eq (tgt := 19) hx hb dX7_result_12 (by decide) (fun c8 => ?_) (fun c8 => ?_)
    · have hd := m_i_t c8 hd
      refine W.widen (k := 0) (n := 0) (Nat.le_of_ble_eq_true rfl) (Nat.le_of_ble_eq_true rfl) ?_
      exact J19 u6 p0 p1 _ _ _ hd hP hS (lv_sub hl [0, 1, 2] rfl)
    · have hd := m_i_f c8 hd
      refine lv_iconst (v := 1) hx hb dX7_result_15 (by decide) ?_
      refine lv_goto (tgt := 20) hx hb dX7_result_16 (by decide) ?_
      refine W.widen (k := 0) (n := 0) (Nat.le_of_ble_eq_true rfl) (Nat.le_of_ble_eq_true rfl) ?_
      exact J20 u6 p0 p1 1 _ _ _ hd hP hS (lv_sub hl [0, 1, 2] rfl)


noncomputable def f_X7_seen_29 (u : xS) (s0 : Int32) : Option (Int32 × xS) := some (s0, u)
noncomputable def f_X7_seen (u : xS) (p0 : Int32) : Option (Int32 × xS) := m_b (f_X7_isCell u p0) fun r1 u2 => m_b (f_X7_goes u2 r1 1 1) fun r4 u5 => if r4 = (0 : Int32) then (f_X7_seen_29 u5 0) else (m_g (¬ (p0 < 0 ∨ 16 ≤ p0.toNatClampNeg)) <| m_g (¬ ((u5.2 8 p0.toNatClampNeg) < 0 ∨ 401 ≤ (u5.2 8 p0.toNatClampNeg).toNatClampNeg)) <| f_X7_seen_29 u5 (u5.2 16 (u5.2 8 p0.toNatClampNeg).toNatClampNeg))
set_option maxHeartbeats 1000000 in
set_option maxRecDepth 100000 in
theorem c_X7_seen (l : Launch) (G : m_G) (Z : xB) (hZ : x_ok Z) (u u' : xS) (p0 : Int32) (r : Int32) (hd : f_X7_seen u p0 = some (r, u')) : Met l yX7_seen wsX7_seen ({ frames := 2, cells := 0, slots := 0, locals := 43 } : Room) (m_Pc G (x_ov Z u) [.ref (Z.2.1), .int (p0)]) (m_Qi G r (x_ov Z u')) 0 0 (fun q => G.1 ≤ q) := by
  refine Met.ofW (cc := cX7_seen) (maxL := 2) (ret := (some .int)) (by decide +kernel) rfl ?_
  intro p e s m args below meth c s₁ B hml hv
  obtain ⟨rfl, hM, hP⟩ := hv
  have hx := B.exec
  have hb := B.bytes
  have hr := B.returns
  have hts := atoms_spec (ws := wsX7_seen) B.pre
  have hown : s.vm.findClass RX7 = some m.cls := findClass_of_methodNamed B.named
  have hlocks := B.notSynchronized
  have hin10 : ∀ w ∈ u_ws RX7 TX7 32, w ∈ wsX7_seen := by decide +kernel
  have hS : va_S (fun q => G.1 ≤ q) s.heap s.heap [] := va_S.rf
  have J29 : ∀ (u : xS) (s0 : Int32) (H : Heap) (locs : List Loc) (ls : Array Slot), f_X7_seen_29 u s0 = some (r, u') → mP G (x_ov Z u) H → va_S (fun q => G.1 ≤ q) s.heap H locs → lv_has ls 2 [] → W p l e ({ frames := 2, cells := 0, slots := 0, locals := 43 } : Room) s m ([.ref (Z.2.1), .int (p0)] : List Value).toArray below meth c H locs 0 0 (MQ below (m_Qi G r (x_ov Z u')) ([.ref (Z.2.1), .int (p0)] : List Value).toArray s 0 0 (fun q => G.1 ≤ q)) (F0 m 29 ls [.int (s0)]) := by
    intro u s0 H locs ls hd hP hS hl
    obtain ⟨e1, e2⟩ := m_s_e hd
    have e2 := congrArg (x_ov Z) e2
    refine W.widen (k := 0) (n := 0) (Nat.le_of_ble_eq_true rfl) (Nat.le_of_ble_eq_true rfl) ?_
    exact W.iret hx hb hr (fun t ht hW => ⟨⟨_, (x_ov Z u), rfl, ⟨e1, e2⟩, by show mP _ _ t.heap; rw [ht]; exact hP⟩, hS.F ht⟩) hS.2.2 dX7_seen_29
  have hl := lv_entry ([.ref (Z.2.1), .int (p0)]) (n := 2) (Nat.le_of_ble_eq_true rfl)
  rw [lg_entry_eq]
  generalize (lg_sl ([.ref (Z.2.1), .int (p0)]) ++ List.replicate (2 - (lg_sl ([.ref (Z.2.1), .int (p0)])).length) Slot.unset).toArray = ls at hl ⊢
  have hl : lv_has ls 2 [(0, .ref (Z.2.1)), (1, .int (p0))] := hl
  refine lv_aload_n hx hb dX7_seen_0 rfl (lv_at hl 0 rfl) ?_
  refine lv_aload_n hx hb dX7_seen_1 rfl (lv_at hl 0 rfl) ?_
  refine lv_iload_n hx hb dX7_seen_2 rfl (lv_at hl 1 rfl) ?_
  obtain ⟨r1, u2, hc3, hd⟩ := m_b_e hd
  refine m_calli (k := 0) (n := 0) (va_runV (As := [.int (p0)]) (rest := [.ref (Z.2.1)]) ⟨hx, hb, hml, hown, hts⟩ (c_X7_isCell l G Z hZ u u2 p0 r1 hc3) (cwV 1 hts gX7_seen_X7_isCell rfl rfl rfl (by decide +kernel) ⟨(Nat.le_of_ble_eq_true rfl), (Nat.le_of_ble_eq_true rfl)⟩) (m_preV (C := RX7) (T := TX7) (N := 32) hM hP hS rfl (by decide) hZ.1) rfl rfl hl.1 rfl (lv_room (Nat.le_of_ble_eq_true rfl)) dX7_seen_3 ⟨(Nat.le_of_ble_eq_true rfl), (Nat.le_of_ble_eq_true rfl)⟩) hS ⟨(Nat.le_of_ble_eq_true rfl), (Nat.le_of_ble_eq_true rfl)⟩ (fun H locs hP hS => ?_)
  refine lv_iconst (v := 1) hx hb dX7_seen_6 (by decide) ?_
  refine lv_iconst (v := 1) hx hb dX7_seen_7 (by decide) ?_
  obtain ⟨r4, u5, hc6, hd⟩ := m_b_e hd
  refine m_calli (k := 0) (n := 0) (va_runV (As := [.int (r1), .int (1), .int (1)]) (rest := []) ⟨hx, hb, hml, hown, hts⟩ (c_X7_goes l G Z hZ u2 u5 r1 1 1 r4 hc6) (cwV 3 hts gX7_seen_X7_goes rfl rfl rfl (by decide +kernel) ⟨(Nat.le_of_ble_eq_true rfl), (Nat.le_of_ble_eq_true rfl)⟩) (m_preV (C := RX7) (T := TX7) (N := 32) hM hP hS rfl (by decide) hZ.1) rfl rfl hl.1 rfl (lv_room (Nat.le_of_ble_eq_true rfl)) dX7_seen_8 ⟨(Nat.le_of_ble_eq_true rfl), (Nat.le_of_ble_eq_true rfl)⟩) hS ⟨(Nat.le_of_ble_eq_true rfl), (Nat.le_of_ble_eq_true rfl)⟩ (fun H locs hP hS => ?_)
  refine lv_if_eq (tgt := 28) hx hb dX7_seen_11 (by decide) (fun c7 => ?_) (fun c7 => ?_)
  · have hd := m_i_t c7 hd
    refine lv_iconst (v := 0) hx hb dX7_seen_28 (by decide) ?_
    refine W.widen (k := 0) (n := 0) (Nat.le_of_ble_eq_true rfl) (Nat.le_of_ble_eq_true rfl) ?_
    exact J29 u5 0 _ _ _ hd hP hS (lv_sub hl [] rfl)
  · have hd := m_i_f c7 hd
    refine lv_aload_n hx hb dX7_seen_14 rfl (lv_at hl 0 rfl) ?_
    refine x_getA (own := RX7) (ref := RX7) hx hb hts hin10 hown hM.1 hZ hP 16 (by decide) (hts (.fieldLink RX7 52 "CellNotebookModel" "seen" "[I") (by decide +kernel)) (fun _ h9 => h9) dX7_seen_15 ?_
    refine lv_aload_n hx hb dX7_seen_18 rfl (lv_at hl 0 rfl) ?_
    refine x_getA (own := RX7) (ref := RX7) hx hb hts hin10 hown hM.1 hZ hP 8 (by decide) (hts (.fieldLink RX7 31 "CellNotebookModel" "last" "[I") (by decide +kernel)) (fun _ h9 => h9) dX7_seen_19 ?_
    refine lv_iload_n hx hb dX7_seen_22 rfl (lv_at hl 1 rfl) ?_
    obtain ⟨hg8, hd⟩ := m_g_e hd
    refine x_ald hx hb hM.1 hZ hP 8 (by decide) hg8 dX7_seen_23 ?_
    obtain ⟨hg9, hd⟩ := m_g_e hd
    refine x_ald hx hb hM.1 hZ hP 16 (by decide) hg9 dX7_seen_24 ?_
    refine lv_goto (tgt := 29) hx hb dX7_seen_25 (by decide) ?_
    refine W.widen (k := 0) (n := 0) (Nat.le_of_ble_eq_true rfl) (Nat.le_of_ble_eq_true rfl) ?_
    exact J29 u5 (u5.2 16 (u5.2 8 p0.toNatClampNeg).toNatClampNeg) _ _ _ hd hP hS (lv_sub hl [] rfl)


noncomputable def f_X7_timesSeen_23 (u : xS) (s0 : Int32) : Option (Int32 × xS) := some (s0, u)
noncomputable def f_X7_timesSeen (u : xS) (p0 : Int32) : Option (Int32 × xS) := m_b (f_X7_isName u p0) fun r1 u2 => m_b (f_X7_goes u2 r1 1 1) fun r4 u5 => if r4 = (0 : Int32) then (f_X7_timesSeen_23 u5 0) else (m_g (¬ (p0 < 0 ∨ 8 ≤ p0.toNatClampNeg)) <| f_X7_timesSeen_23 u5 (u5.2 12 p0.toNatClampNeg))
set_option maxHeartbeats 1000000 in
set_option maxRecDepth 100000 in
theorem c_X7_timesSeen (l : Launch) (G : m_G) (Z : xB) (hZ : x_ok Z) (u u' : xS) (p0 : Int32) (r : Int32) (hd : f_X7_timesSeen u p0 = some (r, u')) : Met l yX7_timesSeen wsX7_timesSeen ({ frames := 2, cells := 0, slots := 0, locals := 42 } : Room) (m_Pc G (x_ov Z u) [.ref (Z.2.1), .int (p0)]) (m_Qi G r (x_ov Z u')) 0 0 (fun q => G.1 ≤ q) := by
  refine Met.ofW (cc := cX7_timesSeen) (maxL := 2) (ret := (some .int)) (by decide +kernel) rfl ?_
  intro p e s m args below meth c s₁ B hml hv
  obtain ⟨rfl, hM, hP⟩ := hv
  have hx := B.exec
  have hb := B.bytes
  have hr := B.returns
  have hts := atoms_spec (ws := wsX7_timesSeen) B.pre
  have hown : s.vm.findClass RX7 = some m.cls := findClass_of_methodNamed B.named
  have hlocks := B.notSynchronized
  have hin10 : ∀ w ∈ u_ws RX7 TX7 32, w ∈ wsX7_timesSeen := by decide +kernel
  have hS : va_S (fun q => G.1 ≤ q) s.heap s.heap [] := va_S.rf
  have J23 : ∀ (u : xS) (s0 : Int32) (H : Heap) (locs : List Loc) (ls : Array Slot), f_X7_timesSeen_23 u s0 = some (r, u') → mP G (x_ov Z u) H → va_S (fun q => G.1 ≤ q) s.heap H locs → lv_has ls 2 [] → W p l e ({ frames := 2, cells := 0, slots := 0, locals := 42 } : Room) s m ([.ref (Z.2.1), .int (p0)] : List Value).toArray below meth c H locs 0 0 (MQ below (m_Qi G r (x_ov Z u')) ([.ref (Z.2.1), .int (p0)] : List Value).toArray s 0 0 (fun q => G.1 ≤ q)) (F0 m 23 ls [.int (s0)]) := by
    intro u s0 H locs ls hd hP hS hl
    obtain ⟨e1, e2⟩ := m_s_e hd
    have e2 := congrArg (x_ov Z) e2
    refine W.widen (k := 0) (n := 0) (Nat.le_of_ble_eq_true rfl) (Nat.le_of_ble_eq_true rfl) ?_
    exact W.iret hx hb hr (fun t ht hW => ⟨⟨_, (x_ov Z u), rfl, ⟨e1, e2⟩, by show mP _ _ t.heap; rw [ht]; exact hP⟩, hS.F ht⟩) hS.2.2 dX7_timesSeen_23
  have hl := lv_entry ([.ref (Z.2.1), .int (p0)]) (n := 2) (Nat.le_of_ble_eq_true rfl)
  rw [lg_entry_eq]
  generalize (lg_sl ([.ref (Z.2.1), .int (p0)]) ++ List.replicate (2 - (lg_sl ([.ref (Z.2.1), .int (p0)])).length) Slot.unset).toArray = ls at hl ⊢
  have hl : lv_has ls 2 [(0, .ref (Z.2.1)), (1, .int (p0))] := hl
  refine lv_aload_n hx hb dX7_timesSeen_0 rfl (lv_at hl 0 rfl) ?_
  refine lv_iload_n hx hb dX7_timesSeen_1 rfl (lv_at hl 1 rfl) ?_
  obtain ⟨r1, u2, hc3, hd⟩ := m_b_e hd
  refine m_calli (k := 0) (n := 0) (va_runS (As := [.int (p0)]) (rest := [.ref (Z.2.1)]) ⟨hx, hb, hml, hown, hts⟩ (c_X7_isName l G Z hZ u u2 p0 r1 hc3) (va_cwS 1 hts gX7_timesSeen_X7_isName rfl rfl rfl (by decide +kernel) ⟨(Nat.le_of_ble_eq_true rfl), (Nat.le_of_ble_eq_true rfl)⟩) (m_preS hM hP hS) rfl rfl hl.1 rfl (lv_room (Nat.le_of_ble_eq_true rfl)) dX7_timesSeen_2 ⟨(Nat.le_of_ble_eq_true rfl), (Nat.le_of_ble_eq_true rfl)⟩) hS ⟨(Nat.le_of_ble_eq_true rfl), (Nat.le_of_ble_eq_true rfl)⟩ (fun H locs hP hS => ?_)
  refine lv_iconst (v := 1) hx hb dX7_timesSeen_5 (by decide) ?_
  refine lv_iconst (v := 1) hx hb dX7_timesSeen_6 (by decide) ?_
  obtain ⟨r4, u5, hc6, hd⟩ := m_b_e hd
  refine m_calli (k := 0) (n := 0) (va_runV (As := [.int (r1), .int (1), .int (1)]) (rest := []) ⟨hx, hb, hml, hown, hts⟩ (c_X7_goes l G Z hZ u2 u5 r1 1 1 r4 hc6) (cwV 3 hts gX7_timesSeen_X7_goes rfl rfl rfl (by decide +kernel) ⟨(Nat.le_of_ble_eq_true rfl), (Nat.le_of_ble_eq_true rfl)⟩) (m_preV (C := RX7) (T := TX7) (N := 32) hM hP hS rfl (by decide) hZ.1) rfl rfl hl.1 rfl (lv_room (Nat.le_of_ble_eq_true rfl)) dX7_timesSeen_7 ⟨(Nat.le_of_ble_eq_true rfl), (Nat.le_of_ble_eq_true rfl)⟩) hS ⟨(Nat.le_of_ble_eq_true rfl), (Nat.le_of_ble_eq_true rfl)⟩ (fun H locs hP hS => ?_)
  refine lv_if_eq (tgt := 22) hx hb dX7_timesSeen_10 (by decide) (fun c7 => ?_) (fun c7 => ?_)
  · have hd := m_i_t c7 hd
    refine lv_iconst (v := 0) hx hb dX7_timesSeen_22 (by decide) ?_
    refine W.widen (k := 0) (n := 0) (Nat.le_of_ble_eq_true rfl) (Nat.le_of_ble_eq_true rfl) ?_
    exact J23 u5 0 _ _ _ hd hP hS (lv_sub hl [] rfl)
  · have hd := m_i_f c7 hd
    refine lv_aload_n hx hb dX7_timesSeen_13 rfl (lv_at hl 0 rfl) ?_
    refine x_getA (own := RX7) (ref := RX7) hx hb hts hin10 hown hM.1 hZ hP 12 (by decide) (hts (.fieldLink RX7 43 "CellNotebookModel" "times" "[I") (by decide +kernel)) (fun _ h9 => h9) dX7_timesSeen_14 ?_
    refine lv_iload_n hx hb dX7_timesSeen_17 rfl (lv_at hl 1 rfl) ?_
    obtain ⟨hg8, hd⟩ := m_g_e hd
    refine x_ald hx hb hM.1 hZ hP 12 (by decide) hg8 dX7_timesSeen_18 ?_
    refine lv_goto (tgt := 23) hx hb dX7_timesSeen_19 (by decide) ?_
    refine W.widen (k := 0) (n := 0) (Nat.le_of_ble_eq_true rfl) (Nat.le_of_ble_eq_true rfl) ?_
    exact J23 u5 (u5.2 12 p0.toNatClampNeg) _ _ _ hd hP hS (lv_sub hl [] rfl)


noncomputable def f_X7_why_28 (u : xS) (s0 : Int32) : Option (Int32 × xS) := some (s0, u)
noncomputable def f_X7_why (u : xS) (p0 : Int32) : Option (Int32 × xS) := m_b (f_X7_reasons u) fun r1 u2 => m_b (f_X7_isCell u2 p0) fun r4 u5 => m_b (f_X7_goes u5 r4 1 1) fun r7 u8 => if r7 = (0 : Int32) then (f_X7_why_28 u8 0) else (m_g (¬ (p0 < 0 ∨ 16 ≤ p0.toNatClampNeg)) <| f_X7_why_28 u8 (u8.2 30 p0.toNatClampNeg))
set_option maxHeartbeats 1000000 in
set_option maxRecDepth 100000 in
theorem c_X7_why (l : Launch) (G : m_G) (Z : xB) (hZ : x_ok Z) (u u' : xS) (p0 : Int32) (r : Int32) (hd : f_X7_why u p0 = some (r, u')) : Met l yX7_why wsX7_why ({ frames := 3, cells := 0, slots := 0, locals := 68 } : Room) (m_Pc G (x_ov Z u) [.ref (Z.2.1), .int (p0)]) (m_Qi G r (x_ov Z u')) 0 0 (fun q => G.1 ≤ q) := by
  refine Met.ofW (cc := cX7_why) (maxL := 2) (ret := (some .int)) (by decide +kernel) rfl ?_
  intro p e s m args below meth c s₁ B hml hv
  obtain ⟨rfl, hM, hP⟩ := hv
  have hx := B.exec
  have hb := B.bytes
  have hr := B.returns
  have hts := atoms_spec (ws := wsX7_why) B.pre
  have hown : s.vm.findClass RX7 = some m.cls := findClass_of_methodNamed B.named
  have hlocks := B.notSynchronized
  have hin10 : ∀ w ∈ u_ws RX7 TX7 32, w ∈ wsX7_why := by decide +kernel
  have hS : va_S (fun q => G.1 ≤ q) s.heap s.heap [] := va_S.rf
  have J28 : ∀ (u : xS) (s0 : Int32) (H : Heap) (locs : List Loc) (ls : Array Slot), f_X7_why_28 u s0 = some (r, u') → mP G (x_ov Z u) H → va_S (fun q => G.1 ≤ q) s.heap H locs → lv_has ls 2 [] → W p l e ({ frames := 3, cells := 0, slots := 0, locals := 68 } : Room) s m ([.ref (Z.2.1), .int (p0)] : List Value).toArray below meth c H locs 0 0 (MQ below (m_Qi G r (x_ov Z u')) ([.ref (Z.2.1), .int (p0)] : List Value).toArray s 0 0 (fun q => G.1 ≤ q)) (F0 m 28 ls [.int (s0)]) := by
    intro u s0 H locs ls hd hP hS hl
    obtain ⟨e1, e2⟩ := m_s_e hd
    have e2 := congrArg (x_ov Z) e2
    refine W.widen (k := 0) (n := 0) (Nat.le_of_ble_eq_true rfl) (Nat.le_of_ble_eq_true rfl) ?_
    exact W.iret hx hb hr (fun t ht hW => ⟨⟨_, (x_ov Z u), rfl, ⟨e1, e2⟩, by show mP _ _ t.heap; rw [ht]; exact hP⟩, hS.F ht⟩) hS.2.2 dX7_why_28
  have hl := lv_entry ([.ref (Z.2.1), .int (p0)]) (n := 2) (Nat.le_of_ble_eq_true rfl)
  rw [lg_entry_eq]
  generalize (lg_sl ([.ref (Z.2.1), .int (p0)]) ++ List.replicate (2 - (lg_sl ([.ref (Z.2.1), .int (p0)])).length) Slot.unset).toArray = ls at hl ⊢
  have hl : lv_has ls 2 [(0, .ref (Z.2.1)), (1, .int (p0))] := hl
  refine lv_aload_n hx hb dX7_why_0 rfl (lv_at hl 0 rfl) ?_
  obtain ⟨r1, u2, hc3, hd⟩ := m_b_e hd
  refine m_callv (k := 0) (n := 0) (va_runV (As := []) (rest := []) ⟨hx, hb, hml, hown, hts⟩ (c_X7_reasons l G Z hZ u u2  r1 hc3) (cwV 0 hts gX7_why_X7_reasons rfl rfl rfl (by decide +kernel) ⟨(Nat.le_of_ble_eq_true rfl), (Nat.le_of_ble_eq_true rfl)⟩) (m_preV (C := RX7) (T := TX7) (N := 32) hM hP hS rfl (by decide) hZ.1) rfl rfl hl.1 rfl (lv_room (Nat.le_of_ble_eq_true rfl)) dX7_why_1 ⟨(Nat.le_of_ble_eq_true rfl), (Nat.le_of_ble_eq_true rfl)⟩) hS ⟨(Nat.le_of_ble_eq_true rfl), (Nat.le_of_ble_eq_true rfl)⟩ (fun H locs hP hS => ?_)
  refine lv_aload_n hx hb dX7_why_4 rfl (lv_at hl 0 rfl) ?_
  refine lv_aload_n hx hb dX7_why_5 rfl (lv_at hl 0 rfl) ?_
  refine lv_iload_n hx hb dX7_why_6 rfl (lv_at hl 1 rfl) ?_
  obtain ⟨r4, u5, hc6, hd⟩ := m_b_e hd
  refine m_calli (k := 0) (n := 0) (va_runV (As := [.int (p0)]) (rest := [.ref (Z.2.1)]) ⟨hx, hb, hml, hown, hts⟩ (c_X7_isCell l G Z hZ u2 u5 p0 r4 hc6) (cwV 1 hts gX7_why_X7_isCell rfl rfl rfl (by decide +kernel) ⟨(Nat.le_of_ble_eq_true rfl), (Nat.le_of_ble_eq_true rfl)⟩) (m_preV (C := RX7) (T := TX7) (N := 32) hM hP hS rfl (by decide) hZ.1) rfl rfl hl.1 rfl (lv_room (Nat.le_of_ble_eq_true rfl)) dX7_why_7 ⟨(Nat.le_of_ble_eq_true rfl), (Nat.le_of_ble_eq_true rfl)⟩) hS ⟨(Nat.le_of_ble_eq_true rfl), (Nat.le_of_ble_eq_true rfl)⟩ (fun H locs hP hS => ?_)
  refine lv_iconst (v := 1) hx hb dX7_why_10 (by decide) ?_
  refine lv_iconst (v := 1) hx hb dX7_why_11 (by decide) ?_
  obtain ⟨r7, u8, hc9, hd⟩ := m_b_e hd
  refine m_calli (k := 0) (n := 0) (va_runV (As := [.int (r4), .int (1), .int (1)]) (rest := []) ⟨hx, hb, hml, hown, hts⟩ (c_X7_goes l G Z hZ u5 u8 r4 1 1 r7 hc9) (cwV 3 hts gX7_why_X7_goes rfl rfl rfl (by decide +kernel) ⟨(Nat.le_of_ble_eq_true rfl), (Nat.le_of_ble_eq_true rfl)⟩) (m_preV (C := RX7) (T := TX7) (N := 32) hM hP hS rfl (by decide) hZ.1) rfl rfl hl.1 rfl (lv_room (Nat.le_of_ble_eq_true rfl)) dX7_why_12 ⟨(Nat.le_of_ble_eq_true rfl), (Nat.le_of_ble_eq_true rfl)⟩) hS ⟨(Nat.le_of_ble_eq_true rfl), (Nat.le_of_ble_eq_true rfl)⟩ (fun H locs hP hS => ?_)
  refine lv_if_eq (tgt := 27) hx hb dX7_why_15 (by decide) (fun c10 => ?_) (fun c10 => ?_)
  · have hd := m_i_t c10 hd
    refine lv_iconst (v := 0) hx hb dX7_why_27 (by decide) ?_
    refine W.widen (k := 0) (n := 0) (Nat.le_of_ble_eq_true rfl) (Nat.le_of_ble_eq_true rfl) ?_
    exact J28 u8 0 _ _ _ hd hP hS (lv_sub hl [] rfl)
  · have hd := m_i_f c10 hd
    refine lv_aload_n hx hb dX7_why_18 rfl (lv_at hl 0 rfl) ?_
    refine x_getA (own := RX7) (ref := RX7) hx hb hts hin10 hown hM.1 hZ hP 30 (by decide) (hts (.fieldLink RX7 80 "CellNotebookModel" "reason" "[I") (by decide +kernel)) (fun _ h9 => h9) dX7_why_19 ?_
    refine lv_iload_n hx hb dX7_why_22 rfl (lv_at hl 1 rfl) ?_
    obtain ⟨hg11, hd⟩ := m_g_e hd
    refine x_ald hx hb hM.1 hZ hP 30 (by decide) hg11 dX7_why_23 ?_
    refine lv_goto (tgt := 28) hx hb dX7_why_24 (by decide) ?_
    refine W.widen (k := 0) (n := 0) (Nat.le_of_ble_eq_true rfl) (Nat.le_of_ble_eq_true rfl) ?_
    exact J28 u8 (u8.2 30 p0.toNatClampNeg) _ _ _ hd hP hS (lv_sub hl [] rfl)


noncomputable def f_X7_staleOnes_33 (k8 : xS → Int32 → Int32 → Option (Int32 × xS)) (u : xS) (x2 : Int32) (s0 : Int32) (s1 : Int32) : Option (Int32 × xS) := k8 u (s1 ||| s0) (x2 + 1)
noncomputable def f_X7_staleOnes_8_b (k8 : xS → Int32 → Int32 → Option (Int32 × xS)) (u : xS) (x1 : Int32) (x2 : Int32) : Option (Int32 × xS) := if (u.1 0) ≤ x2 then (some (x1, u)) else (m_g (¬ (x2 < 0 ∨ 16 ≤ x2.toNatClampNeg)) <| if (u.2 30 x2.toNatClampNeg) ≤ (0 : Int32) then (f_X7_staleOnes_33 k8 u x2 0 x1) else (f_X7_staleOnes_33 k8 u x2 (1 <<< (x2 &&& 31)) x1))
noncomputable def f_X7_staleOnes_8 (n : Nat) : xS → Int32 → Int32 → Option (Int32 × xS) := Nat.rec (motive := fun _ => xS → Int32 → Int32 → Option (Int32 × xS)) (fun _ _ _ => none) (fun _ k => f_X7_staleOnes_8_b  k) n
noncomputable def f_X7_staleOnes (u : xS)  : Option (Int32 × xS) := m_b (f_X7_reasons u) fun r1 u2 => f_X7_staleOnes_8 m_N u2 0 0
set_option maxHeartbeats 1000000 in
set_option maxRecDepth 100000 in
theorem c_X7_staleOnes (l : Launch) (G : m_G) (Z : xB) (hZ : x_ok Z) (u u' : xS)  (r : Int32) (hd : f_X7_staleOnes u = some (r, u')) : Met l yX7_staleOnes wsX7_staleOnes ({ frames := 3, cells := 0, slots := 0, locals := 68 } : Room) (m_Pc G (x_ov Z u) [.ref (Z.2.1)]) (m_Qi G r (x_ov Z u')) 0 0 (fun q => G.1 ≤ q) := by
  refine Met.ofW (cc := cX7_staleOnes) (maxL := 3) (ret := (some .int)) (by decide +kernel) rfl ?_
  intro p e s m args below meth c s₁ B hml hv
  obtain ⟨rfl, hM, hP⟩ := hv
  have hx := B.exec
  have hb := B.bytes
  have hr := B.returns
  have hts := atoms_spec (ws := wsX7_staleOnes) B.pre
  have hown : s.vm.findClass RX7 = some m.cls := findClass_of_methodNamed B.named
  have hlocks := B.notSynchronized
  have hin10 : ∀ w ∈ u_ws RX7 TX7 32, w ∈ wsX7_staleOnes := by decide +kernel
  have hS : va_S (fun q => G.1 ≤ q) s.heap s.heap [] := va_S.rf
  have J8 : ∀ (n8 : Nat) (u : xS) (x1 : Int32) (x2 : Int32) (H : Heap) (locs : List Loc) (ls : Array Slot), f_X7_staleOnes_8 n8 u x1 x2 = some (r, u') → mP G (x_ov Z u) H → va_S (fun q => G.1 ≤ q) s.heap H locs → lv_has ls 3 [(0, .ref (Z.2.1)), (1, .int (x1)), (2, .int (x2))] → W p l e ({ frames := 3, cells := 0, slots := 0, locals := 68 } : Room) s m ([.ref (Z.2.1)] : List Value).toArray below meth c H locs 0 0 (MQ below (m_Qi G r (x_ov Z u')) ([.ref (Z.2.1)] : List Value).toArray s 0 0 (fun q => G.1 ≤ q)) (F0 m 8 ls []) := by
    intro n8
    induction n8 with
    | zero => intro u x1 x2 H locs ls hd; exact absurd (show (none : Option (Int32 × xS)) = some _ from hd) (fun h => nomatch h)
    | succ n8 ih8 =>
      have J33 : ∀ (u : xS) (x2 : Int32) (s0 : Int32) (s1 : Int32) (H : Heap) (locs : List Loc) (ls : Array Slot), f_X7_staleOnes_33 (f_X7_staleOnes_8 n8) u x2 s0 s1 = some (r, u') → mP G (x_ov Z u) H → va_S (fun q => G.1 ≤ q) s.heap H locs → lv_has ls 3 [(0, .ref (Z.2.1)), (2, .int (x2))] → W p l e ({ frames := 3, cells := 0, slots := 0, locals := 68 } : Room) s m ([.ref (Z.2.1)] : List Value).toArray below meth c H locs 0 0 (MQ below (m_Qi G r (x_ov Z u')) ([.ref (Z.2.1)] : List Value).toArray s 0 0 (fun q => G.1 ≤ q)) (F0 m 33 ls [.int (s0), .int (s1)]) := by
        intro u x2 s0 s1 H locs ls hd hP hS hl
        refine lv_ior hx hb dX7_staleOnes_33 ?_
        refine lv_istore_n (lv' := [(1, .int (s1 ||| s0)), (0, .ref (Z.2.1)), (2, .int (x2))]) hx hb dX7_staleOnes_34 rfl hl (by decide) rfl (fun ls hl => ?_)
        refine lv_iinc (v := x2 + 1) (lv' := [(2, .int (x2 + 1)), (1, .int (s1 ||| s0)), (0, .ref (Z.2.1))]) hx hb dX7_staleOnes_35 hl (k := 2) rfl rfl (by decide) rfl (fun ls hl => ?_)
        refine lv_goto (tgt := 8) hx hb dX7_staleOnes_38 (by decide) ?_
        refine W.widen (k := 0) (n := 0) (Nat.le_of_ble_eq_true rfl) (Nat.le_of_ble_eq_true rfl) ?_
        exact ih8 u (s1 ||| s0) (x2 + 1) _ _ _ hd hP hS (lv_sub hl [2, 1, 0] rfl)
      intro u x1 x2 H locs ls hd hP hS hl
      have hd : f_X7_staleOnes_8_b (f_X7_staleOnes_8 n8) u x1 x2 = some (r, u') := hd
      refine lv_iload_n hx hb dX7_staleOnes_8 rfl (lv_at hl 2 rfl) ?_
      refine lv_aload_n hx hb dX7_staleOnes_9 rfl (lv_at hl 0 rfl) ?_
      refine x_getI (own := RX7) (ref := RX7) hx hb hts hin10 hown hM.1 hZ hP 0 (by decide) (hts (.fieldLink RX7 87 "CellNotebookModel" "cells" "I") (by decide +kernel)) (fun _ h9 => h9) dX7_staleOnes_10 ?_
      refine lv_icmp_ge (tgt := 41) hx hb dX7_staleOnes_13 (by decide) (fun c104 => ?_) (fun c104 => ?_)
      · have hd := m_i_t c104 hd
        refine lv_iload_n hx hb dX7_staleOnes_41 rfl (lv_at hl 1 rfl) ?_
        obtain ⟨e1, e2⟩ := m_s_e hd
        have e2 := congrArg (x_ov Z) e2
        refine W.widen (k := 0) (n := 0) (Nat.le_of_ble_eq_true rfl) (Nat.le_of_ble_eq_true rfl) ?_
        exact W.iret hx hb hr (fun t ht hW => ⟨⟨_, (x_ov Z u), rfl, ⟨e1, e2⟩, by show mP _ _ t.heap; rw [ht]; exact hP⟩, hS.F ht⟩) hS.2.2 dX7_staleOnes_42
      · have hd := m_i_f c104 hd
        refine lv_iload_n hx hb dX7_staleOnes_16 rfl (lv_at hl 1 rfl) ?_
        refine lv_aload_n hx hb dX7_staleOnes_17 rfl (lv_at hl 0 rfl) ?_
        refine x_getA (own := RX7) (ref := RX7) hx hb hts hin10 hown hM.1 hZ hP 30 (by decide) (hts (.fieldLink RX7 80 "CellNotebookModel" "reason" "[I") (by decide +kernel)) (fun _ h9 => h9) dX7_staleOnes_18 ?_
        refine lv_iload_n hx hb dX7_staleOnes_21 rfl (lv_at hl 2 rfl) ?_
        obtain ⟨hg105, hd⟩ := m_g_e hd
        refine x_ald hx hb hM.1 hZ hP 30 (by decide) hg105 dX7_staleOnes_22 ?_
        refine lv_if_le (tgt := 32) hx hb dX7_staleOnes_23 (by decide) (fun c106 => ?_) (fun c106 => ?_)
        · have hd := m_i_t c106 hd
          refine lv_iconst (v := 0) hx hb dX7_staleOnes_32 (by decide) ?_
          refine W.widen (k := 0) (n := 0) (Nat.le_of_ble_eq_true rfl) (Nat.le_of_ble_eq_true rfl) ?_
          exact J33 u x2 0 x1 _ _ _ hd hP hS (lv_sub hl [0, 2] rfl)
        · have hd := m_i_f c106 hd
          refine lv_iconst (v := 1) hx hb dX7_staleOnes_26 (by decide) ?_
          refine lv_iload_n hx hb dX7_staleOnes_27 rfl (lv_at hl 2 rfl) ?_
          refine lv_ishl hx hb dX7_staleOnes_28 ?_
          refine lv_goto (tgt := 33) hx hb dX7_staleOnes_29 (by decide) ?_
          refine W.widen (k := 0) (n := 0) (Nat.le_of_ble_eq_true rfl) (Nat.le_of_ble_eq_true rfl) ?_
          exact J33 u x2 (1 <<< (x2 &&& 31)) x1 _ _ _ hd hP hS (lv_sub hl [0, 2] rfl)
  have hl := lv_entry ([.ref (Z.2.1)]) (n := 3) (Nat.le_of_ble_eq_true rfl)
  rw [lg_entry_eq]
  generalize (lg_sl ([.ref (Z.2.1)]) ++ List.replicate (3 - (lg_sl ([.ref (Z.2.1)])).length) Slot.unset).toArray = ls at hl ⊢
  have hl : lv_has ls 3 [(0, .ref (Z.2.1))] := hl
  refine lv_aload_n hx hb dX7_staleOnes_0 rfl (lv_at hl 0 rfl) ?_
  obtain ⟨r1, u2, hc3, hd⟩ := m_b_e hd
  refine m_callv (k := 0) (n := 0) (va_runV (As := []) (rest := []) ⟨hx, hb, hml, hown, hts⟩ (c_X7_reasons l G Z hZ u u2  r1 hc3) (cwV 0 hts gX7_staleOnes_X7_reasons rfl rfl rfl (by decide +kernel) ⟨(Nat.le_of_ble_eq_true rfl), (Nat.le_of_ble_eq_true rfl)⟩) (m_preV (C := RX7) (T := TX7) (N := 32) hM hP hS rfl (by decide) hZ.1) rfl rfl hl.1 rfl (lv_room (Nat.le_of_ble_eq_true rfl)) dX7_staleOnes_1 ⟨(Nat.le_of_ble_eq_true rfl), (Nat.le_of_ble_eq_true rfl)⟩) hS ⟨(Nat.le_of_ble_eq_true rfl), (Nat.le_of_ble_eq_true rfl)⟩ (fun H locs hP hS => ?_)
  refine lv_iconst (v := 0) hx hb dX7_staleOnes_4 (by decide) ?_
  refine lv_istore_n (lv' := [(1, .int (0)), (0, .ref (Z.2.1))]) hx hb dX7_staleOnes_5 rfl hl (by decide) rfl (fun ls hl => ?_)
  refine lv_iconst (v := 0) hx hb dX7_staleOnes_6 (by decide) ?_
  refine lv_istore_n (lv' := [(2, .int (0)), (1, .int (0)), (0, .ref (Z.2.1))]) hx hb dX7_staleOnes_7 rfl hl (by decide) rfl (fun ls hl => ?_)
  refine W.widen (k := 0) (n := 0) (Nat.le_of_ble_eq_true rfl) (Nat.le_of_ble_eq_true rfl) ?_
  exact J8 m_N u2 0 0 _ _ _ hd hP hS (lv_sub hl [2, 1, 0] rfl)


noncomputable def f_X7_stale (u : xS)  : Option (Int32 × xS) := m_b (f_X7_staleOnes u) fun r1 u2 => m_b (f_X7_told u2 r1) fun r4 u5 => some (r4, u5)
set_option maxHeartbeats 1000000 in
set_option maxRecDepth 100000 in
theorem c_X7_stale (l : Launch) (G : m_G) (Z : xB) (hZ : x_ok Z) (u u' : xS)  (r : Int32) (hd : f_X7_stale u = some (r, u')) : Met l yX7_stale wsX7_stale ({ frames := 4, cells := 0, slots := 0, locals := 90 } : Room) (m_Pc G (x_ov Z u) [.ref (Z.2.1)]) (m_Qi G r (x_ov Z u')) 0 0 (fun q => G.1 ≤ q) := by
  refine Met.ofW (cc := cX7_stale) (maxL := 1) (ret := (some .int)) (by decide +kernel) rfl ?_
  intro p e s m args below meth c s₁ B hml hv
  obtain ⟨rfl, hM, hP⟩ := hv
  have hx := B.exec
  have hb := B.bytes
  have hr := B.returns
  have hts := atoms_spec (ws := wsX7_stale) B.pre
  have hown : s.vm.findClass RX7 = some m.cls := findClass_of_methodNamed B.named
  have hlocks := B.notSynchronized
  have hS : va_S (fun q => G.1 ≤ q) s.heap s.heap [] := va_S.rf
  have hl := lv_entry ([.ref (Z.2.1)]) (n := 1) (Nat.le_of_ble_eq_true rfl)
  rw [lg_entry_eq]
  generalize (lg_sl ([.ref (Z.2.1)]) ++ List.replicate (1 - (lg_sl ([.ref (Z.2.1)])).length) Slot.unset).toArray = ls at hl ⊢
  have hl : lv_has ls 1 [(0, .ref (Z.2.1))] := hl
  refine lv_aload_n hx hb dX7_stale_0 rfl (lv_at hl 0 rfl) ?_
  refine lv_aload_n hx hb dX7_stale_1 rfl (lv_at hl 0 rfl) ?_
  obtain ⟨r1, u2, hc3, hd⟩ := m_b_e hd
  refine m_calli (k := 0) (n := 0) (va_runV (As := []) (rest := [.ref (Z.2.1)]) ⟨hx, hb, hml, hown, hts⟩ (c_X7_staleOnes l G Z hZ u u2  r1 hc3) (cwV 0 hts gX7_stale_X7_staleOnes rfl rfl rfl (by decide +kernel) ⟨(Nat.le_of_ble_eq_true rfl), (Nat.le_of_ble_eq_true rfl)⟩) (m_preV (C := RX7) (T := TX7) (N := 32) hM hP hS rfl (by decide) hZ.1) rfl rfl hl.1 rfl (lv_room (Nat.le_of_ble_eq_true rfl)) dX7_stale_2 ⟨(Nat.le_of_ble_eq_true rfl), (Nat.le_of_ble_eq_true rfl)⟩) hS ⟨(Nat.le_of_ble_eq_true rfl), (Nat.le_of_ble_eq_true rfl)⟩ (fun H locs hP hS => ?_)
  obtain ⟨r4, u5, hc6, hd⟩ := m_b_e hd
  refine m_calli (k := 0) (n := 0) (va_runV (As := [.int (r1)]) (rest := []) ⟨hx, hb, hml, hown, hts⟩ (c_X7_told l G Z hZ u2 u5 r1 r4 hc6) (cwV 1 hts gX7_stale_X7_told rfl rfl rfl (by decide +kernel) ⟨(Nat.le_of_ble_eq_true rfl), (Nat.le_of_ble_eq_true rfl)⟩) (m_preV (C := RX7) (T := TX7) (N := 32) hM hP hS rfl (by decide) hZ.1) rfl rfl hl.1 rfl (lv_room (Nat.le_of_ble_eq_true rfl)) dX7_stale_5 ⟨(Nat.le_of_ble_eq_true rfl), (Nat.le_of_ble_eq_true rfl)⟩) hS ⟨(Nat.le_of_ble_eq_true rfl), (Nat.le_of_ble_eq_true rfl)⟩ (fun H locs hP hS => ?_)
  obtain ⟨e1, e2⟩ := m_s_e hd
  have e2 := congrArg (x_ov Z) e2
  refine W.widen (k := 0) (n := 0) (Nat.le_of_ble_eq_true rfl) (Nat.le_of_ble_eq_true rfl) ?_
  exact W.iret hx hb hr (fun t ht hW => ⟨⟨_, (x_ov Z u5), rfl, ⟨e1, e2⟩, by show mP _ _ t.heap; rw [ht]; exact hP⟩, hS.F ht⟩) hS.2.2 dX7_stale_8


noncomputable def f_X7_wouldBeStale (u : xS) (p0 : Int32) : Option (Int32 × xS) := m_b (f_X7_isName u p0) fun r1 u2 => m_b (f_X7_goes u2 r1 1 1) fun r4 u5 => if r4 = (0 : Int32) then (some (0, u5)) else (m_b (f_X7_staleOnes u5) fun r8 u9 => m_g (¬ (p0 < 0 ∨ 8 ≤ p0.toNatClampNeg)) <| m_g (¬ (p0 < 0 ∨ 8 ≤ p0.toNatClampNeg)) <| m_l (x_sA u9 11 (p0.toNatClampNeg) 401) fun u13 => m_b (f_X7_staleOnes u13) fun r14 u15 => m_g (¬ (p0 < 0 ∨ 8 ≤ p0.toNatClampNeg)) <| m_l (x_sA u15 11 (p0.toNatClampNeg) (u9.2 11 p0.toNatClampNeg)) fun u18 => some (r14 &&& (r8 ^^^ ((-1))), u18))
set_option maxHeartbeats 1000000 in
set_option maxRecDepth 100000 in
theorem c_X7_wouldBeStale (l : Launch) (G : m_G) (Z : xB) (hZ : x_ok Z) (u u' : xS) (p0 : Int32) (r : Int32) (hd : f_X7_wouldBeStale u p0 = some (r, u')) : Met l yX7_wouldBeStale wsX7_wouldBeStale ({ frames := 4, cells := 0, slots := 0, locals := 90 } : Room) (m_Pc G (x_ov Z u) [.ref (Z.2.1), .int (p0)]) (m_Qi G r (x_ov Z u')) 0 0 (fun q => G.1 ≤ q) := by
  refine Met.ofW (cc := cX7_wouldBeStale) (maxL := 5) (ret := (some .int)) (by decide +kernel) rfl ?_
  intro p e s m args below meth c s₁ B hml hv
  obtain ⟨rfl, hM, hP⟩ := hv
  have hx := B.exec
  have hb := B.bytes
  have hr := B.returns
  have hts := atoms_spec (ws := wsX7_wouldBeStale) B.pre
  have hown : s.vm.findClass RX7 = some m.cls := findClass_of_methodNamed B.named
  have hlocks := B.notSynchronized
  have hin10 : ∀ w ∈ u_ws RX7 TX7 32, w ∈ wsX7_wouldBeStale := by decide +kernel
  have hS : va_S (fun q => G.1 ≤ q) s.heap s.heap [] := va_S.rf
  have hl := lv_entry ([.ref (Z.2.1), .int (p0)]) (n := 5) (Nat.le_of_ble_eq_true rfl)
  rw [lg_entry_eq]
  generalize (lg_sl ([.ref (Z.2.1), .int (p0)]) ++ List.replicate (5 - (lg_sl ([.ref (Z.2.1), .int (p0)])).length) Slot.unset).toArray = ls at hl ⊢
  have hl : lv_has ls 5 [(0, .ref (Z.2.1)), (1, .int (p0))] := hl
  refine lv_aload_n hx hb dX7_wouldBeStale_0 rfl (lv_at hl 0 rfl) ?_
  refine lv_iload_n hx hb dX7_wouldBeStale_1 rfl (lv_at hl 1 rfl) ?_
  obtain ⟨r1, u2, hc3, hd⟩ := m_b_e hd
  refine m_calli (k := 0) (n := 0) (va_runS (As := [.int (p0)]) (rest := [.ref (Z.2.1)]) ⟨hx, hb, hml, hown, hts⟩ (c_X7_isName l G Z hZ u u2 p0 r1 hc3) (va_cwS 1 hts gX7_wouldBeStale_X7_isName rfl rfl rfl (by decide +kernel) ⟨(Nat.le_of_ble_eq_true rfl), (Nat.le_of_ble_eq_true rfl)⟩) (m_preS hM hP hS) rfl rfl hl.1 rfl (lv_room (Nat.le_of_ble_eq_true rfl)) dX7_wouldBeStale_2 ⟨(Nat.le_of_ble_eq_true rfl), (Nat.le_of_ble_eq_true rfl)⟩) hS ⟨(Nat.le_of_ble_eq_true rfl), (Nat.le_of_ble_eq_true rfl)⟩ (fun H locs hP hS => ?_)
  refine lv_iconst (v := 1) hx hb dX7_wouldBeStale_5 (by decide) ?_
  refine lv_iconst (v := 1) hx hb dX7_wouldBeStale_6 (by decide) ?_
  obtain ⟨r4, u5, hc6, hd⟩ := m_b_e hd
  refine m_calli (k := 0) (n := 0) (va_runV (As := [.int (r1), .int (1), .int (1)]) (rest := []) ⟨hx, hb, hml, hown, hts⟩ (c_X7_goes l G Z hZ u2 u5 r1 1 1 r4 hc6) (cwV 3 hts gX7_wouldBeStale_X7_goes rfl rfl rfl (by decide +kernel) ⟨(Nat.le_of_ble_eq_true rfl), (Nat.le_of_ble_eq_true rfl)⟩) (m_preV (C := RX7) (T := TX7) (N := 32) hM hP hS rfl (by decide) hZ.1) rfl rfl hl.1 rfl (lv_room (Nat.le_of_ble_eq_true rfl)) dX7_wouldBeStale_7 ⟨(Nat.le_of_ble_eq_true rfl), (Nat.le_of_ble_eq_true rfl)⟩) hS ⟨(Nat.le_of_ble_eq_true rfl), (Nat.le_of_ble_eq_true rfl)⟩ (fun H locs hP hS => ?_)
  refine lv_if_ne (tgt := 15) hx hb dX7_wouldBeStale_10 (by decide) (fun c7 => ?_) (fun c7 => ?_)
  · have hd := m_i_f c7 hd
    refine lv_aload_n hx hb dX7_wouldBeStale_15 rfl (lv_at hl 0 rfl) ?_
    obtain ⟨r8, u9, hc10, hd⟩ := m_b_e hd
    refine m_calli (k := 0) (n := 0) (va_runV (As := []) (rest := []) ⟨hx, hb, hml, hown, hts⟩ (c_X7_staleOnes l G Z hZ u5 u9  r8 hc10) (cwV 0 hts gX7_wouldBeStale_X7_staleOnes rfl rfl rfl (by decide +kernel) ⟨(Nat.le_of_ble_eq_true rfl), (Nat.le_of_ble_eq_true rfl)⟩) (m_preV (C := RX7) (T := TX7) (N := 32) hM hP hS rfl (by decide) hZ.1) rfl rfl hl.1 rfl (lv_room (Nat.le_of_ble_eq_true rfl)) dX7_wouldBeStale_16 ⟨(Nat.le_of_ble_eq_true rfl), (Nat.le_of_ble_eq_true rfl)⟩) hS ⟨(Nat.le_of_ble_eq_true rfl), (Nat.le_of_ble_eq_true rfl)⟩ (fun H locs hP hS => ?_)
    refine lv_istore_n (lv' := [(2, .int (r8)), (0, .ref (Z.2.1)), (1, .int (p0))]) hx hb dX7_wouldBeStale_19 rfl hl (by decide) rfl (fun ls hl => ?_)
    refine lv_aload_n hx hb dX7_wouldBeStale_20 rfl (lv_at hl 1 rfl) ?_
    refine x_getA (own := RX7) (ref := RX7) hx hb hts hin10 hown hM.1 hZ hP 11 (by decide) (hts (.fieldLink RX7 40 "CellNotebookModel" "stamp" "[I") (by decide +kernel)) (fun _ h9 => h9) dX7_wouldBeStale_21 ?_
    refine lv_iload_n hx hb dX7_wouldBeStale_24 rfl (lv_at hl 2 rfl) ?_
    obtain ⟨hg11, hd⟩ := m_g_e hd
    refine x_ald hx hb hM.1 hZ hP 11 (by decide) hg11 dX7_wouldBeStale_25 ?_
    refine lv_istore_n (lv' := [(3, .int (u9.2 11 p0.toNatClampNeg)), (2, .int (r8)), (0, .ref (Z.2.1)), (1, .int (p0))]) hx hb dX7_wouldBeStale_26 rfl hl (by decide) rfl (fun ls hl => ?_)
    refine lv_aload_n hx hb dX7_wouldBeStale_27 rfl (lv_at hl 2 rfl) ?_
    refine x_getA (own := RX7) (ref := RX7) hx hb hts hin10 hown hM.1 hZ hP 11 (by decide) (hts (.fieldLink RX7 40 "CellNotebookModel" "stamp" "[I") (by decide +kernel)) (fun _ h9 => h9) dX7_wouldBeStale_28 ?_
    refine lv_iload_n hx hb dX7_wouldBeStale_31 rfl (lv_at hl 3 rfl) ?_
    refine lv_sipush (v := 401) hx hb dX7_wouldBeStale_32 (by decide) ?_
    obtain ⟨hg12, hd⟩ := m_g_e hd
    refine x_ast hx hb hM.1 hZ hP hS 11 (by decide) hg12 dX7_wouldBeStale_35 (fun H locs hP hS => ?_)
    obtain ⟨u13, ew, hd⟩ := m_l_e hd
    have hP : mP G (x_ov Z u13) H := by rw [ew]; exact hP
    refine lv_aload_n hx hb dX7_wouldBeStale_36 rfl (lv_at hl 2 rfl) ?_
    obtain ⟨r14, u15, hc16, hd⟩ := m_b_e hd
    refine m_calli (k := 0) (n := 0) (va_runV (As := []) (rest := []) ⟨hx, hb, hml, hown, hts⟩ (c_X7_staleOnes l G Z hZ u13 u15  r14 hc16) (cwV 0 hts gX7_wouldBeStale_X7_staleOnes rfl rfl rfl (by decide +kernel) ⟨(Nat.le_of_ble_eq_true rfl), (Nat.le_of_ble_eq_true rfl)⟩) (m_preV (C := RX7) (T := TX7) (N := 32) hM hP hS rfl (by decide) hZ.1) rfl rfl hl.1 rfl (lv_room (Nat.le_of_ble_eq_true rfl)) dX7_wouldBeStale_37 ⟨(Nat.le_of_ble_eq_true rfl), (Nat.le_of_ble_eq_true rfl)⟩) hS ⟨(Nat.le_of_ble_eq_true rfl), (Nat.le_of_ble_eq_true rfl)⟩ (fun H locs hP hS => ?_)
    refine lv_istore (lv' := [(4, .int (r14)), (3, .int (u9.2 11 p0.toNatClampNeg)), (2, .int (r8)), (0, .ref (Z.2.1)), (1, .int (p0))]) hx hb dX7_wouldBeStale_40 hl (by decide) rfl (fun ls hl => ?_)
    refine lv_aload_n hx hb dX7_wouldBeStale_42 rfl (lv_at hl 3 rfl) ?_
    refine x_getA (own := RX7) (ref := RX7) hx hb hts hin10 hown hM.1 hZ hP 11 (by decide) (hts (.fieldLink RX7 40 "CellNotebookModel" "stamp" "[I") (by decide +kernel)) (fun _ h9 => h9) dX7_wouldBeStale_43 ?_
    refine lv_iload_n hx hb dX7_wouldBeStale_46 rfl (lv_at hl 4 rfl) ?_
    refine lv_iload_n hx hb dX7_wouldBeStale_47 rfl (lv_at hl 1 rfl) ?_
    obtain ⟨hg17, hd⟩ := m_g_e hd
    refine x_ast hx hb hM.1 hZ hP hS 11 (by decide) hg17 dX7_wouldBeStale_48 (fun H locs hP hS => ?_)
    obtain ⟨u18, ew, hd⟩ := m_l_e hd
    have hP : mP G (x_ov Z u18) H := by rw [ew]; exact hP
    refine lv_iload hx hb dX7_wouldBeStale_49 (lv_at hl 0 rfl) ?_
    refine lv_iload_n hx hb dX7_wouldBeStale_51 rfl (lv_at hl 2 rfl) ?_
    refine lv_iconst (v := (-1)) hx hb dX7_wouldBeStale_52 (by decide) ?_
    refine lv_ixor hx hb dX7_wouldBeStale_53 ?_
    refine lv_iand hx hb dX7_wouldBeStale_54 ?_
    obtain ⟨e1, e2⟩ := m_s_e hd
    have e2 := congrArg (x_ov Z) e2
    refine W.widen (k := 0) (n := 0) (Nat.le_of_ble_eq_true rfl) (Nat.le_of_ble_eq_true rfl) ?_
    exact W.iret hx hb hr (fun t ht hW => ⟨⟨_, (x_ov Z u18), rfl, ⟨e1, e2⟩, by show mP _ _ t.heap; rw [ht]; exact hP⟩, hS.F ht⟩) hS.2.2 dX7_wouldBeStale_55
  · have hd := m_i_t c7 hd
    refine lv_iconst (v := 0) hx hb dX7_wouldBeStale_13 (by decide) ?_
    obtain ⟨e1, e2⟩ := m_s_e hd
    have e2 := congrArg (x_ov Z) e2
    refine W.widen (k := 0) (n := 0) (Nat.le_of_ble_eq_true rfl) (Nat.le_of_ble_eq_true rfl) ?_
    exact W.iret hx hb hr (fun t ht hW => ⟨⟨_, (x_ov Z u5), rfl, ⟨e1, e2⟩, by show mP _ _ t.heap; rw [ht]; exact hP⟩, hS.F ht⟩) hS.2.2 dX7_wouldBeStale_14


noncomputable def f_X7_keep_81_b (k81 : xS → Int32 → Option (Int32 × xS)) (u : xS) (x1 : Int32) : Option (Int32 × xS) := if 16 ≤ x1 then (m_l (x_sI u 21 ((u.1 21) + 1)) fun u314 => some ((u314.1 21) - 1, u314)) else (m_g (¬ (x1 < 0 ∨ 16 ≤ x1.toNatClampNeg)) <| m_g (¬ (((16 * (u.1 21)) + x1) < 0 ∨ 160 ≤ ((16 * (u.1 21)) + x1).toNatClampNeg)) <| m_l (x_sA u 24 (((16 * (u.1 21)) + x1).toNatClampNeg) (u.2 8 x1.toNatClampNeg)) fun u317 => k81 u317 (x1 + 1))
noncomputable def f_X7_keep_81 (n : Nat) : xS → Int32 → Option (Int32 × xS) := Nat.rec (motive := fun _ => xS → Int32 → Option (Int32 × xS)) (fun _ _ => none) (fun _ k => f_X7_keep_81_b  k) n
noncomputable def f_X7_keep_27_b (k27 : xS → Int32 → Option (Int32 × xS)) (u : xS) (x1 : Int32) : Option (Int32 × xS) := if 8 ≤ x1 then (f_X7_keep_81 m_N u 0) else (m_g (¬ (x1 < 0 ∨ 8 ≤ x1.toNatClampNeg)) <| m_g (¬ (((8 * (u.1 21)) + x1) < 0 ∨ 80 ≤ ((8 * (u.1 21)) + x1).toNatClampNeg)) <| m_l (x_sA u 22 (((8 * (u.1 21)) + x1).toNatClampNeg) (u.2 10 x1.toNatClampNeg)) fun u209 => m_g (¬ (x1 < 0 ∨ 8 ≤ x1.toNatClampNeg)) <| m_g (¬ (((8 * (u209.1 21)) + x1) < 0 ∨ 80 ≤ ((8 * (u209.1 21)) + x1).toNatClampNeg)) <| m_l (x_sA u209 23 (((8 * (u209.1 21)) + x1).toNatClampNeg) (u209.2 11 x1.toNatClampNeg)) fun u212 => k27 u212 (x1 + 1))
noncomputable def f_X7_keep_27 (n : Nat) : xS → Int32 → Option (Int32 × xS) := Nat.rec (motive := fun _ => xS → Int32 → Option (Int32 × xS)) (fun _ _ => none) (fun _ k => f_X7_keep_27_b  k) n
noncomputable def f_X7_keep_15 (u : xS) (s0 : Int32) : Option (Int32 × xS) := m_b (f_X7_goes u s0 1 1) fun r102 u103 => if r102 = (0 : Int32) then (some (0, u103)) else (f_X7_keep_27 m_N u103 0)
noncomputable def f_X7_keep (u : xS)  : Option (Int32 × xS) := if 10 ≤ (u.1 21) then (f_X7_keep_15 u 0) else (f_X7_keep_15 u 1)
set_option maxHeartbeats 1000000 in
set_option maxRecDepth 100000 in
theorem c_X7_keep (l : Launch) (G : m_G) (Z : xB) (hZ : x_ok Z) (u u' : xS)  (r : Int32) (hd : f_X7_keep u = some (r, u')) : Met l yX7_keep wsX7_keep ({ frames := 1, cells := 0, slots := 0, locals := 23 } : Room) (m_Pc G (x_ov Z u) [.ref (Z.2.1)]) (m_Qi G r (x_ov Z u')) 0 0 (fun q => G.1 ≤ q) := by
  refine Met.ofW (cc := cX7_keep) (maxL := 2) (ret := (some .int)) (by decide +kernel) rfl ?_
  intro p e s m args below meth c s₁ B hml hv
  obtain ⟨rfl, hM, hP⟩ := hv
  have hx := B.exec
  have hb := B.bytes
  have hr := B.returns
  have hts := atoms_spec (ws := wsX7_keep) B.pre
  have hown : s.vm.findClass RX7 = some m.cls := findClass_of_methodNamed B.named
  have hlocks := B.notSynchronized
  have hin10 : ∀ w ∈ u_ws RX7 TX7 32, w ∈ wsX7_keep := by decide +kernel
  have hS : va_S (fun q => G.1 ≤ q) s.heap s.heap [] := va_S.rf
  have J81 : ∀ (n81 : Nat) (u : xS) (x1 : Int32) (H : Heap) (locs : List Loc) (ls : Array Slot), f_X7_keep_81 n81 u x1 = some (r, u') → mP G (x_ov Z u) H → va_S (fun q => G.1 ≤ q) s.heap H locs → lv_has ls 2 [(0, .ref (Z.2.1)), (1, .int (x1))] → W p l e ({ frames := 1, cells := 0, slots := 0, locals := 23 } : Room) s m ([.ref (Z.2.1)] : List Value).toArray below meth c H locs 0 0 (MQ below (m_Qi G r (x_ov Z u')) ([.ref (Z.2.1)] : List Value).toArray s 0 0 (fun q => G.1 ≤ q)) (F0 m 81 ls []) := by
    intro n81
    induction n81 with
    | zero => intro u x1 H locs ls hd; exact absurd (show (none : Option (Int32 × xS)) = some _ from hd) (fun h => nomatch h)
    | succ n81 ih81 =>
      intro u x1 H locs ls hd hP hS hl
      have hd : f_X7_keep_81_b (f_X7_keep_81 n81) u x1 = some (r, u') := hd
      refine lv_iload_n hx hb dX7_keep_81 rfl (lv_at hl 1 rfl) ?_
      refine lv_bipush (v := 16) hx hb dX7_keep_82 (by decide) ?_
      refine lv_icmp_ge (tgt := 113) hx hb dX7_keep_84 (by decide) (fun c313 => ?_) (fun c313 => ?_)
      · have hd := m_i_t c313 hd
        refine lv_aload_n hx hb dX7_keep_113 rfl (lv_at hl 0 rfl) ?_
        refine lv_dup hx hb dX7_keep_114 rfl ?_
        refine x_getI (own := RX7) (ref := RX7) hx hb hts hin10 hown hM.1 hZ hP 21 (by decide) (hts (.fieldLink RX7 193 "CellNotebookModel" "images" "I") (by decide +kernel)) (fun _ h9 => h9) dX7_keep_115 ?_
        refine lv_iconst (v := 1) hx hb dX7_keep_118 (by decide) ?_
        refine lv_iadd hx hb dX7_keep_119 ?_
        refine x_putI (own := RX7) (ref := RX7) hx hb hts hin10 hown hM.1 hZ hP hS 21 (by decide) (hts (.fieldLink RX7 193 "CellNotebookModel" "images" "I") (by decide +kernel)) (fun _ h9 => h9) dX7_keep_120 (fun H locs hP hS => ?_)
        obtain ⟨u314, ew, hd⟩ := m_l_e hd
        have hP : mP G (x_ov Z u314) H := by rw [ew]; exact hP
        refine lv_aload_n hx hb dX7_keep_123 rfl (lv_at hl 0 rfl) ?_
        refine x_getI (own := RX7) (ref := RX7) hx hb hts hin10 hown hM.1 hZ hP 21 (by decide) (hts (.fieldLink RX7 193 "CellNotebookModel" "images" "I") (by decide +kernel)) (fun _ h9 => h9) dX7_keep_124 ?_
        refine lv_iconst (v := 1) hx hb dX7_keep_127 (by decide) ?_
        refine lv_isub hx hb dX7_keep_128 ?_
        obtain ⟨e1, e2⟩ := m_s_e hd
        have e2 := congrArg (x_ov Z) e2
        refine W.widen (k := 0) (n := 0) (Nat.le_of_ble_eq_true rfl) (Nat.le_of_ble_eq_true rfl) ?_
        exact W.iret hx hb hr (fun t ht hW => ⟨⟨_, (x_ov Z u314), rfl, ⟨e1, e2⟩, by show mP _ _ t.heap; rw [ht]; exact hP⟩, hS.F ht⟩) hS.2.2 dX7_keep_129
      · have hd := m_i_f c313 hd
        refine lv_aload_n hx hb dX7_keep_87 rfl (lv_at hl 0 rfl) ?_
        refine x_getA (own := RX7) (ref := RX7) hx hb hts hin10 hown hM.1 hZ hP 24 (by decide) (hts (.fieldLink RX7 74 "CellNotebookModel" "keptLast" "[I") (by decide +kernel)) (fun _ h9 => h9) dX7_keep_88 ?_
        refine lv_bipush (v := 16) hx hb dX7_keep_91 (by decide) ?_
        refine lv_aload_n hx hb dX7_keep_93 rfl (lv_at hl 0 rfl) ?_
        refine x_getI (own := RX7) (ref := RX7) hx hb hts hin10 hown hM.1 hZ hP 21 (by decide) (hts (.fieldLink RX7 193 "CellNotebookModel" "images" "I") (by decide +kernel)) (fun _ h9 => h9) dX7_keep_94 ?_
        refine lv_imul hx hb dX7_keep_97 ?_
        refine lv_iload_n hx hb dX7_keep_98 rfl (lv_at hl 1 rfl) ?_
        refine lv_iadd hx hb dX7_keep_99 ?_
        refine lv_aload_n hx hb dX7_keep_100 rfl (lv_at hl 0 rfl) ?_
        refine x_getA (own := RX7) (ref := RX7) hx hb hts hin10 hown hM.1 hZ hP 8 (by decide) (hts (.fieldLink RX7 31 "CellNotebookModel" "last" "[I") (by decide +kernel)) (fun _ h9 => h9) dX7_keep_101 ?_
        refine lv_iload_n hx hb dX7_keep_104 rfl (lv_at hl 1 rfl) ?_
        obtain ⟨hg315, hd⟩ := m_g_e hd
        refine x_ald hx hb hM.1 hZ hP 8 (by decide) hg315 dX7_keep_105 ?_
        obtain ⟨hg316, hd⟩ := m_g_e hd
        refine x_ast hx hb hM.1 hZ hP hS 24 (by decide) hg316 dX7_keep_106 (fun H locs hP hS => ?_)
        obtain ⟨u317, ew, hd⟩ := m_l_e hd
        have hP : mP G (x_ov Z u317) H := by rw [ew]; exact hP
        refine lv_iinc (v := x1 + 1) (lv' := [(1, .int (x1 + 1)), (0, .ref (Z.2.1))]) hx hb dX7_keep_107 hl (k := 1) rfl rfl (by decide) rfl (fun ls hl => ?_)
        refine lv_goto (tgt := 81) hx hb dX7_keep_110 (by decide) ?_
        refine W.widen (k := 0) (n := 0) (Nat.le_of_ble_eq_true rfl) (Nat.le_of_ble_eq_true rfl) ?_
        exact ih81 u317 (x1 + 1) _ _ _ hd hP hS (lv_sub hl [1, 0] rfl)
  have J27 : ∀ (n27 : Nat) (u : xS) (x1 : Int32) (H : Heap) (locs : List Loc) (ls : Array Slot), f_X7_keep_27 n27 u x1 = some (r, u') → mP G (x_ov Z u) H → va_S (fun q => G.1 ≤ q) s.heap H locs → lv_has ls 2 [(0, .ref (Z.2.1)), (1, .int (x1))] → W p l e ({ frames := 1, cells := 0, slots := 0, locals := 23 } : Room) s m ([.ref (Z.2.1)] : List Value).toArray below meth c H locs 0 0 (MQ below (m_Qi G r (x_ov Z u')) ([.ref (Z.2.1)] : List Value).toArray s 0 0 (fun q => G.1 ≤ q)) (F0 m 27 ls []) := by
    intro n27
    induction n27 with
    | zero => intro u x1 H locs ls hd; exact absurd (show (none : Option (Int32 × xS)) = some _ from hd) (fun h => nomatch h)
    | succ n27 ih27 =>
      intro u x1 H locs ls hd hP hS hl
      have hd : f_X7_keep_27_b (f_X7_keep_27 n27) u x1 = some (r, u') := hd
      refine lv_iload_n hx hb dX7_keep_27 rfl (lv_at hl 1 rfl) ?_
      refine lv_bipush (v := 8) hx hb dX7_keep_28 (by decide) ?_
      refine lv_icmp_ge (tgt := 79) hx hb dX7_keep_30 (by decide) (fun c206 => ?_) (fun c206 => ?_)
      · have hd := m_i_t c206 hd
        refine lv_iconst (v := 0) hx hb dX7_keep_79 (by decide) ?_
        refine lv_istore_n (lv' := [(1, .int (0)), (0, .ref (Z.2.1))]) hx hb dX7_keep_80 rfl hl (by decide) rfl (fun ls hl => ?_)
        refine W.widen (k := 0) (n := 0) (Nat.le_of_ble_eq_true rfl) (Nat.le_of_ble_eq_true rfl) ?_
        exact J81 m_N u 0 _ _ _ hd hP hS (lv_sub hl [1, 0] rfl)
      · have hd := m_i_f c206 hd
        refine lv_aload_n hx hb dX7_keep_33 rfl (lv_at hl 0 rfl) ?_
        refine x_getA (own := RX7) (ref := RX7) hx hb hts hin10 hown hM.1 hZ hP 22 (by decide) (hts (.fieldLink RX7 68 "CellNotebookModel" "keptValue" "[I") (by decide +kernel)) (fun _ h9 => h9) dX7_keep_34 ?_
        refine lv_bipush (v := 8) hx hb dX7_keep_37 (by decide) ?_
        refine lv_aload_n hx hb dX7_keep_39 rfl (lv_at hl 0 rfl) ?_
        refine x_getI (own := RX7) (ref := RX7) hx hb hts hin10 hown hM.1 hZ hP 21 (by decide) (hts (.fieldLink RX7 193 "CellNotebookModel" "images" "I") (by decide +kernel)) (fun _ h9 => h9) dX7_keep_40 ?_
        refine lv_imul hx hb dX7_keep_43 ?_
        refine lv_iload_n hx hb dX7_keep_44 rfl (lv_at hl 1 rfl) ?_
        refine lv_iadd hx hb dX7_keep_45 ?_
        refine lv_aload_n hx hb dX7_keep_46 rfl (lv_at hl 0 rfl) ?_
        refine x_getA (own := RX7) (ref := RX7) hx hb hts hin10 hown hM.1 hZ hP 10 (by decide) (hts (.fieldLink RX7 37 "CellNotebookModel" "value" "[I") (by decide +kernel)) (fun _ h9 => h9) dX7_keep_47 ?_
        refine lv_iload_n hx hb dX7_keep_50 rfl (lv_at hl 1 rfl) ?_
        obtain ⟨hg207, hd⟩ := m_g_e hd
        refine x_ald hx hb hM.1 hZ hP 10 (by decide) hg207 dX7_keep_51 ?_
        obtain ⟨hg208, hd⟩ := m_g_e hd
        refine x_ast hx hb hM.1 hZ hP hS 22 (by decide) hg208 dX7_keep_52 (fun H locs hP hS => ?_)
        obtain ⟨u209, ew, hd⟩ := m_l_e hd
        have hP : mP G (x_ov Z u209) H := by rw [ew]; exact hP
        refine lv_aload_n hx hb dX7_keep_53 rfl (lv_at hl 0 rfl) ?_
        refine x_getA (own := RX7) (ref := RX7) hx hb hts hin10 hown hM.1 hZ hP 23 (by decide) (hts (.fieldLink RX7 71 "CellNotebookModel" "keptStamp" "[I") (by decide +kernel)) (fun _ h9 => h9) dX7_keep_54 ?_
        refine lv_bipush (v := 8) hx hb dX7_keep_57 (by decide) ?_
        refine lv_aload_n hx hb dX7_keep_59 rfl (lv_at hl 0 rfl) ?_
        refine x_getI (own := RX7) (ref := RX7) hx hb hts hin10 hown hM.1 hZ hP 21 (by decide) (hts (.fieldLink RX7 193 "CellNotebookModel" "images" "I") (by decide +kernel)) (fun _ h9 => h9) dX7_keep_60 ?_
        refine lv_imul hx hb dX7_keep_63 ?_
        refine lv_iload_n hx hb dX7_keep_64 rfl (lv_at hl 1 rfl) ?_
        refine lv_iadd hx hb dX7_keep_65 ?_
        refine lv_aload_n hx hb dX7_keep_66 rfl (lv_at hl 0 rfl) ?_
        refine x_getA (own := RX7) (ref := RX7) hx hb hts hin10 hown hM.1 hZ hP 11 (by decide) (hts (.fieldLink RX7 40 "CellNotebookModel" "stamp" "[I") (by decide +kernel)) (fun _ h9 => h9) dX7_keep_67 ?_
        refine lv_iload_n hx hb dX7_keep_70 rfl (lv_at hl 1 rfl) ?_
        obtain ⟨hg210, hd⟩ := m_g_e hd
        refine x_ald hx hb hM.1 hZ hP 11 (by decide) hg210 dX7_keep_71 ?_
        obtain ⟨hg211, hd⟩ := m_g_e hd
        refine x_ast hx hb hM.1 hZ hP hS 23 (by decide) hg211 dX7_keep_72 (fun H locs hP hS => ?_)
        obtain ⟨u212, ew, hd⟩ := m_l_e hd
        have hP : mP G (x_ov Z u212) H := by rw [ew]; exact hP
        refine lv_iinc (v := x1 + 1) (lv' := [(1, .int (x1 + 1)), (0, .ref (Z.2.1))]) hx hb dX7_keep_73 hl (k := 1) rfl rfl (by decide) rfl (fun ls hl => ?_)
        refine lv_goto (tgt := 27) hx hb dX7_keep_76 (by decide) ?_
        refine W.widen (k := 0) (n := 0) (Nat.le_of_ble_eq_true rfl) (Nat.le_of_ble_eq_true rfl) ?_
        exact ih27 u212 (x1 + 1) _ _ _ hd hP hS (lv_sub hl [1, 0] rfl)
  have J15 : ∀ (u : xS) (s0 : Int32) (H : Heap) (locs : List Loc) (ls : Array Slot), f_X7_keep_15 u s0 = some (r, u') → mP G (x_ov Z u) H → va_S (fun q => G.1 ≤ q) s.heap H locs → lv_has ls 2 [(0, .ref (Z.2.1))] → W p l e ({ frames := 1, cells := 0, slots := 0, locals := 23 } : Room) s m ([.ref (Z.2.1)] : List Value).toArray below meth c H locs 0 0 (MQ below (m_Qi G r (x_ov Z u')) ([.ref (Z.2.1)] : List Value).toArray s 0 0 (fun q => G.1 ≤ q)) (F0 m 15 ls [.int (s0), .ref (Z.2.1)]) := by
    intro u s0 H locs ls hd hP hS hl
    refine lv_iconst (v := 1) hx hb dX7_keep_15 (by decide) ?_
    refine lv_iconst (v := 1) hx hb dX7_keep_16 (by decide) ?_
    obtain ⟨r102, u103, hc104, hd⟩ := m_b_e hd
    refine m_calli (k := 0) (n := 0) (va_runV (As := [.int (s0), .int (1), .int (1)]) (rest := []) ⟨hx, hb, hml, hown, hts⟩ (c_X7_goes l G Z hZ u u103 s0 1 1 r102 hc104) (cwV 3 hts gX7_keep_X7_goes rfl rfl rfl (by decide +kernel) ⟨(Nat.le_of_ble_eq_true rfl), (Nat.le_of_ble_eq_true rfl)⟩) (m_preV (C := RX7) (T := TX7) (N := 32) hM hP hS rfl (by decide) hZ.1) rfl rfl hl.1 rfl (lv_room (Nat.le_of_ble_eq_true rfl)) dX7_keep_17 ⟨(Nat.le_of_ble_eq_true rfl), (Nat.le_of_ble_eq_true rfl)⟩) hS ⟨(Nat.le_of_ble_eq_true rfl), (Nat.le_of_ble_eq_true rfl)⟩ (fun H locs hP hS => ?_)
    refine lv_if_ne (tgt := 25) hx hb dX7_keep_20 (by decide) (fun c105 => ?_) (fun c105 => ?_)
    · have hd := m_i_f c105 hd
      refine lv_iconst (v := 0) hx hb dX7_keep_25 (by decide) ?_
      refine lv_istore_n (lv' := [(1, .int (0)), (0, .ref (Z.2.1))]) hx hb dX7_keep_26 rfl hl (by decide) rfl (fun ls hl => ?_)
      refine W.widen (k := 0) (n := 0) (Nat.le_of_ble_eq_true rfl) (Nat.le_of_ble_eq_true rfl) ?_
      exact J27 m_N u103 0 _ _ _ hd hP hS (lv_sub hl [1, 0] rfl)
    · have hd := m_i_t c105 hd
      refine lv_iconst (v := 0) hx hb dX7_keep_23 (by decide) ?_
      obtain ⟨e1, e2⟩ := m_s_e hd
      have e2 := congrArg (x_ov Z) e2
      refine W.widen (k := 0) (n := 0) (Nat.le_of_ble_eq_true rfl) (Nat.le_of_ble_eq_true rfl) ?_
      exact W.iret hx hb hr (fun t ht hW => ⟨⟨_, (x_ov Z u103), rfl, ⟨e1, e2⟩, by show mP _ _ t.heap; rw [ht]; exact hP⟩, hS.F ht⟩) hS.2.2 dX7_keep_24
  have hl := lv_entry ([.ref (Z.2.1)]) (n := 2) (Nat.le_of_ble_eq_true rfl)
  rw [lg_entry_eq]
  generalize (lg_sl ([.ref (Z.2.1)]) ++ List.replicate (2 - (lg_sl ([.ref (Z.2.1)])).length) Slot.unset).toArray = ls at hl ⊢
  have hl : lv_has ls 2 [(0, .ref (Z.2.1))] := hl
  refine lv_aload_n hx hb dX7_keep_0 rfl (lv_at hl 0 rfl) ?_
  refine lv_aload_n hx hb dX7_keep_1 rfl (lv_at hl 0 rfl) ?_
  refine x_getI (own := RX7) (ref := RX7) hx hb hts hin10 hown hM.1 hZ hP 21 (by decide) (hts (.fieldLink RX7 193 "CellNotebookModel" "images" "I") (by decide +kernel)) (fun _ h9 => h9) dX7_keep_2 ?_
  refine lv_bipush (v := 10) hx hb dX7_keep_5 (by decide) ?_
  refine lv_icmp_ge (tgt := 14) hx hb dX7_keep_7 (by decide) (fun c1 => ?_) (fun c1 => ?_)
  · have hd := m_i_t c1 hd
    refine lv_iconst (v := 0) hx hb dX7_keep_14 (by decide) ?_
    refine W.widen (k := 0) (n := 0) (Nat.le_of_ble_eq_true rfl) (Nat.le_of_ble_eq_true rfl) ?_
    exact J15 u 0 _ _ _ hd hP hS (lv_sub hl [0] rfl)
  · have hd := m_i_f c1 hd
    refine lv_iconst (v := 1) hx hb dX7_keep_10 (by decide) ?_
    refine lv_goto (tgt := 15) hx hb dX7_keep_11 (by decide) ?_
    refine W.widen (k := 0) (n := 0) (Nat.le_of_ble_eq_true rfl) (Nat.le_of_ble_eq_true rfl) ?_
    exact J15 u 1 _ _ _ hd hP hS (lv_sub hl [0] rfl)


noncomputable def f_X7_setOnes_25 (k4 : xS → Int32 → Int32 → Option (Int32 × xS)) (u : xS) (x2 : Int32) (s0 : Int32) (s1 : Int32) : Option (Int32 × xS) := k4 u (s1 + s0) (x2 + 1)
noncomputable def f_X7_setOnes_4_b (k4 : xS → Int32 → Int32 → Option (Int32 × xS)) (u : xS) (x1 : Int32) (x2 : Int32) : Option (Int32 × xS) := if 8 ≤ x2 then (some (x1, u)) else (m_g (¬ (x2 < 0 ∨ 8 ≤ x2.toNatClampNeg)) <| if (u.2 11 x2.toNatClampNeg) ≤ (0 : Int32) then (f_X7_setOnes_25 k4 u x2 0 x1) else (f_X7_setOnes_25 k4 u x2 1 x1))
noncomputable def f_X7_setOnes_4 (n : Nat) : xS → Int32 → Int32 → Option (Int32 × xS) := Nat.rec (motive := fun _ => xS → Int32 → Int32 → Option (Int32 × xS)) (fun _ _ _ => none) (fun _ k => f_X7_setOnes_4_b  k) n
noncomputable def f_X7_setOnes (u : xS)  : Option (Int32 × xS) := f_X7_setOnes_4 m_N u 0 0
set_option maxHeartbeats 1000000 in
set_option maxRecDepth 100000 in
theorem c_X7_setOnes (l : Launch) (G : m_G) (Z : xB) (hZ : x_ok Z) (u u' : xS)  (r : Int32) (hd : f_X7_setOnes u = some (r, u')) : Met l yX7_setOnes wsX7_setOnes ({ frames := 0, cells := 0, slots := 0, locals := 0 } : Room) (m_Pc G (x_ov Z u) [.ref (Z.2.1)]) (m_Qi G r (x_ov Z u')) 0 0 (fun q => G.1 ≤ q) := by
  refine Met.ofW (cc := cX7_setOnes) (maxL := 3) (ret := (some .int)) (by decide +kernel) rfl ?_
  intro p e s m args below meth c s₁ B hml hv
  obtain ⟨rfl, hM, hP⟩ := hv
  have hx := B.exec
  have hb := B.bytes
  have hr := B.returns
  have hts := atoms_spec (ws := wsX7_setOnes) B.pre
  have hown : s.vm.findClass RX7 = some m.cls := findClass_of_methodNamed B.named
  have hlocks := B.notSynchronized
  have hin10 : ∀ w ∈ u_ws RX7 TX7 32, w ∈ wsX7_setOnes := by decide +kernel
  have hS : va_S (fun q => G.1 ≤ q) s.heap s.heap [] := va_S.rf
  have J4 : ∀ (n4 : Nat) (u : xS) (x1 : Int32) (x2 : Int32) (H : Heap) (locs : List Loc) (ls : Array Slot), f_X7_setOnes_4 n4 u x1 x2 = some (r, u') → mP G (x_ov Z u) H → va_S (fun q => G.1 ≤ q) s.heap H locs → lv_has ls 3 [(0, .ref (Z.2.1)), (1, .int (x1)), (2, .int (x2))] → W p l e ({ frames := 0, cells := 0, slots := 0, locals := 0 } : Room) s m ([.ref (Z.2.1)] : List Value).toArray below meth c H locs 0 0 (MQ below (m_Qi G r (x_ov Z u')) ([.ref (Z.2.1)] : List Value).toArray s 0 0 (fun q => G.1 ≤ q)) (F0 m 4 ls []) := by
    intro n4
    induction n4 with
    | zero => intro u x1 x2 H locs ls hd; exact absurd (show (none : Option (Int32 × xS)) = some _ from hd) (fun h => nomatch h)
    | succ n4 ih4 =>
      have J25 : ∀ (u : xS) (x2 : Int32) (s0 : Int32) (s1 : Int32) (H : Heap) (locs : List Loc) (ls : Array Slot), f_X7_setOnes_25 (f_X7_setOnes_4 n4) u x2 s0 s1 = some (r, u') → mP G (x_ov Z u) H → va_S (fun q => G.1 ≤ q) s.heap H locs → lv_has ls 3 [(0, .ref (Z.2.1)), (2, .int (x2))] → W p l e ({ frames := 0, cells := 0, slots := 0, locals := 0 } : Room) s m ([.ref (Z.2.1)] : List Value).toArray below meth c H locs 0 0 (MQ below (m_Qi G r (x_ov Z u')) ([.ref (Z.2.1)] : List Value).toArray s 0 0 (fun q => G.1 ≤ q)) (F0 m 25 ls [.int (s0), .int (s1)]) := by
        intro u x2 s0 s1 H locs ls hd hP hS hl
        refine lv_iadd hx hb dX7_setOnes_25 ?_
        refine lv_istore_n (lv' := [(1, .int (s1 + s0)), (0, .ref (Z.2.1)), (2, .int (x2))]) hx hb dX7_setOnes_26 rfl hl (by decide) rfl (fun ls hl => ?_)
        refine lv_iinc (v := x2 + 1) (lv' := [(2, .int (x2 + 1)), (1, .int (s1 + s0)), (0, .ref (Z.2.1))]) hx hb dX7_setOnes_27 hl (k := 2) rfl rfl (by decide) rfl (fun ls hl => ?_)
        refine lv_goto (tgt := 4) hx hb dX7_setOnes_30 (by decide) ?_
        refine W.widen (k := 0) (n := 0) (Nat.le_of_ble_eq_true rfl) (Nat.le_of_ble_eq_true rfl) ?_
        exact ih4 u (s1 + s0) (x2 + 1) _ _ _ hd hP hS (lv_sub hl [2, 1, 0] rfl)
      intro u x1 x2 H locs ls hd hP hS hl
      have hd : f_X7_setOnes_4_b (f_X7_setOnes_4 n4) u x1 x2 = some (r, u') := hd
      refine lv_iload_n hx hb dX7_setOnes_4 rfl (lv_at hl 2 rfl) ?_
      refine lv_bipush (v := 8) hx hb dX7_setOnes_5 (by decide) ?_
      refine lv_icmp_ge (tgt := 33) hx hb dX7_setOnes_7 (by decide) (fun c101 => ?_) (fun c101 => ?_)
      · have hd := m_i_t c101 hd
        refine lv_iload_n hx hb dX7_setOnes_33 rfl (lv_at hl 1 rfl) ?_
        obtain ⟨e1, e2⟩ := m_s_e hd
        have e2 := congrArg (x_ov Z) e2
        refine W.widen (k := 0) (n := 0) (Nat.le_of_ble_eq_true rfl) (Nat.le_of_ble_eq_true rfl) ?_
        exact W.iret hx hb hr (fun t ht hW => ⟨⟨_, (x_ov Z u), rfl, ⟨e1, e2⟩, by show mP _ _ t.heap; rw [ht]; exact hP⟩, hS.F ht⟩) hS.2.2 dX7_setOnes_34
      · have hd := m_i_f c101 hd
        refine lv_iload_n hx hb dX7_setOnes_10 rfl (lv_at hl 1 rfl) ?_
        refine lv_aload_n hx hb dX7_setOnes_11 rfl (lv_at hl 0 rfl) ?_
        refine x_getA (own := RX7) (ref := RX7) hx hb hts hin10 hown hM.1 hZ hP 11 (by decide) (hts (.fieldLink RX7 40 "CellNotebookModel" "stamp" "[I") (by decide +kernel)) (fun _ h9 => h9) dX7_setOnes_12 ?_
        refine lv_iload_n hx hb dX7_setOnes_15 rfl (lv_at hl 2 rfl) ?_
        obtain ⟨hg102, hd⟩ := m_g_e hd
        refine x_ald hx hb hM.1 hZ hP 11 (by decide) hg102 dX7_setOnes_16 ?_
        refine lv_if_le (tgt := 24) hx hb dX7_setOnes_17 (by decide) (fun c103 => ?_) (fun c103 => ?_)
        · have hd := m_i_t c103 hd
          refine lv_iconst (v := 0) hx hb dX7_setOnes_24 (by decide) ?_
          refine W.widen (k := 0) (n := 0) (Nat.le_of_ble_eq_true rfl) (Nat.le_of_ble_eq_true rfl) ?_
          exact J25 u x2 0 x1 _ _ _ hd hP hS (lv_sub hl [0, 2] rfl)
        · have hd := m_i_f c103 hd
          refine lv_iconst (v := 1) hx hb dX7_setOnes_20 (by decide) ?_
          refine lv_goto (tgt := 25) hx hb dX7_setOnes_21 (by decide) ?_
          refine W.widen (k := 0) (n := 0) (Nat.le_of_ble_eq_true rfl) (Nat.le_of_ble_eq_true rfl) ?_
          exact J25 u x2 1 x1 _ _ _ hd hP hS (lv_sub hl [0, 2] rfl)
  have hl := lv_entry ([.ref (Z.2.1)]) (n := 3) (Nat.le_of_ble_eq_true rfl)
  rw [lg_entry_eq]
  generalize (lg_sl ([.ref (Z.2.1)]) ++ List.replicate (3 - (lg_sl ([.ref (Z.2.1)])).length) Slot.unset).toArray = ls at hl ⊢
  have hl : lv_has ls 3 [(0, .ref (Z.2.1))] := hl
  refine lv_iconst (v := 0) hx hb dX7_setOnes_0 (by decide) ?_
  refine lv_istore_n (lv' := [(1, .int (0)), (0, .ref (Z.2.1))]) hx hb dX7_setOnes_1 rfl hl (by decide) rfl (fun ls hl => ?_)
  refine lv_iconst (v := 0) hx hb dX7_setOnes_2 (by decide) ?_
  refine lv_istore_n (lv' := [(2, .int (0)), (1, .int (0)), (0, .ref (Z.2.1))]) hx hb dX7_setOnes_3 rfl hl (by decide) rfl (fun ls hl => ?_)
  refine W.widen (k := 0) (n := 0) (Nat.le_of_ble_eq_true rfl) (Nat.le_of_ble_eq_true rfl) ?_
  exact J4 m_N u 0 0 _ _ _ hd hP hS (lv_sub hl [2, 1, 0] rfl)


noncomputable def f_X7_restore_72_b (k72 : xS → Int32 → Int32 → Option (Int32 × xS)) (u : xS) (x1 : Int32) (x2 : Int32) : Option (Int32 × xS) := if 16 ≤ x2 then (m_b (f_X7_setOnes u) fun r216 u217 => some (r216, u217)) else (m_g (¬ (((16 * x1) + x2) < 0 ∨ 160 ≤ ((16 * x1) + x2).toNatClampNeg)) <| m_g (¬ (x2 < 0 ∨ 16 ≤ x2.toNatClampNeg)) <| m_l (x_sA u 8 (x2.toNatClampNeg) (u.2 24 ((16 * x1) + x2).toNatClampNeg)) fun u221 => k72 u221 x1 (x2 + 1))
noncomputable def f_X7_restore_72 (n : Nat) : xS → Int32 → Int32 → Option (Int32 × xS) := Nat.rec (motive := fun _ => xS → Int32 → Int32 → Option (Int32 × xS)) (fun _ _ _ => none) (fun _ k => f_X7_restore_72_b  k) n
noncomputable def f_X7_restore_24_b (k24 : xS → Int32 → Int32 → Option (Int32 × xS)) (u : xS) (x1 : Int32) (x2 : Int32) : Option (Int32 × xS) := if 8 ≤ x2 then (f_X7_restore_72 m_N u x1 0) else (m_g (¬ (((8 * x1) + x2) < 0 ∨ 80 ≤ ((8 * x1) + x2).toNatClampNeg)) <| m_g (¬ (x2 < 0 ∨ 8 ≤ x2.toNatClampNeg)) <| m_l (x_sA u 10 (x2.toNatClampNeg) (u.2 22 ((8 * x1) + x2).toNatClampNeg)) fun u111 => m_g (¬ (((8 * x1) + x2) < 0 ∨ 80 ≤ ((8 * x1) + x2).toNatClampNeg)) <| m_g (¬ (x2 < 0 ∨ 8 ≤ x2.toNatClampNeg)) <| m_l (x_sA u111 11 (x2.toNatClampNeg) (u111.2 23 ((8 * x1) + x2).toNatClampNeg)) fun u114 => k24 u114 x1 (x2 + 1))
noncomputable def f_X7_restore_24 (n : Nat) : xS → Int32 → Int32 → Option (Int32 × xS) := Nat.rec (motive := fun _ => xS → Int32 → Int32 → Option (Int32 × xS)) (fun _ _ _ => none) (fun _ k => f_X7_restore_24_b  k) n
noncomputable def f_X7_restore (u : xS) (p0 : Int32) : Option (Int32 × xS) := m_b (f_X7_in u p0 0 ((u.1 21) - 1)) fun r1 u2 => m_b (f_X7_goes u2 r1 1 1) fun r4 u5 => if r4 = (0 : Int32) then (some (0, u5)) else (f_X7_restore_24 m_N u5 p0 0)
set_option maxHeartbeats 1000000 in
set_option maxRecDepth 100000 in
theorem c_X7_restore (l : Launch) (G : m_G) (Z : xB) (hZ : x_ok Z) (u u' : xS) (p0 : Int32) (r : Int32) (hd : f_X7_restore u p0 = some (r, u')) : Met l yX7_restore wsX7_restore ({ frames := 1, cells := 0, slots := 0, locals := 23 } : Room) (m_Pc G (x_ov Z u) [.ref (Z.2.1), .int (p0)]) (m_Qi G r (x_ov Z u')) 0 0 (fun q => G.1 ≤ q) := by
  refine Met.ofW (cc := cX7_restore) (maxL := 3) (ret := (some .int)) (by decide +kernel) rfl ?_
  intro p e s m args below meth c s₁ B hml hv
  obtain ⟨rfl, hM, hP⟩ := hv
  have hx := B.exec
  have hb := B.bytes
  have hr := B.returns
  have hts := atoms_spec (ws := wsX7_restore) B.pre
  have hown : s.vm.findClass RX7 = some m.cls := findClass_of_methodNamed B.named
  have hlocks := B.notSynchronized
  have hin10 : ∀ w ∈ u_ws RX7 TX7 32, w ∈ wsX7_restore := by decide +kernel
  have hS : va_S (fun q => G.1 ≤ q) s.heap s.heap [] := va_S.rf
  have J72 : ∀ (n72 : Nat) (u : xS) (x1 : Int32) (x2 : Int32) (H : Heap) (locs : List Loc) (ls : Array Slot), f_X7_restore_72 n72 u x1 x2 = some (r, u') → mP G (x_ov Z u) H → va_S (fun q => G.1 ≤ q) s.heap H locs → lv_has ls 3 [(0, .ref (Z.2.1)), (1, .int (x1)), (2, .int (x2))] → W p l e ({ frames := 1, cells := 0, slots := 0, locals := 23 } : Room) s m ([.ref (Z.2.1), .int (p0)] : List Value).toArray below meth c H locs 0 0 (MQ below (m_Qi G r (x_ov Z u')) ([.ref (Z.2.1), .int (p0)] : List Value).toArray s 0 0 (fun q => G.1 ≤ q)) (F0 m 72 ls []) := by
    intro n72
    induction n72 with
    | zero => intro u x1 x2 H locs ls hd; exact absurd (show (none : Option (Int32 × xS)) = some _ from hd) (fun h => nomatch h)
    | succ n72 ih72 =>
      intro u x1 x2 H locs ls hd hP hS hl
      have hd : f_X7_restore_72_b (f_X7_restore_72 n72) u x1 x2 = some (r, u') := hd
      refine lv_iload_n hx hb dX7_restore_72 rfl (lv_at hl 2 rfl) ?_
      refine lv_bipush (v := 16) hx hb dX7_restore_73 (by decide) ?_
      refine lv_icmp_ge (tgt := 101) hx hb dX7_restore_75 (by decide) (fun c215 => ?_) (fun c215 => ?_)
      · have hd := m_i_t c215 hd
        refine lv_aload_n hx hb dX7_restore_101 rfl (lv_at hl 0 rfl) ?_
        obtain ⟨r216, u217, hc218, hd⟩ := m_b_e hd
        refine m_calli (k := 0) (n := 0) (va_runV (As := []) (rest := []) ⟨hx, hb, hml, hown, hts⟩ (c_X7_setOnes l G Z hZ u u217  r216 hc218) (cwV 0 hts gX7_restore_X7_setOnes rfl rfl rfl (by decide +kernel) ⟨(Nat.le_of_ble_eq_true rfl), (Nat.le_of_ble_eq_true rfl)⟩) (m_preV (C := RX7) (T := TX7) (N := 32) hM hP hS rfl (by decide) hZ.1) rfl rfl hl.1 rfl (lv_room (Nat.le_of_ble_eq_true rfl)) dX7_restore_102 ⟨(Nat.le_of_ble_eq_true rfl), (Nat.le_of_ble_eq_true rfl)⟩) hS ⟨(Nat.le_of_ble_eq_true rfl), (Nat.le_of_ble_eq_true rfl)⟩ (fun H locs hP hS => ?_)
        obtain ⟨e1, e2⟩ := m_s_e hd
        have e2 := congrArg (x_ov Z) e2
        refine W.widen (k := 0) (n := 0) (Nat.le_of_ble_eq_true rfl) (Nat.le_of_ble_eq_true rfl) ?_
        exact W.iret hx hb hr (fun t ht hW => ⟨⟨_, (x_ov Z u217), rfl, ⟨e1, e2⟩, by show mP _ _ t.heap; rw [ht]; exact hP⟩, hS.F ht⟩) hS.2.2 dX7_restore_105
      · have hd := m_i_f c215 hd
        refine lv_aload_n hx hb dX7_restore_78 rfl (lv_at hl 0 rfl) ?_
        refine x_getA (own := RX7) (ref := RX7) hx hb hts hin10 hown hM.1 hZ hP 8 (by decide) (hts (.fieldLink RX7 31 "CellNotebookModel" "last" "[I") (by decide +kernel)) (fun _ h9 => h9) dX7_restore_79 ?_
        refine lv_iload_n hx hb dX7_restore_82 rfl (lv_at hl 2 rfl) ?_
        refine lv_aload_n hx hb dX7_restore_83 rfl (lv_at hl 0 rfl) ?_
        refine x_getA (own := RX7) (ref := RX7) hx hb hts hin10 hown hM.1 hZ hP 24 (by decide) (hts (.fieldLink RX7 74 "CellNotebookModel" "keptLast" "[I") (by decide +kernel)) (fun _ h9 => h9) dX7_restore_84 ?_
        refine lv_bipush (v := 16) hx hb dX7_restore_87 (by decide) ?_
        refine lv_iload_n hx hb dX7_restore_89 rfl (lv_at hl 1 rfl) ?_
        refine lv_imul hx hb dX7_restore_90 ?_
        refine lv_iload_n hx hb dX7_restore_91 rfl (lv_at hl 2 rfl) ?_
        refine lv_iadd hx hb dX7_restore_92 ?_
        obtain ⟨hg219, hd⟩ := m_g_e hd
        refine x_ald hx hb hM.1 hZ hP 24 (by decide) hg219 dX7_restore_93 ?_
        obtain ⟨hg220, hd⟩ := m_g_e hd
        refine x_ast hx hb hM.1 hZ hP hS 8 (by decide) hg220 dX7_restore_94 (fun H locs hP hS => ?_)
        obtain ⟨u221, ew, hd⟩ := m_l_e hd
        have hP : mP G (x_ov Z u221) H := by rw [ew]; exact hP
        refine lv_iinc (v := x2 + 1) (lv' := [(2, .int (x2 + 1)), (0, .ref (Z.2.1)), (1, .int (x1))]) hx hb dX7_restore_95 hl (k := 2) rfl rfl (by decide) rfl (fun ls hl => ?_)
        refine lv_goto (tgt := 72) hx hb dX7_restore_98 (by decide) ?_
        refine W.widen (k := 0) (n := 0) (Nat.le_of_ble_eq_true rfl) (Nat.le_of_ble_eq_true rfl) ?_
        exact ih72 u221 x1 (x2 + 1) _ _ _ hd hP hS (lv_sub hl [1, 2, 0] rfl)
  have J24 : ∀ (n24 : Nat) (u : xS) (x1 : Int32) (x2 : Int32) (H : Heap) (locs : List Loc) (ls : Array Slot), f_X7_restore_24 n24 u x1 x2 = some (r, u') → mP G (x_ov Z u) H → va_S (fun q => G.1 ≤ q) s.heap H locs → lv_has ls 3 [(0, .ref (Z.2.1)), (1, .int (x1)), (2, .int (x2))] → W p l e ({ frames := 1, cells := 0, slots := 0, locals := 23 } : Room) s m ([.ref (Z.2.1), .int (p0)] : List Value).toArray below meth c H locs 0 0 (MQ below (m_Qi G r (x_ov Z u')) ([.ref (Z.2.1), .int (p0)] : List Value).toArray s 0 0 (fun q => G.1 ≤ q)) (F0 m 24 ls []) := by
    intro n24
    induction n24 with
    | zero => intro u x1 x2 H locs ls hd; exact absurd (show (none : Option (Int32 × xS)) = some _ from hd) (fun h => nomatch h)
    | succ n24 ih24 =>
      intro u x1 x2 H locs ls hd hP hS hl
      have hd : f_X7_restore_24_b (f_X7_restore_24 n24) u x1 x2 = some (r, u') := hd
      refine lv_iload_n hx hb dX7_restore_24 rfl (lv_at hl 2 rfl) ?_
      refine lv_bipush (v := 8) hx hb dX7_restore_25 (by decide) ?_
      refine lv_icmp_ge (tgt := 70) hx hb dX7_restore_27 (by decide) (fun c108 => ?_) (fun c108 => ?_)
      · have hd := m_i_t c108 hd
        refine lv_iconst (v := 0) hx hb dX7_restore_70 (by decide) ?_
        refine lv_istore_n (lv' := [(2, .int (0)), (0, .ref (Z.2.1)), (1, .int (x1))]) hx hb dX7_restore_71 rfl hl (by decide) rfl (fun ls hl => ?_)
        refine W.widen (k := 0) (n := 0) (Nat.le_of_ble_eq_true rfl) (Nat.le_of_ble_eq_true rfl) ?_
        exact J72 m_N u x1 0 _ _ _ hd hP hS (lv_sub hl [1, 2, 0] rfl)
      · have hd := m_i_f c108 hd
        refine lv_aload_n hx hb dX7_restore_30 rfl (lv_at hl 0 rfl) ?_
        refine x_getA (own := RX7) (ref := RX7) hx hb hts hin10 hown hM.1 hZ hP 10 (by decide) (hts (.fieldLink RX7 37 "CellNotebookModel" "value" "[I") (by decide +kernel)) (fun _ h9 => h9) dX7_restore_31 ?_
        refine lv_iload_n hx hb dX7_restore_34 rfl (lv_at hl 2 rfl) ?_
        refine lv_aload_n hx hb dX7_restore_35 rfl (lv_at hl 0 rfl) ?_
        refine x_getA (own := RX7) (ref := RX7) hx hb hts hin10 hown hM.1 hZ hP 22 (by decide) (hts (.fieldLink RX7 68 "CellNotebookModel" "keptValue" "[I") (by decide +kernel)) (fun _ h9 => h9) dX7_restore_36 ?_
        refine lv_bipush (v := 8) hx hb dX7_restore_39 (by decide) ?_
        refine lv_iload_n hx hb dX7_restore_41 rfl (lv_at hl 1 rfl) ?_
        refine lv_imul hx hb dX7_restore_42 ?_
        refine lv_iload_n hx hb dX7_restore_43 rfl (lv_at hl 2 rfl) ?_
        refine lv_iadd hx hb dX7_restore_44 ?_
        obtain ⟨hg109, hd⟩ := m_g_e hd
        refine x_ald hx hb hM.1 hZ hP 22 (by decide) hg109 dX7_restore_45 ?_
        obtain ⟨hg110, hd⟩ := m_g_e hd
        refine x_ast hx hb hM.1 hZ hP hS 10 (by decide) hg110 dX7_restore_46 (fun H locs hP hS => ?_)
        obtain ⟨u111, ew, hd⟩ := m_l_e hd
        have hP : mP G (x_ov Z u111) H := by rw [ew]; exact hP
        refine lv_aload_n hx hb dX7_restore_47 rfl (lv_at hl 0 rfl) ?_
        refine x_getA (own := RX7) (ref := RX7) hx hb hts hin10 hown hM.1 hZ hP 11 (by decide) (hts (.fieldLink RX7 40 "CellNotebookModel" "stamp" "[I") (by decide +kernel)) (fun _ h9 => h9) dX7_restore_48 ?_
        refine lv_iload_n hx hb dX7_restore_51 rfl (lv_at hl 2 rfl) ?_
        refine lv_aload_n hx hb dX7_restore_52 rfl (lv_at hl 0 rfl) ?_
        refine x_getA (own := RX7) (ref := RX7) hx hb hts hin10 hown hM.1 hZ hP 23 (by decide) (hts (.fieldLink RX7 71 "CellNotebookModel" "keptStamp" "[I") (by decide +kernel)) (fun _ h9 => h9) dX7_restore_53 ?_
        refine lv_bipush (v := 8) hx hb dX7_restore_56 (by decide) ?_
        refine lv_iload_n hx hb dX7_restore_58 rfl (lv_at hl 1 rfl) ?_
        refine lv_imul hx hb dX7_restore_59 ?_
        refine lv_iload_n hx hb dX7_restore_60 rfl (lv_at hl 2 rfl) ?_
        refine lv_iadd hx hb dX7_restore_61 ?_
        obtain ⟨hg112, hd⟩ := m_g_e hd
        refine x_ald hx hb hM.1 hZ hP 23 (by decide) hg112 dX7_restore_62 ?_
        obtain ⟨hg113, hd⟩ := m_g_e hd
        refine x_ast hx hb hM.1 hZ hP hS 11 (by decide) hg113 dX7_restore_63 (fun H locs hP hS => ?_)
        obtain ⟨u114, ew, hd⟩ := m_l_e hd
        have hP : mP G (x_ov Z u114) H := by rw [ew]; exact hP
        refine lv_iinc (v := x2 + 1) (lv' := [(2, .int (x2 + 1)), (0, .ref (Z.2.1)), (1, .int (x1))]) hx hb dX7_restore_64 hl (k := 2) rfl rfl (by decide) rfl (fun ls hl => ?_)
        refine lv_goto (tgt := 24) hx hb dX7_restore_67 (by decide) ?_
        refine W.widen (k := 0) (n := 0) (Nat.le_of_ble_eq_true rfl) (Nat.le_of_ble_eq_true rfl) ?_
        exact ih24 u114 x1 (x2 + 1) _ _ _ hd hP hS (lv_sub hl [1, 2, 0] rfl)
  have hl := lv_entry ([.ref (Z.2.1), .int (p0)]) (n := 3) (Nat.le_of_ble_eq_true rfl)
  rw [lg_entry_eq]
  generalize (lg_sl ([.ref (Z.2.1), .int (p0)]) ++ List.replicate (3 - (lg_sl ([.ref (Z.2.1), .int (p0)])).length) Slot.unset).toArray = ls at hl ⊢
  have hl : lv_has ls 3 [(0, .ref (Z.2.1)), (1, .int (p0))] := hl
  refine lv_aload_n hx hb dX7_restore_0 rfl (lv_at hl 0 rfl) ?_
  refine lv_iload_n hx hb dX7_restore_1 rfl (lv_at hl 1 rfl) ?_
  refine lv_iconst (v := 0) hx hb dX7_restore_2 (by decide) ?_
  refine lv_aload_n hx hb dX7_restore_3 rfl (lv_at hl 0 rfl) ?_
  refine x_getI (own := RX7) (ref := RX7) hx hb hts hin10 hown hM.1 hZ hP 21 (by decide) (hts (.fieldLink RX7 193 "CellNotebookModel" "images" "I") (by decide +kernel)) (fun _ h9 => h9) dX7_restore_4 ?_
  refine lv_iconst (v := 1) hx hb dX7_restore_7 (by decide) ?_
  refine lv_isub hx hb dX7_restore_8 ?_
  obtain ⟨r1, u2, hc3, hd⟩ := m_b_e hd
  refine m_calli (k := 0) (n := 0) (va_runS (As := [.int (p0), .int (0), .int ((u.1 21) - 1)]) (rest := [.ref (Z.2.1)]) ⟨hx, hb, hml, hown, hts⟩ (c_X7_in l G Z hZ u u2 p0 0 ((u.1 21) - 1) r1 hc3) (va_cwS 3 hts gX7_restore_X7_in rfl rfl rfl (by decide +kernel) ⟨(Nat.le_of_ble_eq_true rfl), (Nat.le_of_ble_eq_true rfl)⟩) (m_preS hM hP hS) rfl rfl hl.1 rfl (lv_room (Nat.le_of_ble_eq_true rfl)) dX7_restore_9 ⟨(Nat.le_of_ble_eq_true rfl), (Nat.le_of_ble_eq_true rfl)⟩) hS ⟨(Nat.le_of_ble_eq_true rfl), (Nat.le_of_ble_eq_true rfl)⟩ (fun H locs hP hS => ?_)
  refine lv_iconst (v := 1) hx hb dX7_restore_12 (by decide) ?_
  refine lv_iconst (v := 1) hx hb dX7_restore_13 (by decide) ?_
  obtain ⟨r4, u5, hc6, hd⟩ := m_b_e hd
  refine m_calli (k := 0) (n := 0) (va_runV (As := [.int (r1), .int (1), .int (1)]) (rest := []) ⟨hx, hb, hml, hown, hts⟩ (c_X7_goes l G Z hZ u2 u5 r1 1 1 r4 hc6) (cwV 3 hts gX7_restore_X7_goes rfl rfl rfl (by decide +kernel) ⟨(Nat.le_of_ble_eq_true rfl), (Nat.le_of_ble_eq_true rfl)⟩) (m_preV (C := RX7) (T := TX7) (N := 32) hM hP hS rfl (by decide) hZ.1) rfl rfl hl.1 rfl (lv_room (Nat.le_of_ble_eq_true rfl)) dX7_restore_14 ⟨(Nat.le_of_ble_eq_true rfl), (Nat.le_of_ble_eq_true rfl)⟩) hS ⟨(Nat.le_of_ble_eq_true rfl), (Nat.le_of_ble_eq_true rfl)⟩ (fun H locs hP hS => ?_)
  refine lv_if_ne (tgt := 22) hx hb dX7_restore_17 (by decide) (fun c7 => ?_) (fun c7 => ?_)
  · have hd := m_i_f c7 hd
    refine lv_iconst (v := 0) hx hb dX7_restore_22 (by decide) ?_
    refine lv_istore_n (lv' := [(2, .int (0)), (0, .ref (Z.2.1)), (1, .int (p0))]) hx hb dX7_restore_23 rfl hl (by decide) rfl (fun ls hl => ?_)
    refine W.widen (k := 0) (n := 0) (Nat.le_of_ble_eq_true rfl) (Nat.le_of_ble_eq_true rfl) ?_
    exact J24 m_N u5 p0 0 _ _ _ hd hP hS (lv_sub hl [1, 2, 0] rfl)
  · have hd := m_i_t c7 hd
    refine lv_iconst (v := 0) hx hb dX7_restore_20 (by decide) ?_
    obtain ⟨e1, e2⟩ := m_s_e hd
    have e2 := congrArg (x_ov Z) e2
    refine W.widen (k := 0) (n := 0) (Nat.le_of_ble_eq_true rfl) (Nat.le_of_ble_eq_true rfl) ?_
    exact W.iret hx hb hr (fun t ht hW => ⟨⟨_, (x_ov Z u5), rfl, ⟨e1, e2⟩, by show mP _ _ t.heap; rw [ht]; exact hP⟩, hS.F ht⟩) hS.2.2 dX7_restore_21


noncomputable def f_X7_end_7_b (k7 : xS → Int32 → Int32 → Option (Int32 × xS)) (u : xS) (x1 : Int32) (x2 : Int32) : Option (Int32 × xS) := if 8 ≤ x2 then (m_b (f_X7_told u x1) fun r105 u106 => some (r105, u106)) else (m_g (¬ (x2 < 0 ∨ 8 ≤ x2.toNatClampNeg)) <| m_l (x_sA u 11 (x2.toNatClampNeg) 0) fun u109 => k7 u109 x1 (x2 + 1))
noncomputable def f_X7_end_7 (n : Nat) : xS → Int32 → Int32 → Option (Int32 × xS) := Nat.rec (motive := fun _ => xS → Int32 → Int32 → Option (Int32 × xS)) (fun _ _ _ => none) (fun _ k => f_X7_end_7_b  k) n
noncomputable def f_X7_end (u : xS)  : Option (Int32 × xS) := m_b (f_X7_setOnes u) fun r1 u2 => f_X7_end_7 m_N u2 r1 0
set_option maxHeartbeats 1000000 in
set_option maxRecDepth 100000 in
theorem c_X7_end (l : Launch) (G : m_G) (Z : xB) (hZ : x_ok Z) (u u' : xS)  (r : Int32) (hd : f_X7_end u = some (r, u')) : Met l yX7_end wsX7_end ({ frames := 1, cells := 0, slots := 0, locals := 22 } : Room) (m_Pc G (x_ov Z u) [.ref (Z.2.1)]) (m_Qi G r (x_ov Z u')) 0 0 (fun q => G.1 ≤ q) := by
  refine Met.ofW (cc := cX7_end) (maxL := 3) (ret := (some .int)) (by decide +kernel) rfl ?_
  intro p e s m args below meth c s₁ B hml hv
  obtain ⟨rfl, hM, hP⟩ := hv
  have hx := B.exec
  have hb := B.bytes
  have hr := B.returns
  have hts := atoms_spec (ws := wsX7_end) B.pre
  have hown : s.vm.findClass RX7 = some m.cls := findClass_of_methodNamed B.named
  have hlocks := B.notSynchronized
  have hin10 : ∀ w ∈ u_ws RX7 TX7 32, w ∈ wsX7_end := by decide +kernel
  have hS : va_S (fun q => G.1 ≤ q) s.heap s.heap [] := va_S.rf
  have J7 : ∀ (n7 : Nat) (u : xS) (x1 : Int32) (x2 : Int32) (H : Heap) (locs : List Loc) (ls : Array Slot), f_X7_end_7 n7 u x1 x2 = some (r, u') → mP G (x_ov Z u) H → va_S (fun q => G.1 ≤ q) s.heap H locs → lv_has ls 3 [(0, .ref (Z.2.1)), (1, .int (x1)), (2, .int (x2))] → W p l e ({ frames := 1, cells := 0, slots := 0, locals := 22 } : Room) s m ([.ref (Z.2.1)] : List Value).toArray below meth c H locs 0 0 (MQ below (m_Qi G r (x_ov Z u')) ([.ref (Z.2.1)] : List Value).toArray s 0 0 (fun q => G.1 ≤ q)) (F0 m 7 ls []) := by
    intro n7
    induction n7 with
    | zero => intro u x1 x2 H locs ls hd; exact absurd (show (none : Option (Int32 × xS)) = some _ from hd) (fun h => nomatch h)
    | succ n7 ih7 =>
      intro u x1 x2 H locs ls hd hP hS hl
      have hd : f_X7_end_7_b (f_X7_end_7 n7) u x1 x2 = some (r, u') := hd
      refine lv_iload_n hx hb dX7_end_7 rfl (lv_at hl 2 rfl) ?_
      refine lv_bipush (v := 8) hx hb dX7_end_8 (by decide) ?_
      refine lv_icmp_ge (tgt := 26) hx hb dX7_end_10 (by decide) (fun c104 => ?_) (fun c104 => ?_)
      · have hd := m_i_t c104 hd
        refine lv_aload_n hx hb dX7_end_26 rfl (lv_at hl 0 rfl) ?_
        refine lv_iload_n hx hb dX7_end_27 rfl (lv_at hl 1 rfl) ?_
        obtain ⟨r105, u106, hc107, hd⟩ := m_b_e hd
        refine m_calli (k := 0) (n := 0) (va_runV (As := [.int (x1)]) (rest := []) ⟨hx, hb, hml, hown, hts⟩ (c_X7_told l G Z hZ u u106 x1 r105 hc107) (cwV 1 hts gX7_end_X7_told rfl rfl rfl (by decide +kernel) ⟨(Nat.le_of_ble_eq_true rfl), (Nat.le_of_ble_eq_true rfl)⟩) (m_preV (C := RX7) (T := TX7) (N := 32) hM hP hS rfl (by decide) hZ.1) rfl rfl hl.1 rfl (lv_room (Nat.le_of_ble_eq_true rfl)) dX7_end_28 ⟨(Nat.le_of_ble_eq_true rfl), (Nat.le_of_ble_eq_true rfl)⟩) hS ⟨(Nat.le_of_ble_eq_true rfl), (Nat.le_of_ble_eq_true rfl)⟩ (fun H locs hP hS => ?_)
        obtain ⟨e1, e2⟩ := m_s_e hd
        have e2 := congrArg (x_ov Z) e2
        refine W.widen (k := 0) (n := 0) (Nat.le_of_ble_eq_true rfl) (Nat.le_of_ble_eq_true rfl) ?_
        exact W.iret hx hb hr (fun t ht hW => ⟨⟨_, (x_ov Z u106), rfl, ⟨e1, e2⟩, by show mP _ _ t.heap; rw [ht]; exact hP⟩, hS.F ht⟩) hS.2.2 dX7_end_31
      · have hd := m_i_f c104 hd
        refine lv_aload_n hx hb dX7_end_13 rfl (lv_at hl 0 rfl) ?_
        refine x_getA (own := RX7) (ref := RX7) hx hb hts hin10 hown hM.1 hZ hP 11 (by decide) (hts (.fieldLink RX7 40 "CellNotebookModel" "stamp" "[I") (by decide +kernel)) (fun _ h9 => h9) dX7_end_14 ?_
        refine lv_iload_n hx hb dX7_end_17 rfl (lv_at hl 2 rfl) ?_
        refine lv_iconst (v := 0) hx hb dX7_end_18 (by decide) ?_
        obtain ⟨hg108, hd⟩ := m_g_e hd
        refine x_ast hx hb hM.1 hZ hP hS 11 (by decide) hg108 dX7_end_19 (fun H locs hP hS => ?_)
        obtain ⟨u109, ew, hd⟩ := m_l_e hd
        have hP : mP G (x_ov Z u109) H := by rw [ew]; exact hP
        refine lv_iinc (v := x2 + 1) (lv' := [(2, .int (x2 + 1)), (0, .ref (Z.2.1)), (1, .int (x1))]) hx hb dX7_end_20 hl (k := 2) rfl rfl (by decide) rfl (fun ls hl => ?_)
        refine lv_goto (tgt := 7) hx hb dX7_end_23 (by decide) ?_
        refine W.widen (k := 0) (n := 0) (Nat.le_of_ble_eq_true rfl) (Nat.le_of_ble_eq_true rfl) ?_
        exact ih7 u109 x1 (x2 + 1) _ _ _ hd hP hS (lv_sub hl [1, 2, 0] rfl)
  have hl := lv_entry ([.ref (Z.2.1)]) (n := 3) (Nat.le_of_ble_eq_true rfl)
  rw [lg_entry_eq]
  generalize (lg_sl ([.ref (Z.2.1)]) ++ List.replicate (3 - (lg_sl ([.ref (Z.2.1)])).length) Slot.unset).toArray = ls at hl ⊢
  have hl : lv_has ls 3 [(0, .ref (Z.2.1))] := hl
  refine lv_aload_n hx hb dX7_end_0 rfl (lv_at hl 0 rfl) ?_
  obtain ⟨r1, u2, hc3, hd⟩ := m_b_e hd
  refine m_calli (k := 0) (n := 0) (va_runV (As := []) (rest := []) ⟨hx, hb, hml, hown, hts⟩ (c_X7_setOnes l G Z hZ u u2  r1 hc3) (cwV 0 hts gX7_end_X7_setOnes rfl rfl rfl (by decide +kernel) ⟨(Nat.le_of_ble_eq_true rfl), (Nat.le_of_ble_eq_true rfl)⟩) (m_preV (C := RX7) (T := TX7) (N := 32) hM hP hS rfl (by decide) hZ.1) rfl rfl hl.1 rfl (lv_room (Nat.le_of_ble_eq_true rfl)) dX7_end_1 ⟨(Nat.le_of_ble_eq_true rfl), (Nat.le_of_ble_eq_true rfl)⟩) hS ⟨(Nat.le_of_ble_eq_true rfl), (Nat.le_of_ble_eq_true rfl)⟩ (fun H locs hP hS => ?_)
  refine lv_istore_n (lv' := [(1, .int (r1)), (0, .ref (Z.2.1))]) hx hb dX7_end_4 rfl hl (by decide) rfl (fun ls hl => ?_)
  refine lv_iconst (v := 0) hx hb dX7_end_5 (by decide) ?_
  refine lv_istore_n (lv' := [(2, .int (0)), (1, .int (r1)), (0, .ref (Z.2.1))]) hx hb dX7_end_6 rfl hl (by decide) rfl (fun ls hl => ?_)
  refine W.widen (k := 0) (n := 0) (Nat.le_of_ble_eq_true rfl) (Nat.le_of_ble_eq_true rfl) ?_
  exact J7 m_N u2 r1 0 _ _ _ hd hP hS (lv_sub hl [2, 1, 0] rfl)


noncomputable def f_X7_doesAllApart_62 (u : xS) (x2 : Int32) : Option (Int32 × xS) := m_g (vp_nar .boolean x2 = x2) <| some (x2, u)
noncomputable def f_X7_doesAllApart_34_b (k34 : xS → Int32 → Int32 → Option (Int32 × xS)) (u : xS) (x2 : Int32) (x3 : Int32) : Option (Int32 × xS) := if 8 ≤ x3 then (f_X7_doesAllApart_62 u x2) else (if x2 = (0 : Int32) then (m_g (¬ (x3 < 0 ∨ 3208 ≤ x3.toNatClampNeg)) <| m_g (¬ (x3 < 0 ∨ 8 ≤ x3.toNatClampNeg)) <| m_l (x_sA u 25 (x3.toNatClampNeg) (u.2 20 x3.toNatClampNeg)) fun u212 => k34 u212 x2 (x3 + 1)) else (f_X7_doesAllApart_62 u x2))
noncomputable def f_X7_doesAllApart_34 (n : Nat) : xS → Int32 → Int32 → Option (Int32 × xS) := Nat.rec (motive := fun _ => xS → Int32 → Int32 → Option (Int32 × xS)) (fun _ _ _ => none) (fun _ k => f_X7_doesAllApart_34_b  k) n
noncomputable def f_X7_doesAllApart_2_b (k2 : xS → Int32 → Int32 → Option (Int32 × xS)) (u : xS) (x1 : Int32) (x2 : Int32) : Option (Int32 × xS) := if 8 ≤ x2 then (m_b (f_X7_doesAll u x1) fun r102 u103 => f_X7_doesAllApart_34 m_N u103 r102 0) else (m_g (¬ (x2 < 0 ∨ 8 ≤ x2.toNatClampNeg)) <| m_g (¬ (x2 < 0 ∨ 3208 ≤ x2.toNatClampNeg)) <| m_l (x_sA u 20 (x2.toNatClampNeg) (u.2 25 x2.toNatClampNeg)) fun u107 => k2 u107 x1 (x2 + 1))
noncomputable def f_X7_doesAllApart_2 (n : Nat) : xS → Int32 → Int32 → Option (Int32 × xS) := Nat.rec (motive := fun _ => xS → Int32 → Int32 → Option (Int32 × xS)) (fun _ _ _ => none) (fun _ k => f_X7_doesAllApart_2_b  k) n
noncomputable def f_X7_doesAllApart (u : xS) (p0 : Int32) : Option (Int32 × xS) := f_X7_doesAllApart_2 m_N u p0 0
set_option maxHeartbeats 1000000 in
set_option maxRecDepth 100000 in
theorem c_X7_doesAllApart (l : Launch) (G : m_G) (Z : xB) (hZ : x_ok Z) (u u' : xS) (p0 : Int32) (r : Int32) (hd : f_X7_doesAllApart u p0 = some (r, u')) : Met l yX7_doesAllApart wsX7_doesAllApart ({ frames := 5, cells := 0, slots := 0, locals := 114 } : Room) (m_Pc G (x_ov Z u) [.ref (Z.2.1), .int (p0)]) (m_Qi G r (x_ov Z u')) 0 0 (fun q => G.1 ≤ q) := by
  refine Met.ofW (cc := cX7_doesAllApart) (maxL := 4) (ret := (some .boolean)) (by decide +kernel) rfl ?_
  intro p e s m args below meth c s₁ B hml hv
  obtain ⟨rfl, hM, hP⟩ := hv
  have hx := B.exec
  have hb := B.bytes
  have hr := B.returns
  have hts := atoms_spec (ws := wsX7_doesAllApart) B.pre
  have hown : s.vm.findClass RX7 = some m.cls := findClass_of_methodNamed B.named
  have hlocks := B.notSynchronized
  have hin10 : ∀ w ∈ u_ws RX7 TX7 32, w ∈ wsX7_doesAllApart := by decide +kernel
  have hS : va_S (fun q => G.1 ≤ q) s.heap s.heap [] := va_S.rf
  have J62 : ∀ (u : xS) (x2 : Int32) (H : Heap) (locs : List Loc) (ls : Array Slot), f_X7_doesAllApart_62 u x2 = some (r, u') → mP G (x_ov Z u) H → va_S (fun q => G.1 ≤ q) s.heap H locs → lv_has ls 4 [(2, .int (x2))] → W p l e ({ frames := 5, cells := 0, slots := 0, locals := 114 } : Room) s m ([.ref (Z.2.1), .int (p0)] : List Value).toArray below meth c H locs 0 0 (MQ below (m_Qi G r (x_ov Z u')) ([.ref (Z.2.1), .int (p0)] : List Value).toArray s 0 0 (fun q => G.1 ≤ q)) (F0 m 62 ls []) := by
    intro u x2 H locs ls hd hP hS hl
    refine lv_iload_n hx hb dX7_doesAllApart_62 rfl (lv_at hl 0 rfl) ?_
    obtain ⟨hn313, hd⟩ := m_g_e hd
    obtain ⟨e1, e2⟩ := m_s_e hd
    have e2 := congrArg (x_ov Z) e2
    refine W.widen (k := 0) (n := 0) (Nat.le_of_ble_eq_true rfl) (Nat.le_of_ble_eq_true rfl) ?_
    exact W.zret hx hb hr (m_narZ hn313).1 (fun t ht hW => ⟨⟨_, (x_ov Z u), rfl, ⟨e1, e2⟩, by show mP _ _ t.heap; rw [ht]; exact hP⟩, hS.F ht⟩) hS.2.2 dX7_doesAllApart_63
  have J34 : ∀ (n34 : Nat) (u : xS) (x2 : Int32) (x3 : Int32) (H : Heap) (locs : List Loc) (ls : Array Slot), f_X7_doesAllApart_34 n34 u x2 x3 = some (r, u') → mP G (x_ov Z u) H → va_S (fun q => G.1 ≤ q) s.heap H locs → lv_has ls 4 [(0, .ref (Z.2.1)), (2, .int (x2)), (3, .int (x3))] → W p l e ({ frames := 5, cells := 0, slots := 0, locals := 114 } : Room) s m ([.ref (Z.2.1), .int (p0)] : List Value).toArray below meth c H locs 0 0 (MQ below (m_Qi G r (x_ov Z u')) ([.ref (Z.2.1), .int (p0)] : List Value).toArray s 0 0 (fun q => G.1 ≤ q)) (F0 m 34 ls []) := by
    intro n34
    induction n34 with
    | zero => intro u x2 x3 H locs ls hd; exact absurd (show (none : Option (Int32 × xS)) = some _ from hd) (fun h => nomatch h)
    | succ n34 ih34 =>
      intro u x2 x3 H locs ls hd hP hS hl
      have hd : f_X7_doesAllApart_34_b (f_X7_doesAllApart_34 n34) u x2 x3 = some (r, u') := hd
      refine lv_iload_n hx hb dX7_doesAllApart_34 rfl (lv_at hl 2 rfl) ?_
      refine lv_bipush (v := 8) hx hb dX7_doesAllApart_35 (by decide) ?_
      refine lv_icmp_ge (tgt := 62) hx hb dX7_doesAllApart_37 (by decide) (fun c208 => ?_) (fun c208 => ?_)
      · have hd := m_i_t c208 hd
        refine W.widen (k := 0) (n := 0) (Nat.le_of_ble_eq_true rfl) (Nat.le_of_ble_eq_true rfl) ?_
        exact J62 u x2 _ _ _ hd hP hS (lv_sub hl [1] rfl)
      · have hd := m_i_f c208 hd
        refine lv_iload_n hx hb dX7_doesAllApart_40 rfl (lv_at hl 1 rfl) ?_
        refine lv_if_ne (tgt := 62) hx hb dX7_doesAllApart_41 (by decide) (fun c209 => ?_) (fun c209 => ?_)
        · have hd := m_i_f c209 hd
          refine W.widen (k := 0) (n := 0) (Nat.le_of_ble_eq_true rfl) (Nat.le_of_ble_eq_true rfl) ?_
          exact J62 u x2 _ _ _ hd hP hS (lv_sub hl [1] rfl)
        · have hd := m_i_t c209 hd
          refine lv_aload_n hx hb dX7_doesAllApart_44 rfl (lv_at hl 0 rfl) ?_
          refine x_getA (own := RX7) (ref := RX7) hx hb hts hin10 hown hM.1 hZ hP 25 (by decide) (hts (.fieldLink RX7 77 "CellNotebookModel" "now" "[I") (by decide +kernel)) (fun _ h9 => h9) dX7_doesAllApart_45 ?_
          refine lv_iload_n hx hb dX7_doesAllApart_48 rfl (lv_at hl 2 rfl) ?_
          refine lv_aload_n hx hb dX7_doesAllApart_49 rfl (lv_at hl 0 rfl) ?_
          refine x_getA (own := RX7) (ref := RX7) hx hb hts hin10 hown hM.1 hZ hP 20 (by decide) (hts (.fieldLink RX7 65 "CellNotebookModel" "stamps" "[I") (by decide +kernel)) (fun _ h9 => h9) dX7_doesAllApart_50 ?_
          refine lv_iload_n hx hb dX7_doesAllApart_53 rfl (lv_at hl 2 rfl) ?_
          obtain ⟨hg210, hd⟩ := m_g_e hd
          refine x_ald hx hb hM.1 hZ hP 20 (by decide) hg210 dX7_doesAllApart_54 ?_
          obtain ⟨hg211, hd⟩ := m_g_e hd
          refine x_ast hx hb hM.1 hZ hP hS 25 (by decide) hg211 dX7_doesAllApart_55 (fun H locs hP hS => ?_)
          obtain ⟨u212, ew, hd⟩ := m_l_e hd
          have hP : mP G (x_ov Z u212) H := by rw [ew]; exact hP
          refine lv_iinc (v := x3 + 1) (lv' := [(3, .int (x3 + 1)), (0, .ref (Z.2.1)), (2, .int (x2))]) hx hb dX7_doesAllApart_56 hl (k := 2) rfl rfl (by decide) rfl (fun ls hl => ?_)
          refine lv_goto (tgt := 34) hx hb dX7_doesAllApart_59 (by decide) ?_
          refine W.widen (k := 0) (n := 0) (Nat.le_of_ble_eq_true rfl) (Nat.le_of_ble_eq_true rfl) ?_
          exact ih34 u212 x2 (x3 + 1) _ _ _ hd hP hS (lv_sub hl [1, 2, 0] rfl)
  have J2 : ∀ (n2 : Nat) (u : xS) (x1 : Int32) (x2 : Int32) (H : Heap) (locs : List Loc) (ls : Array Slot), f_X7_doesAllApart_2 n2 u x1 x2 = some (r, u') → mP G (x_ov Z u) H → va_S (fun q => G.1 ≤ q) s.heap H locs → lv_has ls 4 [(0, .ref (Z.2.1)), (1, .int (x1)), (2, .int (x2))] → W p l e ({ frames := 5, cells := 0, slots := 0, locals := 114 } : Room) s m ([.ref (Z.2.1), .int (p0)] : List Value).toArray below meth c H locs 0 0 (MQ below (m_Qi G r (x_ov Z u')) ([.ref (Z.2.1), .int (p0)] : List Value).toArray s 0 0 (fun q => G.1 ≤ q)) (F0 m 2 ls []) := by
    intro n2
    induction n2 with
    | zero => intro u x1 x2 H locs ls hd; exact absurd (show (none : Option (Int32 × xS)) = some _ from hd) (fun h => nomatch h)
    | succ n2 ih2 =>
      intro u x1 x2 H locs ls hd hP hS hl
      have hd : f_X7_doesAllApart_2_b (f_X7_doesAllApart_2 n2) u x1 x2 = some (r, u') := hd
      refine lv_iload_n hx hb dX7_doesAllApart_2 rfl (lv_at hl 2 rfl) ?_
      refine lv_bipush (v := 8) hx hb dX7_doesAllApart_3 (by decide) ?_
      refine lv_icmp_ge (tgt := 26) hx hb dX7_doesAllApart_5 (by decide) (fun c101 => ?_) (fun c101 => ?_)
      · have hd := m_i_t c101 hd
        refine lv_aload_n hx hb dX7_doesAllApart_26 rfl (lv_at hl 0 rfl) ?_
        refine lv_iload_n hx hb dX7_doesAllApart_27 rfl (lv_at hl 1 rfl) ?_
        obtain ⟨r102, u103, hc104, hd⟩ := m_b_e hd
        refine m_calli (k := 0) (n := 0) (va_runV (As := [.int (x1)]) (rest := []) ⟨hx, hb, hml, hown, hts⟩ (c_X7_doesAll l G Z hZ u u103 x1 r102 hc104) (cwV 1 hts gX7_doesAllApart_X7_doesAll rfl rfl rfl (by decide +kernel) ⟨(Nat.le_of_ble_eq_true rfl), (Nat.le_of_ble_eq_true rfl)⟩) (m_preV (C := RX7) (T := TX7) (N := 32) hM hP hS rfl (by decide) hZ.1) rfl rfl hl.1 rfl (lv_room (Nat.le_of_ble_eq_true rfl)) dX7_doesAllApart_28 ⟨(Nat.le_of_ble_eq_true rfl), (Nat.le_of_ble_eq_true rfl)⟩) hS ⟨(Nat.le_of_ble_eq_true rfl), (Nat.le_of_ble_eq_true rfl)⟩ (fun H locs hP hS => ?_)
        refine lv_istore_n (lv' := [(2, .int (r102)), (0, .ref (Z.2.1)), (1, .int (x1))]) hx hb dX7_doesAllApart_31 rfl hl (by decide) rfl (fun ls hl => ?_)
        refine lv_iconst (v := 0) hx hb dX7_doesAllApart_32 (by decide) ?_
        refine lv_istore_n (lv' := [(3, .int (0)), (2, .int (r102)), (0, .ref (Z.2.1)), (1, .int (x1))]) hx hb dX7_doesAllApart_33 rfl hl (by decide) rfl (fun ls hl => ?_)
        refine W.widen (k := 0) (n := 0) (Nat.le_of_ble_eq_true rfl) (Nat.le_of_ble_eq_true rfl) ?_
        exact J34 m_N u103 r102 0 _ _ _ hd hP hS (lv_sub hl [2, 1, 0] rfl)
      · have hd := m_i_f c101 hd
        refine lv_aload_n hx hb dX7_doesAllApart_8 rfl (lv_at hl 0 rfl) ?_
        refine x_getA (own := RX7) (ref := RX7) hx hb hts hin10 hown hM.1 hZ hP 20 (by decide) (hts (.fieldLink RX7 65 "CellNotebookModel" "stamps" "[I") (by decide +kernel)) (fun _ h9 => h9) dX7_doesAllApart_9 ?_
        refine lv_iload_n hx hb dX7_doesAllApart_12 rfl (lv_at hl 2 rfl) ?_
        refine lv_aload_n hx hb dX7_doesAllApart_13 rfl (lv_at hl 0 rfl) ?_
        refine x_getA (own := RX7) (ref := RX7) hx hb hts hin10 hown hM.1 hZ hP 25 (by decide) (hts (.fieldLink RX7 77 "CellNotebookModel" "now" "[I") (by decide +kernel)) (fun _ h9 => h9) dX7_doesAllApart_14 ?_
        refine lv_iload_n hx hb dX7_doesAllApart_17 rfl (lv_at hl 2 rfl) ?_
        obtain ⟨hg105, hd⟩ := m_g_e hd
        refine x_ald hx hb hM.1 hZ hP 25 (by decide) hg105 dX7_doesAllApart_18 ?_
        obtain ⟨hg106, hd⟩ := m_g_e hd
        refine x_ast hx hb hM.1 hZ hP hS 20 (by decide) hg106 dX7_doesAllApart_19 (fun H locs hP hS => ?_)
        obtain ⟨u107, ew, hd⟩ := m_l_e hd
        have hP : mP G (x_ov Z u107) H := by rw [ew]; exact hP
        refine lv_iinc (v := x2 + 1) (lv' := [(2, .int (x2 + 1)), (0, .ref (Z.2.1)), (1, .int (x1))]) hx hb dX7_doesAllApart_20 hl (k := 2) rfl rfl (by decide) rfl (fun ls hl => ?_)
        refine lv_goto (tgt := 2) hx hb dX7_doesAllApart_23 (by decide) ?_
        refine W.widen (k := 0) (n := 0) (Nat.le_of_ble_eq_true rfl) (Nat.le_of_ble_eq_true rfl) ?_
        exact ih2 u107 x1 (x2 + 1) _ _ _ hd hP hS (lv_sub hl [1, 2, 0] rfl)
  have hl := lv_entry ([.ref (Z.2.1), .int (p0)]) (n := 4) (Nat.le_of_ble_eq_true rfl)
  rw [lg_entry_eq]
  generalize (lg_sl ([.ref (Z.2.1), .int (p0)]) ++ List.replicate (4 - (lg_sl ([.ref (Z.2.1), .int (p0)])).length) Slot.unset).toArray = ls at hl ⊢
  have hl : lv_has ls 4 [(0, .ref (Z.2.1)), (1, .int (p0))] := hl
  refine lv_iconst (v := 0) hx hb dX7_doesAllApart_0 (by decide) ?_
  refine lv_istore_n (lv' := [(2, .int (0)), (0, .ref (Z.2.1)), (1, .int (p0))]) hx hb dX7_doesAllApart_1 rfl hl (by decide) rfl (fun ls hl => ?_)
  refine W.widen (k := 0) (n := 0) (Nat.le_of_ble_eq_true rfl) (Nat.le_of_ble_eq_true rfl) ?_
  exact J2 m_N u p0 0 _ _ _ hd hP hS (lv_sub hl [1, 2, 0] rfl)


noncomputable def f_X7_goesThrough_46 (k7 : xS → Int32 → Option (Unit × xS)) (u : xS) (x1 : Int32) (s0 : Int32) : Option (Unit × xS) := m_l (x_sI u 26 s0) fun u208 => k7 u208 (x1 + 1)
noncomputable def f_X7_goesThrough_7_b (k7 : xS → Int32 → Option (Unit × xS)) (u : xS) (x1 : Int32) : Option (Unit × xS) := if (u.1 0) ≤ x1 then (some ((), u)) else (m_g (¬ (x1 < 0 ∨ 16 ≤ x1.toNatClampNeg)) <| m_b (f_X7_doesAllApart u (u.2 1 x1.toNatClampNeg)) fun r104 u105 => if r104 = (0 : Int32) then (f_X7_goesThrough_46 k7 u105 x1 (u.1 26)) else (f_X7_goesThrough_46 k7 u105 x1 ((u.1 26) ||| (u105.1 27))))
noncomputable def f_X7_goesThrough_7 (n : Nat) : xS → Int32 → Option (Unit × xS) := Nat.rec (motive := fun _ => xS → Int32 → Option (Unit × xS)) (fun _ _ => none) (fun _ k => f_X7_goesThrough_7_b  k) n
noncomputable def f_X7_goesThrough (u : xS)  : Option (Unit × xS) := m_l (x_sI u 26 0) fun u1 => f_X7_goesThrough_7 m_N u1 0
set_option maxHeartbeats 1000000 in
set_option maxRecDepth 100000 in
theorem c_X7_goesThrough (l : Launch) (G : m_G) (Z : xB) (hZ : x_ok Z) (u u' : xS)  (r : Unit) (hd : f_X7_goesThrough u = some (r, u')) : Met l yX7_goesThrough wsX7_goesThrough ({ frames := 6, cells := 0, slots := 0, locals := 137 } : Room) (m_Pc G (x_ov Z u) [.ref (Z.2.1)]) (m_Qv G r (x_ov Z u')) 0 0 (fun q => G.1 ≤ q) := by
  refine Met.ofW (cc := cX7_goesThrough) (maxL := 4) (ret := none) (by decide +kernel) rfl ?_
  intro p e s m args below meth c s₁ B hml hv
  obtain ⟨rfl, hM, hP⟩ := hv
  have hx := B.exec
  have hb := B.bytes
  have hr := B.returns
  have hts := atoms_spec (ws := wsX7_goesThrough) B.pre
  have hown : s.vm.findClass RX7 = some m.cls := findClass_of_methodNamed B.named
  have hlocks := B.notSynchronized
  have hin10 : ∀ w ∈ u_ws RX7 TX7 32, w ∈ wsX7_goesThrough := by decide +kernel
  have hS : va_S (fun q => G.1 ≤ q) s.heap s.heap [] := va_S.rf
  have J7 : ∀ (n7 : Nat) (u : xS) (x1 : Int32) (H : Heap) (locs : List Loc) (ls : Array Slot), f_X7_goesThrough_7 n7 u x1 = some (r, u') → mP G (x_ov Z u) H → va_S (fun q => G.1 ≤ q) s.heap H locs → lv_has ls 4 [(0, .ref (Z.2.1)), (1, .int (x1))] → W p l e ({ frames := 6, cells := 0, slots := 0, locals := 137 } : Room) s m ([.ref (Z.2.1)] : List Value).toArray below meth c H locs 0 0 (MQ below (m_Qv G r (x_ov Z u')) ([.ref (Z.2.1)] : List Value).toArray s 0 0 (fun q => G.1 ≤ q)) (F0 m 7 ls []) := by
    intro n7
    induction n7 with
    | zero => intro u x1 H locs ls hd; exact absurd (show (none : Option (Unit × xS)) = some _ from hd) (fun h => nomatch h)
    | succ n7 ih7 =>
      have J46 : ∀ (u : xS) (x1 : Int32) (s0 : Int32) (H : Heap) (locs : List Loc) (ls : Array Slot), f_X7_goesThrough_46 (f_X7_goesThrough_7 n7) u x1 s0 = some (r, u') → mP G (x_ov Z u) H → va_S (fun q => G.1 ≤ q) s.heap H locs → lv_has ls 4 [(0, .ref (Z.2.1)), (1, .int (x1))] → W p l e ({ frames := 6, cells := 0, slots := 0, locals := 137 } : Room) s m ([.ref (Z.2.1)] : List Value).toArray below meth c H locs 0 0 (MQ below (m_Qv G r (x_ov Z u')) ([.ref (Z.2.1)] : List Value).toArray s 0 0 (fun q => G.1 ≤ q)) (F0 m 46 ls [.int (s0), .ref (Z.2.1)]) := by
        intro u x1 s0 H locs ls hd hP hS hl
        refine x_putI (own := RX7) (ref := RX7) hx hb hts hin10 hown hM.1 hZ hP hS 26 (by decide) (hts (.fieldLink RX7 152 "CellNotebookModel" "there" "I") (by decide +kernel)) (fun _ h9 => h9) dX7_goesThrough_46 (fun H locs hP hS => ?_)
        obtain ⟨u208, ew, hd⟩ := m_l_e hd
        have hP : mP G (x_ov Z u208) H := by rw [ew]; exact hP
        refine lv_iinc (v := x1 + 1) (lv' := [(1, .int (x1 + 1)), (0, .ref (Z.2.1))]) hx hb dX7_goesThrough_49 hl (k := 1) rfl rfl (by decide) rfl (fun ls hl => ?_)
        refine lv_goto (tgt := 7) hx hb dX7_goesThrough_52 (by decide) ?_
        refine W.widen (k := 0) (n := 0) (Nat.le_of_ble_eq_true rfl) (Nat.le_of_ble_eq_true rfl) ?_
        exact ih7 u208 (x1 + 1) _ _ _ hd hP hS (lv_sub hl [1, 0] rfl)
      intro u x1 H locs ls hd hP hS hl
      have hd : f_X7_goesThrough_7_b (f_X7_goesThrough_7 n7) u x1 = some (r, u') := hd
      refine lv_iload_n hx hb dX7_goesThrough_7 rfl (lv_at hl 1 rfl) ?_
      refine lv_aload_n hx hb dX7_goesThrough_8 rfl (lv_at hl 0 rfl) ?_
      refine x_getI (own := RX7) (ref := RX7) hx hb hts hin10 hown hM.1 hZ hP 0 (by decide) (hts (.fieldLink RX7 87 "CellNotebookModel" "cells" "I") (by decide +kernel)) (fun _ h9 => h9) dX7_goesThrough_9 ?_
      refine lv_icmp_ge (tgt := 55) hx hb dX7_goesThrough_12 (by decide) (fun c102 => ?_) (fun c102 => ?_)
      · have hd := m_i_t c102 hd
        obtain ⟨e1, e2⟩ := m_s_e hd
        have e2 := congrArg (x_ov Z) e2
        refine W.widen (k := 0) (n := 0) (Nat.le_of_ble_eq_true rfl) (Nat.le_of_ble_eq_true rfl) ?_
        exact W.vret hx hb hr (fun t ht hW => ⟨⟨(x_ov Z u), rfl, e2, by show mP _ _ t.heap; rw [ht]; exact hP⟩, hS.F ht⟩) hS.2.2 dX7_goesThrough_55
      · have hd := m_i_f c102 hd
        refine lv_aload_n hx hb dX7_goesThrough_15 rfl (lv_at hl 0 rfl) ?_
        refine x_getI (own := RX7) (ref := RX7) hx hb hts hin10 hown hM.1 hZ hP 26 (by decide) (hts (.fieldLink RX7 152 "CellNotebookModel" "there" "I") (by decide +kernel)) (fun _ h9 => h9) dX7_goesThrough_16 ?_
        refine lv_istore_n (lv' := [(2, .int (u.1 26)), (0, .ref (Z.2.1)), (1, .int (x1))]) hx hb dX7_goesThrough_19 rfl hl (by decide) rfl (fun ls hl => ?_)
        refine lv_aload_n hx hb dX7_goesThrough_20 rfl (lv_at hl 1 rfl) ?_
        refine lv_aload_n hx hb dX7_goesThrough_21 rfl (lv_at hl 1 rfl) ?_
        refine x_getA (own := RX7) (ref := RX7) hx hb hts hin10 hown hM.1 hZ hP 1 (by decide) (hts (.fieldLink RX7 7 "CellNotebookModel" "order" "[I") (by decide +kernel)) (fun _ h9 => h9) dX7_goesThrough_22 ?_
        refine lv_iload_n hx hb dX7_goesThrough_25 rfl (lv_at hl 2 rfl) ?_
        obtain ⟨hg103, hd⟩ := m_g_e hd
        refine x_ald hx hb hM.1 hZ hP 1 (by decide) hg103 dX7_goesThrough_26 ?_
        obtain ⟨r104, u105, hc106, hd⟩ := m_b_e hd
        refine m_calli (k := 0) (n := 0) (va_runV (As := [.int (u.2 1 x1.toNatClampNeg)]) (rest := []) ⟨hx, hb, hml, hown, hts⟩ (c_X7_doesAllApart l G Z hZ u u105 (u.2 1 x1.toNatClampNeg) r104 hc106) (cwV 1 hts gX7_goesThrough_X7_doesAllApart rfl rfl rfl (by decide +kernel) ⟨(Nat.le_of_ble_eq_true rfl), (Nat.le_of_ble_eq_true rfl)⟩) (m_preV (C := RX7) (T := TX7) (N := 32) hM hP hS rfl (by decide) hZ.1) rfl rfl hl.1 rfl (lv_room (Nat.le_of_ble_eq_true rfl)) dX7_goesThrough_27 ⟨(Nat.le_of_ble_eq_true rfl), (Nat.le_of_ble_eq_true rfl)⟩) hS ⟨(Nat.le_of_ble_eq_true rfl), (Nat.le_of_ble_eq_true rfl)⟩ (fun H locs hP hS => ?_)
        refine lv_istore_n (lv' := [(3, .int (r104)), (2, .int (u.1 26)), (0, .ref (Z.2.1)), (1, .int (x1))]) hx hb dX7_goesThrough_30 rfl hl (by decide) rfl (fun ls hl => ?_)
        refine lv_aload_n hx hb dX7_goesThrough_31 rfl (lv_at hl 2 rfl) ?_
        refine lv_iload_n hx hb dX7_goesThrough_32 rfl (lv_at hl 0 rfl) ?_
        refine lv_if_eq (tgt := 45) hx hb dX7_goesThrough_33 (by decide) (fun c107 => ?_) (fun c107 => ?_)
        · have hd := m_i_t c107 hd
          refine lv_iload_n hx hb dX7_goesThrough_45 rfl (lv_at hl 1 rfl) ?_
          refine W.widen (k := 0) (n := 0) (Nat.le_of_ble_eq_true rfl) (Nat.le_of_ble_eq_true rfl) ?_
          exact J46 u105 x1 (u.1 26) _ _ _ hd hP hS (lv_sub hl [2, 3] rfl)
        · have hd := m_i_f c107 hd
          refine lv_iload_n hx hb dX7_goesThrough_36 rfl (lv_at hl 1 rfl) ?_
          refine lv_aload_n hx hb dX7_goesThrough_37 rfl (lv_at hl 2 rfl) ?_
          refine x_getI (own := RX7) (ref := RX7) hx hb hts hin10 hown hM.1 hZ hP 27 (by decide) (hts (.fieldLink RX7 145 "CellNotebookModel" "sets" "I") (by decide +kernel)) (fun _ h9 => h9) dX7_goesThrough_38 ?_
          refine lv_ior hx hb dX7_goesThrough_41 ?_
          refine lv_goto (tgt := 46) hx hb dX7_goesThrough_42 (by decide) ?_
          refine W.widen (k := 0) (n := 0) (Nat.le_of_ble_eq_true rfl) (Nat.le_of_ble_eq_true rfl) ?_
          exact J46 u105 x1 ((u.1 26) ||| (u105.1 27)) _ _ _ hd hP hS (lv_sub hl [2, 3] rfl)
  have hl := lv_entry ([.ref (Z.2.1)]) (n := 4) (Nat.le_of_ble_eq_true rfl)
  rw [lg_entry_eq]
  generalize (lg_sl ([.ref (Z.2.1)]) ++ List.replicate (4 - (lg_sl ([.ref (Z.2.1)])).length) Slot.unset).toArray = ls at hl ⊢
  have hl : lv_has ls 4 [(0, .ref (Z.2.1))] := hl
  refine lv_aload_n hx hb dX7_goesThrough_0 rfl (lv_at hl 0 rfl) ?_
  refine lv_iconst (v := 0) hx hb dX7_goesThrough_1 (by decide) ?_
  refine x_putI (own := RX7) (ref := RX7) hx hb hts hin10 hown hM.1 hZ hP hS 26 (by decide) (hts (.fieldLink RX7 152 "CellNotebookModel" "there" "I") (by decide +kernel)) (fun _ h9 => h9) dX7_goesThrough_2 (fun H locs hP hS => ?_)
  obtain ⟨u1, ew, hd⟩ := m_l_e hd
  have hP : mP G (x_ov Z u1) H := by rw [ew]; exact hP
  refine lv_iconst (v := 0) hx hb dX7_goesThrough_5 (by decide) ?_
  refine lv_istore_n (lv' := [(1, .int (0)), (0, .ref (Z.2.1))]) hx hb dX7_goesThrough_6 rfl hl (by decide) rfl (fun ls hl => ?_)
  refine W.widen (k := 0) (n := 0) (Nat.le_of_ble_eq_true rfl) (Nat.le_of_ble_eq_true rfl) ?_
  exact J7 m_N u1 0 _ _ _ hd hP hS (lv_sub hl [1, 0] rfl)


noncomputable def f_X7_isSetInOrder_33 (u : xS) (s0 : Int32) : Option (Int32 × xS) := m_g (vp_nar .boolean s0 = s0) <| some (s0, u)
noncomputable def f_X7_isSetInOrder_32 (u : xS)  : Option (Int32 × xS) := f_X7_isSetInOrder_33 u 0
noncomputable def f_X7_isSetInOrder (u : xS) (p0 : Int32) : Option (Int32 × xS) := m_b (f_X7_goesThrough u) fun r1 u2 => m_b (f_X7_isName u2 p0) fun r4 u5 => m_b (f_X7_goes u5 r4 1 1) fun r7 u8 => if r7 = (0 : Int32) then (f_X7_isSetInOrder_32 u8) else (m_b (f_X7_has u8 (u8.1 26) p0) fun r11 u12 => if r11 = (0 : Int32) then (f_X7_isSetInOrder_32 u12) else (f_X7_isSetInOrder_33 u12 1))
set_option maxHeartbeats 1000000 in
set_option maxRecDepth 100000 in
theorem c_X7_isSetInOrder (l : Launch) (G : m_G) (Z : xB) (hZ : x_ok Z) (u u' : xS) (p0 : Int32) (r : Int32) (hd : f_X7_isSetInOrder u p0 = some (r, u')) : Met l yX7_isSetInOrder wsX7_isSetInOrder ({ frames := 7, cells := 0, slots := 0, locals := 160 } : Room) (m_Pc G (x_ov Z u) [.ref (Z.2.1), .int (p0)]) (m_Qi G r (x_ov Z u')) 0 0 (fun q => G.1 ≤ q) := by
  refine Met.ofW (cc := cX7_isSetInOrder) (maxL := 2) (ret := (some .boolean)) (by decide +kernel) rfl ?_
  intro p e s m args below meth c s₁ B hml hv
  obtain ⟨rfl, hM, hP⟩ := hv
  have hx := B.exec
  have hb := B.bytes
  have hr := B.returns
  have hts := atoms_spec (ws := wsX7_isSetInOrder) B.pre
  have hown : s.vm.findClass RX7 = some m.cls := findClass_of_methodNamed B.named
  have hlocks := B.notSynchronized
  have hin10 : ∀ w ∈ u_ws RX7 TX7 32, w ∈ wsX7_isSetInOrder := by decide +kernel
  have hS : va_S (fun q => G.1 ≤ q) s.heap s.heap [] := va_S.rf
  have J33 : ∀ (u : xS) (s0 : Int32) (H : Heap) (locs : List Loc) (ls : Array Slot), f_X7_isSetInOrder_33 u s0 = some (r, u') → mP G (x_ov Z u) H → va_S (fun q => G.1 ≤ q) s.heap H locs → lv_has ls 2 [] → W p l e ({ frames := 7, cells := 0, slots := 0, locals := 160 } : Room) s m ([.ref (Z.2.1), .int (p0)] : List Value).toArray below meth c H locs 0 0 (MQ below (m_Qi G r (x_ov Z u')) ([.ref (Z.2.1), .int (p0)] : List Value).toArray s 0 0 (fun q => G.1 ≤ q)) (F0 m 33 ls [.int (s0)]) := by
    intro u s0 H locs ls hd hP hS hl
    obtain ⟨hn215, hd⟩ := m_g_e hd
    obtain ⟨e1, e2⟩ := m_s_e hd
    have e2 := congrArg (x_ov Z) e2
    refine W.widen (k := 0) (n := 0) (Nat.le_of_ble_eq_true rfl) (Nat.le_of_ble_eq_true rfl) ?_
    exact W.zret hx hb hr (m_narZ hn215).1 (fun t ht hW => ⟨⟨_, (x_ov Z u), rfl, ⟨e1, e2⟩, by show mP _ _ t.heap; rw [ht]; exact hP⟩, hS.F ht⟩) hS.2.2 dX7_isSetInOrder_33
  have J32 : ∀ (u : xS) (H : Heap) (locs : List Loc) (ls : Array Slot), f_X7_isSetInOrder_32 u = some (r, u') → mP G (x_ov Z u) H → va_S (fun q => G.1 ≤ q) s.heap H locs → lv_has ls 2 [] → W p l e ({ frames := 7, cells := 0, slots := 0, locals := 160 } : Room) s m ([.ref (Z.2.1), .int (p0)] : List Value).toArray below meth c H locs 0 0 (MQ below (m_Qi G r (x_ov Z u')) ([.ref (Z.2.1), .int (p0)] : List Value).toArray s 0 0 (fun q => G.1 ≤ q)) (F0 m 32 ls []) := by
    intro u H locs ls hd hP hS hl
    refine lv_iconst (v := 0) hx hb dX7_isSetInOrder_32 (by decide) ?_
    refine W.widen (k := 0) (n := 0) (Nat.le_of_ble_eq_true rfl) (Nat.le_of_ble_eq_true rfl) ?_
    exact J33 u 0 _ _ _ hd hP hS (lv_sub hl [] rfl)
  have hl := lv_entry ([.ref (Z.2.1), .int (p0)]) (n := 2) (Nat.le_of_ble_eq_true rfl)
  rw [lg_entry_eq]
  generalize (lg_sl ([.ref (Z.2.1), .int (p0)]) ++ List.replicate (2 - (lg_sl ([.ref (Z.2.1), .int (p0)])).length) Slot.unset).toArray = ls at hl ⊢
  have hl : lv_has ls 2 [(0, .ref (Z.2.1)), (1, .int (p0))] := hl
  refine lv_aload_n hx hb dX7_isSetInOrder_0 rfl (lv_at hl 0 rfl) ?_
  obtain ⟨r1, u2, hc3, hd⟩ := m_b_e hd
  refine m_callv (k := 0) (n := 0) (va_runV (As := []) (rest := []) ⟨hx, hb, hml, hown, hts⟩ (c_X7_goesThrough l G Z hZ u u2  r1 hc3) (cwV 0 hts gX7_isSetInOrder_X7_goesThrough rfl rfl rfl (by decide +kernel) ⟨(Nat.le_of_ble_eq_true rfl), (Nat.le_of_ble_eq_true rfl)⟩) (m_preV (C := RX7) (T := TX7) (N := 32) hM hP hS rfl (by decide) hZ.1) rfl rfl hl.1 rfl (lv_room (Nat.le_of_ble_eq_true rfl)) dX7_isSetInOrder_1 ⟨(Nat.le_of_ble_eq_true rfl), (Nat.le_of_ble_eq_true rfl)⟩) hS ⟨(Nat.le_of_ble_eq_true rfl), (Nat.le_of_ble_eq_true rfl)⟩ (fun H locs hP hS => ?_)
  refine lv_aload_n hx hb dX7_isSetInOrder_4 rfl (lv_at hl 0 rfl) ?_
  refine lv_iload_n hx hb dX7_isSetInOrder_5 rfl (lv_at hl 1 rfl) ?_
  obtain ⟨r4, u5, hc6, hd⟩ := m_b_e hd
  refine m_calli (k := 0) (n := 0) (va_runS (As := [.int (p0)]) (rest := [.ref (Z.2.1)]) ⟨hx, hb, hml, hown, hts⟩ (c_X7_isName l G Z hZ u2 u5 p0 r4 hc6) (va_cwS 1 hts gX7_isSetInOrder_X7_isName rfl rfl rfl (by decide +kernel) ⟨(Nat.le_of_ble_eq_true rfl), (Nat.le_of_ble_eq_true rfl)⟩) (m_preS hM hP hS) rfl rfl hl.1 rfl (lv_room (Nat.le_of_ble_eq_true rfl)) dX7_isSetInOrder_6 ⟨(Nat.le_of_ble_eq_true rfl), (Nat.le_of_ble_eq_true rfl)⟩) hS ⟨(Nat.le_of_ble_eq_true rfl), (Nat.le_of_ble_eq_true rfl)⟩ (fun H locs hP hS => ?_)
  refine lv_iconst (v := 1) hx hb dX7_isSetInOrder_9 (by decide) ?_
  refine lv_iconst (v := 1) hx hb dX7_isSetInOrder_10 (by decide) ?_
  obtain ⟨r7, u8, hc9, hd⟩ := m_b_e hd
  refine m_calli (k := 0) (n := 0) (va_runV (As := [.int (r4), .int (1), .int (1)]) (rest := []) ⟨hx, hb, hml, hown, hts⟩ (c_X7_goes l G Z hZ u5 u8 r4 1 1 r7 hc9) (cwV 3 hts gX7_isSetInOrder_X7_goes rfl rfl rfl (by decide +kernel) ⟨(Nat.le_of_ble_eq_true rfl), (Nat.le_of_ble_eq_true rfl)⟩) (m_preV (C := RX7) (T := TX7) (N := 32) hM hP hS rfl (by decide) hZ.1) rfl rfl hl.1 rfl (lv_room (Nat.le_of_ble_eq_true rfl)) dX7_isSetInOrder_11 ⟨(Nat.le_of_ble_eq_true rfl), (Nat.le_of_ble_eq_true rfl)⟩) hS ⟨(Nat.le_of_ble_eq_true rfl), (Nat.le_of_ble_eq_true rfl)⟩ (fun H locs hP hS => ?_)
  refine lv_if_eq (tgt := 32) hx hb dX7_isSetInOrder_14 (by decide) (fun c10 => ?_) (fun c10 => ?_)
  · have hd := m_i_t c10 hd
    refine W.widen (k := 0) (n := 0) (Nat.le_of_ble_eq_true rfl) (Nat.le_of_ble_eq_true rfl) ?_
    exact J32 u8 _ _ _ hd hP hS (lv_sub hl [] rfl)
  · have hd := m_i_f c10 hd
    refine lv_aload_n hx hb dX7_isSetInOrder_17 rfl (lv_at hl 0 rfl) ?_
    refine x_getI (own := RX7) (ref := RX7) hx hb hts hin10 hown hM.1 hZ hP 26 (by decide) (hts (.fieldLink RX7 152 "CellNotebookModel" "there" "I") (by decide +kernel)) (fun _ h9 => h9) dX7_isSetInOrder_18 ?_
    refine lv_iload_n hx hb dX7_isSetInOrder_21 rfl (lv_at hl 1 rfl) ?_
    obtain ⟨r11, u12, hc13, hd⟩ := m_b_e hd
    refine m_calli (k := 0) (n := 0) (va_runS (As := [.int (u8.1 26), .int (p0)]) (rest := []) ⟨hx, hb, hml, hown, hts⟩ (c_X7_has l G Z hZ u8 u12 (u8.1 26) p0 r11 hc13) (va_cwS 2 hts gX7_isSetInOrder_X7_has rfl rfl rfl (by decide +kernel) ⟨(Nat.le_of_ble_eq_true rfl), (Nat.le_of_ble_eq_true rfl)⟩) (m_preS hM hP hS) rfl rfl hl.1 rfl (lv_room (Nat.le_of_ble_eq_true rfl)) dX7_isSetInOrder_22 ⟨(Nat.le_of_ble_eq_true rfl), (Nat.le_of_ble_eq_true rfl)⟩) hS ⟨(Nat.le_of_ble_eq_true rfl), (Nat.le_of_ble_eq_true rfl)⟩ (fun H locs hP hS => ?_)
    refine lv_if_eq (tgt := 32) hx hb dX7_isSetInOrder_25 (by decide) (fun c14 => ?_) (fun c14 => ?_)
    · have hd := m_i_t c14 hd
      refine W.widen (k := 0) (n := 0) (Nat.le_of_ble_eq_true rfl) (Nat.le_of_ble_eq_true rfl) ?_
      exact J32 u12 _ _ _ hd hP hS (lv_sub hl [] rfl)
    · have hd := m_i_f c14 hd
      refine lv_iconst (v := 1) hx hb dX7_isSetInOrder_28 (by decide) ?_
      refine lv_goto (tgt := 33) hx hb dX7_isSetInOrder_29 (by decide) ?_
      refine W.widen (k := 0) (n := 0) (Nat.le_of_ble_eq_true rfl) (Nat.le_of_ble_eq_true rfl) ?_
      exact J33 u12 1 _ _ _ hd hP hS (lv_sub hl [] rfl)


noncomputable def f_X7_valueInOrder_48 (u : xS) (s0 : Int32) : Option (Int32 × xS) := some (s0, u)
noncomputable def f_X7_valueInOrder_31 (u : xS) (x1 : Int32) (s0 : Int32) (s1 : Int32) : Option (Int32 × xS) := m_b (f_X7_goes u s1 s0 1) fun r212 u213 => if r212 = (0 : Int32) then (f_X7_valueInOrder_48 u213 0) else (m_g (¬ (x1 < 0 ∨ 8 ≤ x1.toNatClampNeg)) <| f_X7_valueInOrder_48 u213 (u213.2 25 x1.toNatClampNeg))
noncomputable def f_X7_valueInOrder_30 (u : xS) (x1 : Int32) (s0 : Int32) : Option (Int32 × xS) := f_X7_valueInOrder_31 u x1 0 s0
noncomputable def f_X7_valueInOrder (u : xS) (p0 : Int32) : Option (Int32 × xS) := m_b (f_X7_goesThrough u) fun r1 u2 => m_b (f_X7_isName u2 p0) fun r4 u5 => if r4 = (0 : Int32) then (f_X7_valueInOrder_30 u5 p0 r4) else (m_b (f_X7_has u5 (u5.1 26) p0) fun r8 u9 => if r8 = (0 : Int32) then (f_X7_valueInOrder_30 u9 p0 r4) else (f_X7_valueInOrder_31 u9 p0 1 r4))
set_option maxHeartbeats 1000000 in
set_option maxRecDepth 100000 in
theorem c_X7_valueInOrder (l : Launch) (G : m_G) (Z : xB) (hZ : x_ok Z) (u u' : xS) (p0 : Int32) (r : Int32) (hd : f_X7_valueInOrder u p0 = some (r, u')) : Met l yX7_valueInOrder wsX7_valueInOrder ({ frames := 7, cells := 0, slots := 0, locals := 160 } : Room) (m_Pc G (x_ov Z u) [.ref (Z.2.1), .int (p0)]) (m_Qi G r (x_ov Z u')) 0 0 (fun q => G.1 ≤ q) := by
  refine Met.ofW (cc := cX7_valueInOrder) (maxL := 3) (ret := (some .int)) (by decide +kernel) rfl ?_
  intro p e s m args below meth c s₁ B hml hv
  obtain ⟨rfl, hM, hP⟩ := hv
  have hx := B.exec
  have hb := B.bytes
  have hr := B.returns
  have hts := atoms_spec (ws := wsX7_valueInOrder) B.pre
  have hown : s.vm.findClass RX7 = some m.cls := findClass_of_methodNamed B.named
  have hlocks := B.notSynchronized
  have hin10 : ∀ w ∈ u_ws RX7 TX7 32, w ∈ wsX7_valueInOrder := by decide +kernel
  have hS : va_S (fun q => G.1 ≤ q) s.heap s.heap [] := va_S.rf
  have J48 : ∀ (u : xS) (s0 : Int32) (H : Heap) (locs : List Loc) (ls : Array Slot), f_X7_valueInOrder_48 u s0 = some (r, u') → mP G (x_ov Z u) H → va_S (fun q => G.1 ≤ q) s.heap H locs → lv_has ls 3 [] → W p l e ({ frames := 7, cells := 0, slots := 0, locals := 160 } : Room) s m ([.ref (Z.2.1), .int (p0)] : List Value).toArray below meth c H locs 0 0 (MQ below (m_Qi G r (x_ov Z u')) ([.ref (Z.2.1), .int (p0)] : List Value).toArray s 0 0 (fun q => G.1 ≤ q)) (F0 m 48 ls [.int (s0)]) := by
    intro u s0 H locs ls hd hP hS hl
    obtain ⟨e1, e2⟩ := m_s_e hd
    have e2 := congrArg (x_ov Z) e2
    refine W.widen (k := 0) (n := 0) (Nat.le_of_ble_eq_true rfl) (Nat.le_of_ble_eq_true rfl) ?_
    exact W.iret hx hb hr (fun t ht hW => ⟨⟨_, (x_ov Z u), rfl, ⟨e1, e2⟩, by show mP _ _ t.heap; rw [ht]; exact hP⟩, hS.F ht⟩) hS.2.2 dX7_valueInOrder_48
  have J31 : ∀ (u : xS) (x1 : Int32) (s0 : Int32) (s1 : Int32) (H : Heap) (locs : List Loc) (ls : Array Slot), f_X7_valueInOrder_31 u x1 s0 s1 = some (r, u') → mP G (x_ov Z u) H → va_S (fun q => G.1 ≤ q) s.heap H locs → lv_has ls 3 [(0, .ref (Z.2.1)), (1, .int (x1))] → W p l e ({ frames := 7, cells := 0, slots := 0, locals := 160 } : Room) s m ([.ref (Z.2.1), .int (p0)] : List Value).toArray below meth c H locs 0 0 (MQ below (m_Qi G r (x_ov Z u')) ([.ref (Z.2.1), .int (p0)] : List Value).toArray s 0 0 (fun q => G.1 ≤ q)) (F0 m 31 ls [.int (s0), .int (s1), .ref (Z.2.1)]) := by
    intro u x1 s0 s1 H locs ls hd hP hS hl
    refine lv_iconst (v := 1) hx hb dX7_valueInOrder_31 (by decide) ?_
    obtain ⟨r212, u213, hc214, hd⟩ := m_b_e hd
    refine m_calli (k := 0) (n := 0) (va_runV (As := [.int (s1), .int (s0), .int (1)]) (rest := []) ⟨hx, hb, hml, hown, hts⟩ (c_X7_goes l G Z hZ u u213 s1 s0 1 r212 hc214) (cwV 3 hts gX7_valueInOrder_X7_goes rfl rfl rfl (by decide +kernel) ⟨(Nat.le_of_ble_eq_true rfl), (Nat.le_of_ble_eq_true rfl)⟩) (m_preV (C := RX7) (T := TX7) (N := 32) hM hP hS rfl (by decide) hZ.1) rfl rfl hl.1 rfl (lv_room (Nat.le_of_ble_eq_true rfl)) dX7_valueInOrder_32 ⟨(Nat.le_of_ble_eq_true rfl), (Nat.le_of_ble_eq_true rfl)⟩) hS ⟨(Nat.le_of_ble_eq_true rfl), (Nat.le_of_ble_eq_true rfl)⟩ (fun H locs hP hS => ?_)
    refine lv_if_eq (tgt := 47) hx hb dX7_valueInOrder_35 (by decide) (fun c215 => ?_) (fun c215 => ?_)
    · have hd := m_i_t c215 hd
      refine lv_iconst (v := 0) hx hb dX7_valueInOrder_47 (by decide) ?_
      refine W.widen (k := 0) (n := 0) (Nat.le_of_ble_eq_true rfl) (Nat.le_of_ble_eq_true rfl) ?_
      exact J48 u213 0 _ _ _ hd hP hS (lv_sub hl [] rfl)
    · have hd := m_i_f c215 hd
      refine lv_aload_n hx hb dX7_valueInOrder_38 rfl (lv_at hl 0 rfl) ?_
      refine x_getA (own := RX7) (ref := RX7) hx hb hts hin10 hown hM.1 hZ hP 25 (by decide) (hts (.fieldLink RX7 77 "CellNotebookModel" "now" "[I") (by decide +kernel)) (fun _ h9 => h9) dX7_valueInOrder_39 ?_
      refine lv_iload_n hx hb dX7_valueInOrder_42 rfl (lv_at hl 1 rfl) ?_
      obtain ⟨hg216, hd⟩ := m_g_e hd
      refine x_ald hx hb hM.1 hZ hP 25 (by decide) hg216 dX7_valueInOrder_43 ?_
      refine lv_goto (tgt := 48) hx hb dX7_valueInOrder_44 (by decide) ?_
      refine W.widen (k := 0) (n := 0) (Nat.le_of_ble_eq_true rfl) (Nat.le_of_ble_eq_true rfl) ?_
      exact J48 u213 (u213.2 25 x1.toNatClampNeg) _ _ _ hd hP hS (lv_sub hl [] rfl)
  have J30 : ∀ (u : xS) (x1 : Int32) (s0 : Int32) (H : Heap) (locs : List Loc) (ls : Array Slot), f_X7_valueInOrder_30 u x1 s0 = some (r, u') → mP G (x_ov Z u) H → va_S (fun q => G.1 ≤ q) s.heap H locs → lv_has ls 3 [(0, .ref (Z.2.1)), (1, .int (x1))] → W p l e ({ frames := 7, cells := 0, slots := 0, locals := 160 } : Room) s m ([.ref (Z.2.1), .int (p0)] : List Value).toArray below meth c H locs 0 0 (MQ below (m_Qi G r (x_ov Z u')) ([.ref (Z.2.1), .int (p0)] : List Value).toArray s 0 0 (fun q => G.1 ≤ q)) (F0 m 30 ls [.int (s0), .ref (Z.2.1)]) := by
    intro u x1 s0 H locs ls hd hP hS hl
    refine lv_iconst (v := 0) hx hb dX7_valueInOrder_30 (by decide) ?_
    refine W.widen (k := 0) (n := 0) (Nat.le_of_ble_eq_true rfl) (Nat.le_of_ble_eq_true rfl) ?_
    exact J31 u x1 0 s0 _ _ _ hd hP hS (lv_sub hl [0, 1] rfl)
  have hl := lv_entry ([.ref (Z.2.1), .int (p0)]) (n := 3) (Nat.le_of_ble_eq_true rfl)
  rw [lg_entry_eq]
  generalize (lg_sl ([.ref (Z.2.1), .int (p0)]) ++ List.replicate (3 - (lg_sl ([.ref (Z.2.1), .int (p0)])).length) Slot.unset).toArray = ls at hl ⊢
  have hl : lv_has ls 3 [(0, .ref (Z.2.1)), (1, .int (p0))] := hl
  refine lv_aload_n hx hb dX7_valueInOrder_0 rfl (lv_at hl 0 rfl) ?_
  obtain ⟨r1, u2, hc3, hd⟩ := m_b_e hd
  refine m_callv (k := 0) (n := 0) (va_runV (As := []) (rest := []) ⟨hx, hb, hml, hown, hts⟩ (c_X7_goesThrough l G Z hZ u u2  r1 hc3) (cwV 0 hts gX7_valueInOrder_X7_goesThrough rfl rfl rfl (by decide +kernel) ⟨(Nat.le_of_ble_eq_true rfl), (Nat.le_of_ble_eq_true rfl)⟩) (m_preV (C := RX7) (T := TX7) (N := 32) hM hP hS rfl (by decide) hZ.1) rfl rfl hl.1 rfl (lv_room (Nat.le_of_ble_eq_true rfl)) dX7_valueInOrder_1 ⟨(Nat.le_of_ble_eq_true rfl), (Nat.le_of_ble_eq_true rfl)⟩) hS ⟨(Nat.le_of_ble_eq_true rfl), (Nat.le_of_ble_eq_true rfl)⟩ (fun H locs hP hS => ?_)
  refine lv_iload_n hx hb dX7_valueInOrder_4 rfl (lv_at hl 1 rfl) ?_
  obtain ⟨r4, u5, hc6, hd⟩ := m_b_e hd
  refine m_calli (k := 0) (n := 0) (va_runS (As := [.int (p0)]) (rest := []) ⟨hx, hb, hml, hown, hts⟩ (c_X7_isName l G Z hZ u2 u5 p0 r4 hc6) (va_cwS 1 hts gX7_valueInOrder_X7_isName rfl rfl rfl (by decide +kernel) ⟨(Nat.le_of_ble_eq_true rfl), (Nat.le_of_ble_eq_true rfl)⟩) (m_preS hM hP hS) rfl rfl hl.1 rfl (lv_room (Nat.le_of_ble_eq_true rfl)) dX7_valueInOrder_5 ⟨(Nat.le_of_ble_eq_true rfl), (Nat.le_of_ble_eq_true rfl)⟩) hS ⟨(Nat.le_of_ble_eq_true rfl), (Nat.le_of_ble_eq_true rfl)⟩ (fun H locs hP hS => ?_)
  refine lv_istore_n (lv' := [(2, .int (r4)), (0, .ref (Z.2.1)), (1, .int (p0))]) hx hb dX7_valueInOrder_8 rfl hl (by decide) rfl (fun ls hl => ?_)
  refine lv_aload_n hx hb dX7_valueInOrder_9 rfl (lv_at hl 1 rfl) ?_
  refine lv_iload_n hx hb dX7_valueInOrder_10 rfl (lv_at hl 0 rfl) ?_
  refine lv_iload_n hx hb dX7_valueInOrder_11 rfl (lv_at hl 0 rfl) ?_
  refine lv_if_eq (tgt := 30) hx hb dX7_valueInOrder_12 (by decide) (fun c7 => ?_) (fun c7 => ?_)
  · have hd := m_i_t c7 hd
    refine W.widen (k := 0) (n := 0) (Nat.le_of_ble_eq_true rfl) (Nat.le_of_ble_eq_true rfl) ?_
    exact J30 u5 p0 r4 _ _ _ hd hP hS (lv_sub hl [1, 2] rfl)
  · have hd := m_i_f c7 hd
    refine lv_aload_n hx hb dX7_valueInOrder_15 rfl (lv_at hl 1 rfl) ?_
    refine x_getI (own := RX7) (ref := RX7) hx hb hts hin10 hown hM.1 hZ hP 26 (by decide) (hts (.fieldLink RX7 152 "CellNotebookModel" "there" "I") (by decide +kernel)) (fun _ h9 => h9) dX7_valueInOrder_16 ?_
    refine lv_iload_n hx hb dX7_valueInOrder_19 rfl (lv_at hl 2 rfl) ?_
    obtain ⟨r8, u9, hc10, hd⟩ := m_b_e hd
    refine m_calli (k := 0) (n := 0) (va_runS (As := [.int (u5.1 26), .int (p0)]) (rest := [.int (r4), .ref (Z.2.1)]) ⟨hx, hb, hml, hown, hts⟩ (c_X7_has l G Z hZ u5 u9 (u5.1 26) p0 r8 hc10) (va_cwS 2 hts gX7_valueInOrder_X7_has rfl rfl rfl (by decide +kernel) ⟨(Nat.le_of_ble_eq_true rfl), (Nat.le_of_ble_eq_true rfl)⟩) (m_preS hM hP hS) rfl rfl hl.1 rfl (lv_room (Nat.le_of_ble_eq_true rfl)) dX7_valueInOrder_20 ⟨(Nat.le_of_ble_eq_true rfl), (Nat.le_of_ble_eq_true rfl)⟩) hS ⟨(Nat.le_of_ble_eq_true rfl), (Nat.le_of_ble_eq_true rfl)⟩ (fun H locs hP hS => ?_)
    refine lv_if_eq (tgt := 30) hx hb dX7_valueInOrder_23 (by decide) (fun c11 => ?_) (fun c11 => ?_)
    · have hd := m_i_t c11 hd
      refine W.widen (k := 0) (n := 0) (Nat.le_of_ble_eq_true rfl) (Nat.le_of_ble_eq_true rfl) ?_
      exact J30 u9 p0 r4 _ _ _ hd hP hS (lv_sub hl [1, 2] rfl)
    · have hd := m_i_f c11 hd
      refine lv_iconst (v := 1) hx hb dX7_valueInOrder_26 (by decide) ?_
      refine lv_goto (tgt := 31) hx hb dX7_valueInOrder_27 (by decide) ?_
      refine W.widen (k := 0) (n := 0) (Nat.le_of_ble_eq_true rfl) (Nat.le_of_ble_eq_true rfl) ?_
      exact J31 u9 p0 1 r4 _ _ _ hd hP hS (lv_sub hl [1, 2] rfl)


noncomputable def f_X7_unlikeInOrder_68 (k8 : xS → Int32 → Int32 → Option (Int32 × xS)) (u : xS) (x2 : Int32) (s0 : Int32) (s1 : Int32) : Option (Int32 × xS) := k8 u (s1 ||| s0) (x2 + 1)
noncomputable def f_X7_unlikeInOrder_67 (k8 : xS → Int32 → Int32 → Option (Int32 × xS)) (u : xS) (x2 : Int32) (s0 : Int32) : Option (Int32 × xS) := f_X7_unlikeInOrder_68 k8 u x2 0 s0
noncomputable def f_X7_unlikeInOrder_61 (k8 : xS → Int32 → Int32 → Option (Int32 × xS)) (u : xS) (x2 : Int32) (s0 : Int32) : Option (Int32 × xS) := f_X7_unlikeInOrder_68 k8 u x2 (1 <<< (x2 &&& 31)) s0
noncomputable def f_X7_unlikeInOrder_39 (k8 : xS → Int32 → Int32 → Option (Int32 × xS)) (u : xS) (x2 : Int32) (x3 : Int32) (s0 : Int32) (s1 : Int32) (s2 : Int32) : Option (Int32 × xS) := if s1 = s0 then (if x3 = (0 : Int32) then (f_X7_unlikeInOrder_67 k8 u x2 s2) else (m_g (¬ (x2 < 0 ∨ 8 ≤ x2.toNatClampNeg)) <| m_g (¬ (x2 < 0 ∨ 8 ≤ x2.toNatClampNeg)) <| if (u.2 25 x2.toNatClampNeg) = (u.2 10 x2.toNatClampNeg) then (f_X7_unlikeInOrder_67 k8 u x2 s2) else (f_X7_unlikeInOrder_61 k8 u x2 s2))) else (f_X7_unlikeInOrder_61 k8 u x2 s2)
noncomputable def f_X7_unlikeInOrder_8_b (k8 : xS → Int32 → Int32 → Option (Int32 × xS)) (u : xS) (x1 : Int32) (x2 : Int32) : Option (Int32 × xS) := if 8 ≤ x2 then (m_b (f_X7_told u x1) fun r105 u106 => some (r105, u106)) else (m_b (f_X7_has u (u.1 26) x2) fun r108 u109 => m_g (¬ (x2 < 0 ∨ 8 ≤ x2.toNatClampNeg)) <| if (u109.2 11 x2.toNatClampNeg) ≤ (0 : Int32) then (f_X7_unlikeInOrder_39 k8 u109 x2 r108 0 r108 x1) else (f_X7_unlikeInOrder_39 k8 u109 x2 r108 1 r108 x1))
noncomputable def f_X7_unlikeInOrder_8 (n : Nat) : xS → Int32 → Int32 → Option (Int32 × xS) := Nat.rec (motive := fun _ => xS → Int32 → Int32 → Option (Int32 × xS)) (fun _ _ _ => none) (fun _ k => f_X7_unlikeInOrder_8_b  k) n
noncomputable def f_X7_unlikeInOrder (u : xS)  : Option (Int32 × xS) := m_b (f_X7_goesThrough u) fun r1 u2 => f_X7_unlikeInOrder_8 m_N u2 0 0
set_option maxHeartbeats 1000000 in
set_option maxRecDepth 100000 in
theorem c_X7_unlikeInOrder (l : Launch) (G : m_G) (Z : xB) (hZ : x_ok Z) (u u' : xS)  (r : Int32) (hd : f_X7_unlikeInOrder u = some (r, u')) : Met l yX7_unlikeInOrder wsX7_unlikeInOrder ({ frames := 7, cells := 0, slots := 0, locals := 160 } : Room) (m_Pc G (x_ov Z u) [.ref (Z.2.1)]) (m_Qi G r (x_ov Z u')) 0 0 (fun q => G.1 ≤ q) := by
  refine Met.ofW (cc := cX7_unlikeInOrder) (maxL := 4) (ret := (some .int)) (by decide +kernel) rfl ?_
  intro p e s m args below meth c s₁ B hml hv
  obtain ⟨rfl, hM, hP⟩ := hv
  have hx := B.exec
  have hb := B.bytes
  have hr := B.returns
  have hts := atoms_spec (ws := wsX7_unlikeInOrder) B.pre
  have hown : s.vm.findClass RX7 = some m.cls := findClass_of_methodNamed B.named
  have hlocks := B.notSynchronized
  have hin10 : ∀ w ∈ u_ws RX7 TX7 32, w ∈ wsX7_unlikeInOrder := by decide +kernel
  have hS : va_S (fun q => G.1 ≤ q) s.heap s.heap [] := va_S.rf
  have J8 : ∀ (n8 : Nat) (u : xS) (x1 : Int32) (x2 : Int32) (H : Heap) (locs : List Loc) (ls : Array Slot), f_X7_unlikeInOrder_8 n8 u x1 x2 = some (r, u') → mP G (x_ov Z u) H → va_S (fun q => G.1 ≤ q) s.heap H locs → lv_has ls 4 [(0, .ref (Z.2.1)), (1, .int (x1)), (2, .int (x2))] → W p l e ({ frames := 7, cells := 0, slots := 0, locals := 160 } : Room) s m ([.ref (Z.2.1)] : List Value).toArray below meth c H locs 0 0 (MQ below (m_Qi G r (x_ov Z u')) ([.ref (Z.2.1)] : List Value).toArray s 0 0 (fun q => G.1 ≤ q)) (F0 m 8 ls []) := by
    intro n8
    induction n8 with
    | zero => intro u x1 x2 H locs ls hd; exact absurd (show (none : Option (Int32 × xS)) = some _ from hd) (fun h => nomatch h)
    | succ n8 ih8 =>
      have J68 : ∀ (u : xS) (x2 : Int32) (s0 : Int32) (s1 : Int32) (H : Heap) (locs : List Loc) (ls : Array Slot), f_X7_unlikeInOrder_68 (f_X7_unlikeInOrder_8 n8) u x2 s0 s1 = some (r, u') → mP G (x_ov Z u) H → va_S (fun q => G.1 ≤ q) s.heap H locs → lv_has ls 4 [(0, .ref (Z.2.1)), (2, .int (x2))] → W p l e ({ frames := 7, cells := 0, slots := 0, locals := 160 } : Room) s m ([.ref (Z.2.1)] : List Value).toArray below meth c H locs 0 0 (MQ below (m_Qi G r (x_ov Z u')) ([.ref (Z.2.1)] : List Value).toArray s 0 0 (fun q => G.1 ≤ q)) (F0 m 68 ls [.int (s0), .int (s1)]) := by
        intro u x2 s0 s1 H locs ls hd hP hS hl
        refine lv_ior hx hb dX7_unlikeInOrder_68 ?_
        refine lv_istore_n (lv' := [(1, .int (s1 ||| s0)), (0, .ref (Z.2.1)), (2, .int (x2))]) hx hb dX7_unlikeInOrder_69 rfl hl (by decide) rfl (fun ls hl => ?_)
        refine lv_iinc (v := x2 + 1) (lv' := [(2, .int (x2 + 1)), (1, .int (s1 ||| s0)), (0, .ref (Z.2.1))]) hx hb dX7_unlikeInOrder_70 hl (k := 2) rfl rfl (by decide) rfl (fun ls hl => ?_)
        refine lv_goto (tgt := 8) hx hb dX7_unlikeInOrder_73 (by decide) ?_
        refine W.widen (k := 0) (n := 0) (Nat.le_of_ble_eq_true rfl) (Nat.le_of_ble_eq_true rfl) ?_
        exact ih8 u (s1 ||| s0) (x2 + 1) _ _ _ hd hP hS (lv_sub hl [2, 1, 0] rfl)
      have J67 : ∀ (u : xS) (x2 : Int32) (s0 : Int32) (H : Heap) (locs : List Loc) (ls : Array Slot), f_X7_unlikeInOrder_67 (f_X7_unlikeInOrder_8 n8) u x2 s0 = some (r, u') → mP G (x_ov Z u) H → va_S (fun q => G.1 ≤ q) s.heap H locs → lv_has ls 4 [(0, .ref (Z.2.1)), (2, .int (x2))] → W p l e ({ frames := 7, cells := 0, slots := 0, locals := 160 } : Room) s m ([.ref (Z.2.1)] : List Value).toArray below meth c H locs 0 0 (MQ below (m_Qi G r (x_ov Z u')) ([.ref (Z.2.1)] : List Value).toArray s 0 0 (fun q => G.1 ≤ q)) (F0 m 67 ls [.int (s0)]) := by
        intro u x2 s0 H locs ls hd hP hS hl
        refine lv_iconst (v := 0) hx hb dX7_unlikeInOrder_67 (by decide) ?_
        refine W.widen (k := 0) (n := 0) (Nat.le_of_ble_eq_true rfl) (Nat.le_of_ble_eq_true rfl) ?_
        exact J68 u x2 0 s0 _ _ _ hd hP hS (lv_sub hl [0, 1] rfl)
      have J61 : ∀ (u : xS) (x2 : Int32) (s0 : Int32) (H : Heap) (locs : List Loc) (ls : Array Slot), f_X7_unlikeInOrder_61 (f_X7_unlikeInOrder_8 n8) u x2 s0 = some (r, u') → mP G (x_ov Z u) H → va_S (fun q => G.1 ≤ q) s.heap H locs → lv_has ls 4 [(0, .ref (Z.2.1)), (2, .int (x2))] → W p l e ({ frames := 7, cells := 0, slots := 0, locals := 160 } : Room) s m ([.ref (Z.2.1)] : List Value).toArray below meth c H locs 0 0 (MQ below (m_Qi G r (x_ov Z u')) ([.ref (Z.2.1)] : List Value).toArray s 0 0 (fun q => G.1 ≤ q)) (F0 m 61 ls [.int (s0)]) := by
        intro u x2 s0 H locs ls hd hP hS hl
        refine lv_iconst (v := 1) hx hb dX7_unlikeInOrder_61 (by decide) ?_
        refine lv_iload_n hx hb dX7_unlikeInOrder_62 rfl (lv_at hl 1 rfl) ?_
        refine lv_ishl hx hb dX7_unlikeInOrder_63 ?_
        refine lv_goto (tgt := 68) hx hb dX7_unlikeInOrder_64 (by decide) ?_
        refine W.widen (k := 0) (n := 0) (Nat.le_of_ble_eq_true rfl) (Nat.le_of_ble_eq_true rfl) ?_
        exact J68 u x2 (1 <<< (x2 &&& 31)) s0 _ _ _ hd hP hS (lv_sub hl [0, 1] rfl)
      have J39 : ∀ (u : xS) (x2 : Int32) (x3 : Int32) (s0 : Int32) (s1 : Int32) (s2 : Int32) (H : Heap) (locs : List Loc) (ls : Array Slot), f_X7_unlikeInOrder_39 (f_X7_unlikeInOrder_8 n8) u x2 x3 s0 s1 s2 = some (r, u') → mP G (x_ov Z u) H → va_S (fun q => G.1 ≤ q) s.heap H locs → lv_has ls 4 [(0, .ref (Z.2.1)), (2, .int (x2)), (3, .int (x3))] → W p l e ({ frames := 7, cells := 0, slots := 0, locals := 160 } : Room) s m ([.ref (Z.2.1)] : List Value).toArray below meth c H locs 0 0 (MQ below (m_Qi G r (x_ov Z u')) ([.ref (Z.2.1)] : List Value).toArray s 0 0 (fun q => G.1 ≤ q)) (F0 m 39 ls [.int (s0), .int (s1), .int (s2)]) := by
        intro u x2 x3 s0 s1 s2 H locs ls hd hP hS hl
        refine lv_icmp_ne (tgt := 61) hx hb dX7_unlikeInOrder_39 (by decide) (fun c213 => ?_) (fun c213 => ?_)
        · have hd := m_i_f c213 hd
          refine W.widen (k := 0) (n := 0) (Nat.le_of_ble_eq_true rfl) (Nat.le_of_ble_eq_true rfl) ?_
          exact J61 u x2 s2 _ _ _ hd hP hS (lv_sub hl [0, 1] rfl)
        · have hd := m_i_t c213 hd
          refine lv_iload_n hx hb dX7_unlikeInOrder_42 rfl (lv_at hl 2 rfl) ?_
          refine lv_if_eq (tgt := 67) hx hb dX7_unlikeInOrder_43 (by decide) (fun c214 => ?_) (fun c214 => ?_)
          · have hd := m_i_t c214 hd
            refine W.widen (k := 0) (n := 0) (Nat.le_of_ble_eq_true rfl) (Nat.le_of_ble_eq_true rfl) ?_
            exact J67 u x2 s2 _ _ _ hd hP hS (lv_sub hl [0, 1] rfl)
          · have hd := m_i_f c214 hd
            refine lv_aload_n hx hb dX7_unlikeInOrder_46 rfl (lv_at hl 0 rfl) ?_
            refine x_getA (own := RX7) (ref := RX7) hx hb hts hin10 hown hM.1 hZ hP 25 (by decide) (hts (.fieldLink RX7 77 "CellNotebookModel" "now" "[I") (by decide +kernel)) (fun _ h9 => h9) dX7_unlikeInOrder_47 ?_
            refine lv_iload_n hx hb dX7_unlikeInOrder_50 rfl (lv_at hl 1 rfl) ?_
            obtain ⟨hg215, hd⟩ := m_g_e hd
            refine x_ald hx hb hM.1 hZ hP 25 (by decide) hg215 dX7_unlikeInOrder_51 ?_
            refine lv_aload_n hx hb dX7_unlikeInOrder_52 rfl (lv_at hl 0 rfl) ?_
            refine x_getA (own := RX7) (ref := RX7) hx hb hts hin10 hown hM.1 hZ hP 10 (by decide) (hts (.fieldLink RX7 37 "CellNotebookModel" "value" "[I") (by decide +kernel)) (fun _ h9 => h9) dX7_unlikeInOrder_53 ?_
            refine lv_iload_n hx hb dX7_unlikeInOrder_56 rfl (lv_at hl 1 rfl) ?_
            obtain ⟨hg216, hd⟩ := m_g_e hd
            refine x_ald hx hb hM.1 hZ hP 10 (by decide) hg216 dX7_unlikeInOrder_57 ?_
            refine lv_icmp_eq (tgt := 67) hx hb dX7_unlikeInOrder_58 (by decide) (fun c217 => ?_) (fun c217 => ?_)
            · have hd := m_i_t c217 hd
              refine W.widen (k := 0) (n := 0) (Nat.le_of_ble_eq_true rfl) (Nat.le_of_ble_eq_true rfl) ?_
              exact J67 u x2 s2 _ _ _ hd hP hS (lv_sub hl [0, 1] rfl)
            · have hd := m_i_f c217 hd
              refine W.widen (k := 0) (n := 0) (Nat.le_of_ble_eq_true rfl) (Nat.le_of_ble_eq_true rfl) ?_
              exact J61 u x2 s2 _ _ _ hd hP hS (lv_sub hl [0, 1] rfl)
      intro u x1 x2 H locs ls hd hP hS hl
      have hd : f_X7_unlikeInOrder_8_b (f_X7_unlikeInOrder_8 n8) u x1 x2 = some (r, u') := hd
      refine lv_iload_n hx hb dX7_unlikeInOrder_8 rfl (lv_at hl 2 rfl) ?_
      refine lv_bipush (v := 8) hx hb dX7_unlikeInOrder_9 (by decide) ?_
      refine lv_icmp_ge (tgt := 76) hx hb dX7_unlikeInOrder_11 (by decide) (fun c104 => ?_) (fun c104 => ?_)
      · have hd := m_i_t c104 hd
        refine lv_aload_n hx hb dX7_unlikeInOrder_76 rfl (lv_at hl 0 rfl) ?_
        refine lv_iload_n hx hb dX7_unlikeInOrder_77 rfl (lv_at hl 1 rfl) ?_
        obtain ⟨r105, u106, hc107, hd⟩ := m_b_e hd
        refine m_calli (k := 0) (n := 0) (va_runV (As := [.int (x1)]) (rest := []) ⟨hx, hb, hml, hown, hts⟩ (c_X7_told l G Z hZ u u106 x1 r105 hc107) (cwV 1 hts gX7_unlikeInOrder_X7_told rfl rfl rfl (by decide +kernel) ⟨(Nat.le_of_ble_eq_true rfl), (Nat.le_of_ble_eq_true rfl)⟩) (m_preV (C := RX7) (T := TX7) (N := 32) hM hP hS rfl (by decide) hZ.1) rfl rfl hl.1 rfl (lv_room (Nat.le_of_ble_eq_true rfl)) dX7_unlikeInOrder_78 ⟨(Nat.le_of_ble_eq_true rfl), (Nat.le_of_ble_eq_true rfl)⟩) hS ⟨(Nat.le_of_ble_eq_true rfl), (Nat.le_of_ble_eq_true rfl)⟩ (fun H locs hP hS => ?_)
        obtain ⟨e1, e2⟩ := m_s_e hd
        have e2 := congrArg (x_ov Z) e2
        refine W.widen (k := 0) (n := 0) (Nat.le_of_ble_eq_true rfl) (Nat.le_of_ble_eq_true rfl) ?_
        exact W.iret hx hb hr (fun t ht hW => ⟨⟨_, (x_ov Z u106), rfl, ⟨e1, e2⟩, by show mP _ _ t.heap; rw [ht]; exact hP⟩, hS.F ht⟩) hS.2.2 dX7_unlikeInOrder_81
      · have hd := m_i_f c104 hd
        refine lv_aload_n hx hb dX7_unlikeInOrder_14 rfl (lv_at hl 0 rfl) ?_
        refine x_getI (own := RX7) (ref := RX7) hx hb hts hin10 hown hM.1 hZ hP 26 (by decide) (hts (.fieldLink RX7 152 "CellNotebookModel" "there" "I") (by decide +kernel)) (fun _ h9 => h9) dX7_unlikeInOrder_15 ?_
        refine lv_iload_n hx hb dX7_unlikeInOrder_18 rfl (lv_at hl 2 rfl) ?_
        obtain ⟨r108, u109, hc110, hd⟩ := m_b_e hd
        refine m_calli (k := 0) (n := 0) (va_runS (As := [.int (u.1 26), .int (x2)]) (rest := []) ⟨hx, hb, hml, hown, hts⟩ (c_X7_has l G Z hZ u u109 (u.1 26) x2 r108 hc110) (va_cwS 2 hts gX7_unlikeInOrder_X7_has rfl rfl rfl (by decide +kernel) ⟨(Nat.le_of_ble_eq_true rfl), (Nat.le_of_ble_eq_true rfl)⟩) (m_preS hM hP hS) rfl rfl hl.1 rfl (lv_room (Nat.le_of_ble_eq_true rfl)) dX7_unlikeInOrder_19 ⟨(Nat.le_of_ble_eq_true rfl), (Nat.le_of_ble_eq_true rfl)⟩) hS ⟨(Nat.le_of_ble_eq_true rfl), (Nat.le_of_ble_eq_true rfl)⟩ (fun H locs hP hS => ?_)
        refine lv_istore_n (lv' := [(3, .int (r108)), (0, .ref (Z.2.1)), (1, .int (x1)), (2, .int (x2))]) hx hb dX7_unlikeInOrder_22 rfl hl (by decide) rfl (fun ls hl => ?_)
        refine lv_iload_n hx hb dX7_unlikeInOrder_23 rfl (lv_at hl 2 rfl) ?_
        refine lv_iload_n hx hb dX7_unlikeInOrder_24 rfl (lv_at hl 0 rfl) ?_
        refine lv_aload_n hx hb dX7_unlikeInOrder_25 rfl (lv_at hl 1 rfl) ?_
        refine x_getA (own := RX7) (ref := RX7) hx hb hts hin10 hown hM.1 hZ hP 11 (by decide) (hts (.fieldLink RX7 40 "CellNotebookModel" "stamp" "[I") (by decide +kernel)) (fun _ h9 => h9) dX7_unlikeInOrder_26 ?_
        refine lv_iload_n hx hb dX7_unlikeInOrder_29 rfl (lv_at hl 3 rfl) ?_
        obtain ⟨hg111, hd⟩ := m_g_e hd
        refine x_ald hx hb hM.1 hZ hP 11 (by decide) hg111 dX7_unlikeInOrder_30 ?_
        refine lv_if_le (tgt := 38) hx hb dX7_unlikeInOrder_31 (by decide) (fun c112 => ?_) (fun c112 => ?_)
        · have hd := m_i_t c112 hd
          refine lv_iconst (v := 0) hx hb dX7_unlikeInOrder_38 (by decide) ?_
          refine W.widen (k := 0) (n := 0) (Nat.le_of_ble_eq_true rfl) (Nat.le_of_ble_eq_true rfl) ?_
          exact J39 u109 x2 r108 0 r108 x1 _ _ _ hd hP hS (lv_sub hl [1, 3, 0] rfl)
        · have hd := m_i_f c112 hd
          refine lv_iconst (v := 1) hx hb dX7_unlikeInOrder_34 (by decide) ?_
          refine lv_goto (tgt := 39) hx hb dX7_unlikeInOrder_35 (by decide) ?_
          refine W.widen (k := 0) (n := 0) (Nat.le_of_ble_eq_true rfl) (Nat.le_of_ble_eq_true rfl) ?_
          exact J39 u109 x2 r108 1 r108 x1 _ _ _ hd hP hS (lv_sub hl [1, 3, 0] rfl)
  have hl := lv_entry ([.ref (Z.2.1)]) (n := 4) (Nat.le_of_ble_eq_true rfl)
  rw [lg_entry_eq]
  generalize (lg_sl ([.ref (Z.2.1)]) ++ List.replicate (4 - (lg_sl ([.ref (Z.2.1)])).length) Slot.unset).toArray = ls at hl ⊢
  have hl : lv_has ls 4 [(0, .ref (Z.2.1))] := hl
  refine lv_aload_n hx hb dX7_unlikeInOrder_0 rfl (lv_at hl 0 rfl) ?_
  obtain ⟨r1, u2, hc3, hd⟩ := m_b_e hd
  refine m_callv (k := 0) (n := 0) (va_runV (As := []) (rest := []) ⟨hx, hb, hml, hown, hts⟩ (c_X7_goesThrough l G Z hZ u u2  r1 hc3) (cwV 0 hts gX7_unlikeInOrder_X7_goesThrough rfl rfl rfl (by decide +kernel) ⟨(Nat.le_of_ble_eq_true rfl), (Nat.le_of_ble_eq_true rfl)⟩) (m_preV (C := RX7) (T := TX7) (N := 32) hM hP hS rfl (by decide) hZ.1) rfl rfl hl.1 rfl (lv_room (Nat.le_of_ble_eq_true rfl)) dX7_unlikeInOrder_1 ⟨(Nat.le_of_ble_eq_true rfl), (Nat.le_of_ble_eq_true rfl)⟩) hS ⟨(Nat.le_of_ble_eq_true rfl), (Nat.le_of_ble_eq_true rfl)⟩ (fun H locs hP hS => ?_)
  refine lv_iconst (v := 0) hx hb dX7_unlikeInOrder_4 (by decide) ?_
  refine lv_istore_n (lv' := [(1, .int (0)), (0, .ref (Z.2.1))]) hx hb dX7_unlikeInOrder_5 rfl hl (by decide) rfl (fun ls hl => ?_)
  refine lv_iconst (v := 0) hx hb dX7_unlikeInOrder_6 (by decide) ?_
  refine lv_istore_n (lv' := [(2, .int (0)), (1, .int (0)), (0, .ref (Z.2.1))]) hx hb dX7_unlikeInOrder_7 rfl hl (by decide) rfl (fun ls hl => ?_)
  refine W.widen (k := 0) (n := 0) (Nat.le_of_ble_eq_true rfl) (Nat.le_of_ble_eq_true rfl) ?_
  exact J8 m_N u2 0 0 _ _ _ hd hP hS (lv_sub hl [2, 1, 0] rfl)


noncomputable def f_X7_runs_ (u : xS)  : Option (Int32 × xS) := m_b (f_X7_told u (u.1 13)) fun r1 u2 => some (r1, u2)
set_option maxHeartbeats 1000000 in
set_option maxRecDepth 100000 in
theorem c_X7_runs_ (l : Launch) (G : m_G) (Z : xB) (hZ : x_ok Z) (u u' : xS)  (r : Int32) (hd : f_X7_runs_ u = some (r, u')) : Met l yX7_runs_ wsX7_runs_ ({ frames := 1, cells := 0, slots := 0, locals := 21 } : Room) (m_Pc G (x_ov Z u) [.ref (Z.2.1)]) (m_Qi G r (x_ov Z u')) 0 0 (fun q => G.1 ≤ q) := by
  refine Met.ofW (cc := cX7_runs_) (maxL := 1) (ret := (some .int)) (by decide +kernel) rfl ?_
  intro p e s m args below meth c s₁ B hml hv
  obtain ⟨rfl, hM, hP⟩ := hv
  have hx := B.exec
  have hb := B.bytes
  have hr := B.returns
  have hts := atoms_spec (ws := wsX7_runs_) B.pre
  have hown : s.vm.findClass RX7 = some m.cls := findClass_of_methodNamed B.named
  have hlocks := B.notSynchronized
  have hin10 : ∀ w ∈ u_ws RX7 TX7 32, w ∈ wsX7_runs_ := by decide +kernel
  have hS : va_S (fun q => G.1 ≤ q) s.heap s.heap [] := va_S.rf
  have hl := lv_entry ([.ref (Z.2.1)]) (n := 1) (Nat.le_of_ble_eq_true rfl)
  rw [lg_entry_eq]
  generalize (lg_sl ([.ref (Z.2.1)]) ++ List.replicate (1 - (lg_sl ([.ref (Z.2.1)])).length) Slot.unset).toArray = ls at hl ⊢
  have hl : lv_has ls 1 [(0, .ref (Z.2.1))] := hl
  refine lv_aload_n hx hb dX7_runs__0 rfl (lv_at hl 0 rfl) ?_
  refine lv_aload_n hx hb dX7_runs__1 rfl (lv_at hl 0 rfl) ?_
  refine x_getI (own := RX7) (ref := RX7) hx hb hts hin10 hown hM.1 hZ hP 13 (by decide) (hts (.fieldLink RX7 115 "CellNotebookModel" "runs" "I") (by decide +kernel)) (fun _ h9 => h9) dX7_runs__2 ?_
  obtain ⟨r1, u2, hc3, hd⟩ := m_b_e hd
  refine m_calli (k := 0) (n := 0) (va_runV (As := [.int (u.1 13)]) (rest := []) ⟨hx, hb, hml, hown, hts⟩ (c_X7_told l G Z hZ u u2 (u.1 13) r1 hc3) (cwV 1 hts gX7_runs__X7_told rfl rfl rfl (by decide +kernel) ⟨(Nat.le_of_ble_eq_true rfl), (Nat.le_of_ble_eq_true rfl)⟩) (m_preV (C := RX7) (T := TX7) (N := 32) hM hP hS rfl (by decide) hZ.1) rfl rfl hl.1 rfl (lv_room (Nat.le_of_ble_eq_true rfl)) dX7_runs__5 ⟨(Nat.le_of_ble_eq_true rfl), (Nat.le_of_ble_eq_true rfl)⟩) hS ⟨(Nat.le_of_ble_eq_true rfl), (Nat.le_of_ble_eq_true rfl)⟩ (fun H locs hP hS => ?_)
  obtain ⟨e1, e2⟩ := m_s_e hd
  have e2 := congrArg (x_ov Z) e2
  refine W.widen (k := 0) (n := 0) (Nat.le_of_ble_eq_true rfl) (Nat.le_of_ble_eq_true rfl) ?_
  exact W.iret hx hb hr (fun t ht hW => ⟨⟨_, (x_ov Z u2), rfl, ⟨e1, e2⟩, by show mP _ _ t.heap; rw [ht]; exact hP⟩, hS.F ht⟩) hS.2.2 dX7_runs__8


noncomputable def f_X7_inLog_27 (k4 : xS → Int32 → Int32 → Option (Int32 × xS)) (u : xS) (x2 : Int32) (s0 : Int32) (s1 : Int32) : Option (Int32 × xS) := k4 u (s1 + s0) (x2 + 1)
noncomputable def f_X7_inLog_4_b (k4 : xS → Int32 → Int32 → Option (Int32 × xS)) (u : xS) (x1 : Int32) (x2 : Int32) : Option (Int32 × xS) := if (u.1 13) < x2 then (some (x1, u)) else (m_g (¬ (x2 < 0 ∨ 401 ≤ x2.toNatClampNeg)) <| if (u.2 19 x2.toNatClampNeg) = (0 : Int32) then (f_X7_inLog_27 k4 u x2 1 x1) else (f_X7_inLog_27 k4 u x2 0 x1))
noncomputable def f_X7_inLog_4 (n : Nat) : xS → Int32 → Int32 → Option (Int32 × xS) := Nat.rec (motive := fun _ => xS → Int32 → Int32 → Option (Int32 × xS)) (fun _ _ _ => none) (fun _ k => f_X7_inLog_4_b  k) n
noncomputable def f_X7_inLog (u : xS)  : Option (Int32 × xS) := f_X7_inLog_4 m_N u 0 1
set_option maxHeartbeats 1000000 in
set_option maxRecDepth 100000 in
theorem c_X7_inLog (l : Launch) (G : m_G) (Z : xB) (hZ : x_ok Z) (u u' : xS)  (r : Int32) (hd : f_X7_inLog u = some (r, u')) : Met l yX7_inLog wsX7_inLog ({ frames := 0, cells := 0, slots := 0, locals := 0 } : Room) (m_Pc G (x_ov Z u) [.ref (Z.2.1)]) (m_Qi G r (x_ov Z u')) 0 0 (fun q => G.1 ≤ q) := by
  refine Met.ofW (cc := cX7_inLog) (maxL := 3) (ret := (some .int)) (by decide +kernel) rfl ?_
  intro p e s m args below meth c s₁ B hml hv
  obtain ⟨rfl, hM, hP⟩ := hv
  have hx := B.exec
  have hb := B.bytes
  have hr := B.returns
  have hts := atoms_spec (ws := wsX7_inLog) B.pre
  have hown : s.vm.findClass RX7 = some m.cls := findClass_of_methodNamed B.named
  have hlocks := B.notSynchronized
  have hin10 : ∀ w ∈ u_ws RX7 TX7 32, w ∈ wsX7_inLog := by decide +kernel
  have hS : va_S (fun q => G.1 ≤ q) s.heap s.heap [] := va_S.rf
  have J4 : ∀ (n4 : Nat) (u : xS) (x1 : Int32) (x2 : Int32) (H : Heap) (locs : List Loc) (ls : Array Slot), f_X7_inLog_4 n4 u x1 x2 = some (r, u') → mP G (x_ov Z u) H → va_S (fun q => G.1 ≤ q) s.heap H locs → lv_has ls 3 [(0, .ref (Z.2.1)), (1, .int (x1)), (2, .int (x2))] → W p l e ({ frames := 0, cells := 0, slots := 0, locals := 0 } : Room) s m ([.ref (Z.2.1)] : List Value).toArray below meth c H locs 0 0 (MQ below (m_Qi G r (x_ov Z u')) ([.ref (Z.2.1)] : List Value).toArray s 0 0 (fun q => G.1 ≤ q)) (F0 m 4 ls []) := by
    intro n4
    induction n4 with
    | zero => intro u x1 x2 H locs ls hd; exact absurd (show (none : Option (Int32 × xS)) = some _ from hd) (fun h => nomatch h)
    | succ n4 ih4 =>
      have J27 : ∀ (u : xS) (x2 : Int32) (s0 : Int32) (s1 : Int32) (H : Heap) (locs : List Loc) (ls : Array Slot), f_X7_inLog_27 (f_X7_inLog_4 n4) u x2 s0 s1 = some (r, u') → mP G (x_ov Z u) H → va_S (fun q => G.1 ≤ q) s.heap H locs → lv_has ls 3 [(0, .ref (Z.2.1)), (2, .int (x2))] → W p l e ({ frames := 0, cells := 0, slots := 0, locals := 0 } : Room) s m ([.ref (Z.2.1)] : List Value).toArray below meth c H locs 0 0 (MQ below (m_Qi G r (x_ov Z u')) ([.ref (Z.2.1)] : List Value).toArray s 0 0 (fun q => G.1 ≤ q)) (F0 m 27 ls [.int (s0), .int (s1)]) := by
        intro u x2 s0 s1 H locs ls hd hP hS hl
        refine lv_iadd hx hb dX7_inLog_27 ?_
        refine lv_istore_n (lv' := [(1, .int (s1 + s0)), (0, .ref (Z.2.1)), (2, .int (x2))]) hx hb dX7_inLog_28 rfl hl (by decide) rfl (fun ls hl => ?_)
        refine lv_iinc (v := x2 + 1) (lv' := [(2, .int (x2 + 1)), (1, .int (s1 + s0)), (0, .ref (Z.2.1))]) hx hb dX7_inLog_29 hl (k := 2) rfl rfl (by decide) rfl (fun ls hl => ?_)
        refine lv_goto (tgt := 4) hx hb dX7_inLog_32 (by decide) ?_
        refine W.widen (k := 0) (n := 0) (Nat.le_of_ble_eq_true rfl) (Nat.le_of_ble_eq_true rfl) ?_
        exact ih4 u (s1 + s0) (x2 + 1) _ _ _ hd hP hS (lv_sub hl [2, 1, 0] rfl)
      intro u x1 x2 H locs ls hd hP hS hl
      have hd : f_X7_inLog_4_b (f_X7_inLog_4 n4) u x1 x2 = some (r, u') := hd
      refine lv_iload_n hx hb dX7_inLog_4 rfl (lv_at hl 2 rfl) ?_
      refine lv_aload_n hx hb dX7_inLog_5 rfl (lv_at hl 0 rfl) ?_
      refine x_getI (own := RX7) (ref := RX7) hx hb hts hin10 hown hM.1 hZ hP 13 (by decide) (hts (.fieldLink RX7 115 "CellNotebookModel" "runs" "I") (by decide +kernel)) (fun _ h9 => h9) dX7_inLog_6 ?_
      refine lv_icmp_gt (tgt := 35) hx hb dX7_inLog_9 (by decide) (fun c101 => ?_) (fun c101 => ?_)
      · have hd := m_i_t c101 hd
        refine lv_iload_n hx hb dX7_inLog_35 rfl (lv_at hl 1 rfl) ?_
        obtain ⟨e1, e2⟩ := m_s_e hd
        have e2 := congrArg (x_ov Z) e2
        refine W.widen (k := 0) (n := 0) (Nat.le_of_ble_eq_true rfl) (Nat.le_of_ble_eq_true rfl) ?_
        exact W.iret hx hb hr (fun t ht hW => ⟨⟨_, (x_ov Z u), rfl, ⟨e1, e2⟩, by show mP _ _ t.heap; rw [ht]; exact hP⟩, hS.F ht⟩) hS.2.2 dX7_inLog_36
      · have hd := m_i_f c101 hd
        refine lv_iload_n hx hb dX7_inLog_12 rfl (lv_at hl 1 rfl) ?_
        refine lv_aload_n hx hb dX7_inLog_13 rfl (lv_at hl 0 rfl) ?_
        refine x_getA (own := RX7) (ref := RX7) hx hb hts hin10 hown hM.1 hZ hP 19 (by decide) (hts (.fieldLink RX7 62 "CellNotebookModel" "gone" "[Z") (by decide +kernel)) (fun _ h9 => h9) dX7_inLog_14 ?_
        refine lv_iload_n hx hb dX7_inLog_17 rfl (lv_at hl 2 rfl) ?_
        obtain ⟨hg102, hd⟩ := m_g_e hd
        refine x_zald hx hb hM.1 hZ hP 19 (by decide) hg102 dX7_inLog_18 ?_
        refine lv_if_eq (tgt := 26) hx hb dX7_inLog_19 (by decide) (fun c103 => ?_) (fun c103 => ?_)
        · have hd := m_i_t c103 hd
          refine lv_iconst (v := 1) hx hb dX7_inLog_26 (by decide) ?_
          refine W.widen (k := 0) (n := 0) (Nat.le_of_ble_eq_true rfl) (Nat.le_of_ble_eq_true rfl) ?_
          exact J27 u x2 1 x1 _ _ _ hd hP hS (lv_sub hl [0, 2] rfl)
        · have hd := m_i_f c103 hd
          refine lv_iconst (v := 0) hx hb dX7_inLog_22 (by decide) ?_
          refine lv_goto (tgt := 27) hx hb dX7_inLog_23 (by decide) ?_
          refine W.widen (k := 0) (n := 0) (Nat.le_of_ble_eq_true rfl) (Nat.le_of_ble_eq_true rfl) ?_
          exact J27 u x2 0 x1 _ _ _ hd hP hS (lv_sub hl [0, 2] rfl)
  have hl := lv_entry ([.ref (Z.2.1)]) (n := 3) (Nat.le_of_ble_eq_true rfl)
  rw [lg_entry_eq]
  generalize (lg_sl ([.ref (Z.2.1)]) ++ List.replicate (3 - (lg_sl ([.ref (Z.2.1)])).length) Slot.unset).toArray = ls at hl ⊢
  have hl : lv_has ls 3 [(0, .ref (Z.2.1))] := hl
  refine lv_iconst (v := 0) hx hb dX7_inLog_0 (by decide) ?_
  refine lv_istore_n (lv' := [(1, .int (0)), (0, .ref (Z.2.1))]) hx hb dX7_inLog_1 rfl hl (by decide) rfl (fun ls hl => ?_)
  refine lv_iconst (v := 1) hx hb dX7_inLog_2 (by decide) ?_
  refine lv_istore_n (lv' := [(2, .int (1)), (1, .int (0)), (0, .ref (Z.2.1))]) hx hb dX7_inLog_3 rfl hl (by decide) rfl (fun ls hl => ?_)
  refine W.widen (k := 0) (n := 0) (Nat.le_of_ble_eq_true rfl) (Nat.le_of_ble_eq_true rfl) ?_
  exact J4 m_N u 0 1 _ _ _ hd hP hS (lv_sub hl [2, 1, 0] rfl)


noncomputable def f_X7_logged (u : xS)  : Option (Int32 × xS) := m_b (f_X7_inLog u) fun r1 u2 => m_b (f_X7_told u2 r1) fun r4 u5 => some (r4, u5)
set_option maxHeartbeats 1000000 in
set_option maxRecDepth 100000 in
theorem c_X7_logged (l : Launch) (G : m_G) (Z : xB) (hZ : x_ok Z) (u u' : xS)  (r : Int32) (hd : f_X7_logged u = some (r, u')) : Met l yX7_logged wsX7_logged ({ frames := 1, cells := 0, slots := 0, locals := 22 } : Room) (m_Pc G (x_ov Z u) [.ref (Z.2.1)]) (m_Qi G r (x_ov Z u')) 0 0 (fun q => G.1 ≤ q) := by
  refine Met.ofW (cc := cX7_logged) (maxL := 1) (ret := (some .int)) (by decide +kernel) rfl ?_
  intro p e s m args below meth c s₁ B hml hv
  obtain ⟨rfl, hM, hP⟩ := hv
  have hx := B.exec
  have hb := B.bytes
  have hr := B.returns
  have hts := atoms_spec (ws := wsX7_logged) B.pre
  have hown : s.vm.findClass RX7 = some m.cls := findClass_of_methodNamed B.named
  have hlocks := B.notSynchronized
  have hS : va_S (fun q => G.1 ≤ q) s.heap s.heap [] := va_S.rf
  have hl := lv_entry ([.ref (Z.2.1)]) (n := 1) (Nat.le_of_ble_eq_true rfl)
  rw [lg_entry_eq]
  generalize (lg_sl ([.ref (Z.2.1)]) ++ List.replicate (1 - (lg_sl ([.ref (Z.2.1)])).length) Slot.unset).toArray = ls at hl ⊢
  have hl : lv_has ls 1 [(0, .ref (Z.2.1))] := hl
  refine lv_aload_n hx hb dX7_logged_0 rfl (lv_at hl 0 rfl) ?_
  refine lv_aload_n hx hb dX7_logged_1 rfl (lv_at hl 0 rfl) ?_
  obtain ⟨r1, u2, hc3, hd⟩ := m_b_e hd
  refine m_calli (k := 0) (n := 0) (va_runV (As := []) (rest := [.ref (Z.2.1)]) ⟨hx, hb, hml, hown, hts⟩ (c_X7_inLog l G Z hZ u u2  r1 hc3) (cwV 0 hts gX7_logged_X7_inLog rfl rfl rfl (by decide +kernel) ⟨(Nat.le_of_ble_eq_true rfl), (Nat.le_of_ble_eq_true rfl)⟩) (m_preV (C := RX7) (T := TX7) (N := 32) hM hP hS rfl (by decide) hZ.1) rfl rfl hl.1 rfl (lv_room (Nat.le_of_ble_eq_true rfl)) dX7_logged_2 ⟨(Nat.le_of_ble_eq_true rfl), (Nat.le_of_ble_eq_true rfl)⟩) hS ⟨(Nat.le_of_ble_eq_true rfl), (Nat.le_of_ble_eq_true rfl)⟩ (fun H locs hP hS => ?_)
  obtain ⟨r4, u5, hc6, hd⟩ := m_b_e hd
  refine m_calli (k := 0) (n := 0) (va_runV (As := [.int (r1)]) (rest := []) ⟨hx, hb, hml, hown, hts⟩ (c_X7_told l G Z hZ u2 u5 r1 r4 hc6) (cwV 1 hts gX7_logged_X7_told rfl rfl rfl (by decide +kernel) ⟨(Nat.le_of_ble_eq_true rfl), (Nat.le_of_ble_eq_true rfl)⟩) (m_preV (C := RX7) (T := TX7) (N := 32) hM hP hS rfl (by decide) hZ.1) rfl rfl hl.1 rfl (lv_room (Nat.le_of_ble_eq_true rfl)) dX7_logged_5 ⟨(Nat.le_of_ble_eq_true rfl), (Nat.le_of_ble_eq_true rfl)⟩) hS ⟨(Nat.le_of_ble_eq_true rfl), (Nat.le_of_ble_eq_true rfl)⟩ (fun H locs hP hS => ?_)
  obtain ⟨e1, e2⟩ := m_s_e hd
  have e2 := congrArg (x_ov Z) e2
  refine W.widen (k := 0) (n := 0) (Nat.le_of_ble_eq_true rfl) (Nat.le_of_ble_eq_true rfl) ?_
  exact W.iret hx hb hr (fun t ht hW => ⟨⟨_, (x_ov Z u5), rfl, ⟨e1, e2⟩, by show mP _ _ t.heap; rw [ht]; exact hP⟩, hS.F ht⟩) hS.2.2 dX7_logged_8


noncomputable def f_X7_logAt_54 (k26 : xS → Int32 → Int32 → Option (Int32 × xS)) (u : xS) (x3 : Int32) (s0 : Int32) (s1 : Int32) : Option (Int32 × xS) := k26 u (s1 - s0) (x3 + 1)
noncomputable def f_X7_logAt_39 (k26 : xS → Int32 → Int32 → Option (Int32 × xS)) (u : xS) (x2 : Int32) (x3 : Int32) : Option (Int32 × xS) := m_g (¬ (x3 < 0 ∨ 401 ≤ x3.toNatClampNeg)) <| if (u.2 19 x3.toNatClampNeg) = (0 : Int32) then (f_X7_logAt_54 k26 u x3 1 x2) else (f_X7_logAt_54 k26 u x3 0 x2)
noncomputable def f_X7_logAt_26_b (k26 : xS → Int32 → Int32 → Option (Int32 × xS)) (u : xS) (x2 : Int32) (x3 : Int32) : Option (Int32 × xS) := m_g (¬ (x3 < 0 ∨ 401 ≤ x3.toNatClampNeg)) <| if (u.2 19 x3.toNatClampNeg) = (0 : Int32) then (if x2 ≤ (0 : Int32) then (m_g (¬ (x3 < 0 ∨ 401 ≤ x3.toNatClampNeg)) <| m_g (¬ (x3 < 0 ∨ 401 ≤ x3.toNatClampNeg)) <| some (((1000 * x3) + (10 * (u.2 14 x3.toNatClampNeg))) + (u.2 15 x3.toNatClampNeg), u)) else (f_X7_logAt_39 k26 u x2 x3)) else (f_X7_logAt_39 k26 u x2 x3)
noncomputable def f_X7_logAt_26 (n : Nat) : xS → Int32 → Int32 → Option (Int32 × xS) := Nat.rec (motive := fun _ => xS → Int32 → Int32 → Option (Int32 × xS)) (fun _ _ _ => none) (fun _ k => f_X7_logAt_26_b  k) n
noncomputable def f_X7_logAt (u : xS) (p0 : Int32) : Option (Int32 × xS) := m_b (f_X7_inLog u) fun r1 u2 => m_b (f_X7_in u2 p0 0 (r1 - 1)) fun r4 u5 => m_b (f_X7_goes u5 r4 1 1) fun r7 u8 => if r7 = (0 : Int32) then (some (0, u8)) else (f_X7_logAt_26 m_N u8 p0 1)
set_option maxHeartbeats 1000000 in
set_option maxRecDepth 100000 in
theorem c_X7_logAt (l : Launch) (G : m_G) (Z : xB) (hZ : x_ok Z) (u u' : xS) (p0 : Int32) (r : Int32) (hd : f_X7_logAt u p0 = some (r, u')) : Met l yX7_logAt wsX7_logAt ({ frames := 1, cells := 0, slots := 0, locals := 23 } : Room) (m_Pc G (x_ov Z u) [.ref (Z.2.1), .int (p0)]) (m_Qi G r (x_ov Z u')) 0 0 (fun q => G.1 ≤ q) := by
  refine Met.ofW (cc := cX7_logAt) (maxL := 4) (ret := (some .int)) (by decide +kernel) rfl ?_
  intro p e s m args below meth c s₁ B hml hv
  obtain ⟨rfl, hM, hP⟩ := hv
  have hx := B.exec
  have hb := B.bytes
  have hr := B.returns
  have hts := atoms_spec (ws := wsX7_logAt) B.pre
  have hown : s.vm.findClass RX7 = some m.cls := findClass_of_methodNamed B.named
  have hlocks := B.notSynchronized
  have hin10 : ∀ w ∈ u_ws RX7 TX7 32, w ∈ wsX7_logAt := by decide +kernel
  have hS : va_S (fun q => G.1 ≤ q) s.heap s.heap [] := va_S.rf
  have J26 : ∀ (n26 : Nat) (u : xS) (x2 : Int32) (x3 : Int32) (H : Heap) (locs : List Loc) (ls : Array Slot), f_X7_logAt_26 n26 u x2 x3 = some (r, u') → mP G (x_ov Z u) H → va_S (fun q => G.1 ≤ q) s.heap H locs → lv_has ls 4 [(0, .ref (Z.2.1)), (2, .int (x2)), (3, .int (x3))] → W p l e ({ frames := 1, cells := 0, slots := 0, locals := 23 } : Room) s m ([.ref (Z.2.1), .int (p0)] : List Value).toArray below meth c H locs 0 0 (MQ below (m_Qi G r (x_ov Z u')) ([.ref (Z.2.1), .int (p0)] : List Value).toArray s 0 0 (fun q => G.1 ≤ q)) (F0 m 26 ls []) := by
    intro n26
    induction n26 with
    | zero => intro u x2 x3 H locs ls hd; exact absurd (show (none : Option (Int32 × xS)) = some _ from hd) (fun h => nomatch h)
    | succ n26 ih26 =>
      have J54 : ∀ (u : xS) (x3 : Int32) (s0 : Int32) (s1 : Int32) (H : Heap) (locs : List Loc) (ls : Array Slot), f_X7_logAt_54 (f_X7_logAt_26 n26) u x3 s0 s1 = some (r, u') → mP G (x_ov Z u) H → va_S (fun q => G.1 ≤ q) s.heap H locs → lv_has ls 4 [(0, .ref (Z.2.1)), (3, .int (x3))] → W p l e ({ frames := 1, cells := 0, slots := 0, locals := 23 } : Room) s m ([.ref (Z.2.1), .int (p0)] : List Value).toArray below meth c H locs 0 0 (MQ below (m_Qi G r (x_ov Z u')) ([.ref (Z.2.1), .int (p0)] : List Value).toArray s 0 0 (fun q => G.1 ≤ q)) (F0 m 54 ls [.int (s0), .int (s1)]) := by
        intro u x3 s0 s1 H locs ls hd hP hS hl
        refine lv_isub hx hb dX7_logAt_54 ?_
        refine lv_istore_n (lv' := [(2, .int (s1 - s0)), (0, .ref (Z.2.1)), (3, .int (x3))]) hx hb dX7_logAt_55 rfl hl (by decide) rfl (fun ls hl => ?_)
        refine lv_iinc (v := x3 + 1) (lv' := [(3, .int (x3 + 1)), (2, .int (s1 - s0)), (0, .ref (Z.2.1))]) hx hb dX7_logAt_56 hl (k := 2) rfl rfl (by decide) rfl (fun ls hl => ?_)
        refine lv_goto (tgt := 26) hx hb dX7_logAt_59 (by decide) ?_
        refine W.widen (k := 0) (n := 0) (Nat.le_of_ble_eq_true rfl) (Nat.le_of_ble_eq_true rfl) ?_
        exact ih26 u (s1 - s0) (x3 + 1) _ _ _ hd hP hS (lv_sub hl [2, 1, 0] rfl)
      have J39 : ∀ (u : xS) (x2 : Int32) (x3 : Int32) (H : Heap) (locs : List Loc) (ls : Array Slot), f_X7_logAt_39 (f_X7_logAt_26 n26) u x2 x3 = some (r, u') → mP G (x_ov Z u) H → va_S (fun q => G.1 ≤ q) s.heap H locs → lv_has ls 4 [(0, .ref (Z.2.1)), (2, .int (x2)), (3, .int (x3))] → W p l e ({ frames := 1, cells := 0, slots := 0, locals := 23 } : Room) s m ([.ref (Z.2.1), .int (p0)] : List Value).toArray below meth c H locs 0 0 (MQ below (m_Qi G r (x_ov Z u')) ([.ref (Z.2.1), .int (p0)] : List Value).toArray s 0 0 (fun q => G.1 ≤ q)) (F0 m 39 ls []) := by
        intro u x2 x3 H locs ls hd hP hS hl
        refine lv_iload_n hx hb dX7_logAt_39 rfl (lv_at hl 1 rfl) ?_
        refine lv_aload_n hx hb dX7_logAt_40 rfl (lv_at hl 0 rfl) ?_
        refine x_getA (own := RX7) (ref := RX7) hx hb hts hin10 hown hM.1 hZ hP 19 (by decide) (hts (.fieldLink RX7 62 "CellNotebookModel" "gone" "[Z") (by decide +kernel)) (fun _ h9 => h9) dX7_logAt_41 ?_
        refine lv_iload_n hx hb dX7_logAt_44 rfl (lv_at hl 2 rfl) ?_
        obtain ⟨hg216, hd⟩ := m_g_e hd
        refine x_zald hx hb hM.1 hZ hP 19 (by decide) hg216 dX7_logAt_45 ?_
        refine lv_if_eq (tgt := 53) hx hb dX7_logAt_46 (by decide) (fun c217 => ?_) (fun c217 => ?_)
        · have hd := m_i_t c217 hd
          refine lv_iconst (v := 1) hx hb dX7_logAt_53 (by decide) ?_
          refine W.widen (k := 0) (n := 0) (Nat.le_of_ble_eq_true rfl) (Nat.le_of_ble_eq_true rfl) ?_
          exact J54 u x3 1 x2 _ _ _ hd hP hS (lv_sub hl [0, 2] rfl)
        · have hd := m_i_f c217 hd
          refine lv_iconst (v := 0) hx hb dX7_logAt_49 (by decide) ?_
          refine lv_goto (tgt := 54) hx hb dX7_logAt_50 (by decide) ?_
          refine W.widen (k := 0) (n := 0) (Nat.le_of_ble_eq_true rfl) (Nat.le_of_ble_eq_true rfl) ?_
          exact J54 u x3 0 x2 _ _ _ hd hP hS (lv_sub hl [0, 2] rfl)
      intro u x2 x3 H locs ls hd hP hS hl
      have hd : f_X7_logAt_26_b (f_X7_logAt_26 n26) u x2 x3 = some (r, u') := hd
      refine lv_aload_n hx hb dX7_logAt_26 rfl (lv_at hl 0 rfl) ?_
      refine x_getA (own := RX7) (ref := RX7) hx hb hts hin10 hown hM.1 hZ hP 19 (by decide) (hts (.fieldLink RX7 62 "CellNotebookModel" "gone" "[Z") (by decide +kernel)) (fun _ h9 => h9) dX7_logAt_27 ?_
      refine lv_iload_n hx hb dX7_logAt_30 rfl (lv_at hl 2 rfl) ?_
      obtain ⟨hg111, hd⟩ := m_g_e hd
      refine x_zald hx hb hM.1 hZ hP 19 (by decide) hg111 dX7_logAt_31 ?_
      refine lv_if_ne (tgt := 39) hx hb dX7_logAt_32 (by decide) (fun c112 => ?_) (fun c112 => ?_)
      · have hd := m_i_f c112 hd
        refine W.widen (k := 0) (n := 0) (Nat.le_of_ble_eq_true rfl) (Nat.le_of_ble_eq_true rfl) ?_
        exact J39 u x2 x3 _ _ _ hd hP hS (lv_sub hl [0, 1, 2] rfl)
      · have hd := m_i_t c112 hd
        refine lv_iload_n hx hb dX7_logAt_35 rfl (lv_at hl 1 rfl) ?_
        refine lv_if_le (tgt := 62) hx hb dX7_logAt_36 (by decide) (fun c113 => ?_) (fun c113 => ?_)
        · have hd := m_i_t c113 hd
          refine lv_sipush (v := 1000) hx hb dX7_logAt_62 (by decide) ?_
          refine lv_iload_n hx hb dX7_logAt_65 rfl (lv_at hl 2 rfl) ?_
          refine lv_imul hx hb dX7_logAt_66 ?_
          refine lv_bipush (v := 10) hx hb dX7_logAt_67 (by decide) ?_
          refine lv_aload_n hx hb dX7_logAt_69 rfl (lv_at hl 0 rfl) ?_
          refine x_getA (own := RX7) (ref := RX7) hx hb hts hin10 hown hM.1 hZ hP 14 (by decide) (hts (.fieldLink RX7 46 "CellNotebookModel" "cell" "[I") (by decide +kernel)) (fun _ h9 => h9) dX7_logAt_70 ?_
          refine lv_iload_n hx hb dX7_logAt_73 rfl (lv_at hl 2 rfl) ?_
          obtain ⟨hg114, hd⟩ := m_g_e hd
          refine x_ald hx hb hM.1 hZ hP 14 (by decide) hg114 dX7_logAt_74 ?_
          refine lv_imul hx hb dX7_logAt_75 ?_
          refine lv_iadd hx hb dX7_logAt_76 ?_
          refine lv_aload_n hx hb dX7_logAt_77 rfl (lv_at hl 0 rfl) ?_
          refine x_getA (own := RX7) (ref := RX7) hx hb hts hin10 hown hM.1 hZ hP 15 (by decide) (hts (.fieldLink RX7 49 "CellNotebookModel" "user" "[I") (by decide +kernel)) (fun _ h9 => h9) dX7_logAt_78 ?_
          refine lv_iload_n hx hb dX7_logAt_81 rfl (lv_at hl 2 rfl) ?_
          obtain ⟨hg115, hd⟩ := m_g_e hd
          refine x_ald hx hb hM.1 hZ hP 15 (by decide) hg115 dX7_logAt_82 ?_
          refine lv_iadd hx hb dX7_logAt_83 ?_
          obtain ⟨e1, e2⟩ := m_s_e hd
          have e2 := congrArg (x_ov Z) e2
          refine W.widen (k := 0) (n := 0) (Nat.le_of_ble_eq_true rfl) (Nat.le_of_ble_eq_true rfl) ?_
          exact W.iret hx hb hr (fun t ht hW => ⟨⟨_, (x_ov Z u), rfl, ⟨e1, e2⟩, by show mP _ _ t.heap; rw [ht]; exact hP⟩, hS.F ht⟩) hS.2.2 dX7_logAt_84
        · have hd := m_i_f c113 hd
          refine W.widen (k := 0) (n := 0) (Nat.le_of_ble_eq_true rfl) (Nat.le_of_ble_eq_true rfl) ?_
          exact J39 u x2 x3 _ _ _ hd hP hS (lv_sub hl [0, 1, 2] rfl)
  have hl := lv_entry ([.ref (Z.2.1), .int (p0)]) (n := 4) (Nat.le_of_ble_eq_true rfl)
  rw [lg_entry_eq]
  generalize (lg_sl ([.ref (Z.2.1), .int (p0)]) ++ List.replicate (4 - (lg_sl ([.ref (Z.2.1), .int (p0)])).length) Slot.unset).toArray = ls at hl ⊢
  have hl : lv_has ls 4 [(0, .ref (Z.2.1)), (1, .int (p0))] := hl
  refine lv_aload_n hx hb dX7_logAt_0 rfl (lv_at hl 0 rfl) ?_
  refine lv_iload_n hx hb dX7_logAt_1 rfl (lv_at hl 1 rfl) ?_
  refine lv_iconst (v := 0) hx hb dX7_logAt_2 (by decide) ?_
  refine lv_aload_n hx hb dX7_logAt_3 rfl (lv_at hl 0 rfl) ?_
  obtain ⟨r1, u2, hc3, hd⟩ := m_b_e hd
  refine m_calli (k := 0) (n := 0) (va_runV (As := []) (rest := [.int (0), .int (p0), .ref (Z.2.1)]) ⟨hx, hb, hml, hown, hts⟩ (c_X7_inLog l G Z hZ u u2  r1 hc3) (cwV 0 hts gX7_logAt_X7_inLog rfl rfl rfl (by decide +kernel) ⟨(Nat.le_of_ble_eq_true rfl), (Nat.le_of_ble_eq_true rfl)⟩) (m_preV (C := RX7) (T := TX7) (N := 32) hM hP hS rfl (by decide) hZ.1) rfl rfl hl.1 rfl (lv_room (Nat.le_of_ble_eq_true rfl)) dX7_logAt_4 ⟨(Nat.le_of_ble_eq_true rfl), (Nat.le_of_ble_eq_true rfl)⟩) hS ⟨(Nat.le_of_ble_eq_true rfl), (Nat.le_of_ble_eq_true rfl)⟩ (fun H locs hP hS => ?_)
  refine lv_iconst (v := 1) hx hb dX7_logAt_7 (by decide) ?_
  refine lv_isub hx hb dX7_logAt_8 ?_
  obtain ⟨r4, u5, hc6, hd⟩ := m_b_e hd
  refine m_calli (k := 0) (n := 0) (va_runS (As := [.int (p0), .int (0), .int (r1 - 1)]) (rest := [.ref (Z.2.1)]) ⟨hx, hb, hml, hown, hts⟩ (c_X7_in l G Z hZ u2 u5 p0 0 (r1 - 1) r4 hc6) (va_cwS 3 hts gX7_logAt_X7_in rfl rfl rfl (by decide +kernel) ⟨(Nat.le_of_ble_eq_true rfl), (Nat.le_of_ble_eq_true rfl)⟩) (m_preS hM hP hS) rfl rfl hl.1 rfl (lv_room (Nat.le_of_ble_eq_true rfl)) dX7_logAt_9 ⟨(Nat.le_of_ble_eq_true rfl), (Nat.le_of_ble_eq_true rfl)⟩) hS ⟨(Nat.le_of_ble_eq_true rfl), (Nat.le_of_ble_eq_true rfl)⟩ (fun H locs hP hS => ?_)
  refine lv_iconst (v := 1) hx hb dX7_logAt_12 (by decide) ?_
  refine lv_iconst (v := 1) hx hb dX7_logAt_13 (by decide) ?_
  obtain ⟨r7, u8, hc9, hd⟩ := m_b_e hd
  refine m_calli (k := 0) (n := 0) (va_runV (As := [.int (r4), .int (1), .int (1)]) (rest := []) ⟨hx, hb, hml, hown, hts⟩ (c_X7_goes l G Z hZ u5 u8 r4 1 1 r7 hc9) (cwV 3 hts gX7_logAt_X7_goes rfl rfl rfl (by decide +kernel) ⟨(Nat.le_of_ble_eq_true rfl), (Nat.le_of_ble_eq_true rfl)⟩) (m_preV (C := RX7) (T := TX7) (N := 32) hM hP hS rfl (by decide) hZ.1) rfl rfl hl.1 rfl (lv_room (Nat.le_of_ble_eq_true rfl)) dX7_logAt_14 ⟨(Nat.le_of_ble_eq_true rfl), (Nat.le_of_ble_eq_true rfl)⟩) hS ⟨(Nat.le_of_ble_eq_true rfl), (Nat.le_of_ble_eq_true rfl)⟩ (fun H locs hP hS => ?_)
  refine lv_if_ne (tgt := 22) hx hb dX7_logAt_17 (by decide) (fun c10 => ?_) (fun c10 => ?_)
  · have hd := m_i_f c10 hd
    refine lv_iload_n hx hb dX7_logAt_22 rfl (lv_at hl 1 rfl) ?_
    refine lv_istore_n (lv' := [(2, .int (p0)), (0, .ref (Z.2.1)), (1, .int (p0))]) hx hb dX7_logAt_23 rfl hl (by decide) rfl (fun ls hl => ?_)
    refine lv_iconst (v := 1) hx hb dX7_logAt_24 (by decide) ?_
    refine lv_istore_n (lv' := [(3, .int (1)), (2, .int (p0)), (0, .ref (Z.2.1)), (1, .int (p0))]) hx hb dX7_logAt_25 rfl hl (by decide) rfl (fun ls hl => ?_)
    refine W.widen (k := 0) (n := 0) (Nat.le_of_ble_eq_true rfl) (Nat.le_of_ble_eq_true rfl) ?_
    exact J26 m_N u8 p0 1 _ _ _ hd hP hS (lv_sub hl [2, 1, 0] rfl)
  · have hd := m_i_t c10 hd
    refine lv_iconst (v := 0) hx hb dX7_logAt_20 (by decide) ?_
    obtain ⟨e1, e2⟩ := m_s_e hd
    have e2 := congrArg (x_ov Z) e2
    refine W.widen (k := 0) (n := 0) (Nat.le_of_ble_eq_true rfl) (Nat.le_of_ble_eq_true rfl) ?_
    exact W.iret hx hb hr (fun t ht hW => ⟨⟨_, (x_ov Z u8), rfl, ⟨e1, e2⟩, by show mP _ _ t.heap; rw [ht]; exact hP⟩, hS.F ht⟩) hS.2.2 dX7_logAt_21


noncomputable def f_X7_forget_71 (k19 : xS → Int32 → Int32 → Int32 → Option (Int32 × xS)) (u : xS) (x1 : Int32) (x2 : Int32) (x3 : Int32) : Option (Int32 × xS) := k19 u x1 x2 (x3 + 1)
noncomputable def f_X7_forget_19_b (k19 : xS → Int32 → Int32 → Int32 → Option (Int32 × xS)) (u : xS) (x1 : Int32) (x2 : Int32) (x3 : Int32) : Option (Int32 × xS) := if (u.1 13) < x3 then (some (x2, u)) else (m_g (¬ (x3 < 0 ∨ 401 ≤ x3.toNatClampNeg)) <| if (u.2 19 x3.toNatClampNeg) = (0 : Int32) then (m_g (¬ (x3 < 0 ∨ 401 ≤ x3.toNatClampNeg)) <| if (u.2 15 x3.toNatClampNeg) = x1 then (m_g (¬ (x3 < 0 ∨ 401 ≤ x3.toNatClampNeg)) <| m_g (¬ ((u.2 14 x3.toNatClampNeg) < 0 ∨ 16 ≤ (u.2 14 x3.toNatClampNeg).toNatClampNeg)) <| if (u.2 8 (u.2 14 x3.toNatClampNeg).toNatClampNeg) = x3 then (f_X7_forget_71 k19 u x1 x2 x3) else (m_g (¬ (x3 < 0 ∨ 401 ≤ x3.toNatClampNeg)) <| m_l (x_sA u 19 (x3.toNatClampNeg) (vp_nar .boolean 1)) fun u117 => f_X7_forget_71 k19 u117 x1 (x2 + 1) x3)) else (f_X7_forget_71 k19 u x1 x2 x3)) else (f_X7_forget_71 k19 u x1 x2 x3))
noncomputable def f_X7_forget_19 (n : Nat) : xS → Int32 → Int32 → Int32 → Option (Int32 × xS) := Nat.rec (motive := fun _ => xS → Int32 → Int32 → Int32 → Option (Int32 × xS)) (fun _ _ _ _ => none) (fun _ k => f_X7_forget_19_b  k) n
noncomputable def f_X7_forget (u : xS) (p0 : Int32) : Option (Int32 × xS) := m_b (f_X7_isUser u p0) fun r1 u2 => m_b (f_X7_goes u2 r1 1 1) fun r4 u5 => if r4 = (0 : Int32) then (some (0, u5)) else (f_X7_forget_19 m_N u5 p0 0 1)
set_option maxHeartbeats 1000000 in
set_option maxRecDepth 100000 in
theorem c_X7_forget (l : Launch) (G : m_G) (Z : xB) (hZ : x_ok Z) (u u' : xS) (p0 : Int32) (r : Int32) (hd : f_X7_forget u p0 = some (r, u')) : Met l yX7_forget wsX7_forget ({ frames := 2, cells := 0, slots := 0, locals := 42 } : Room) (m_Pc G (x_ov Z u) [.ref (Z.2.1), .int (p0)]) (m_Qi G r (x_ov Z u')) 0 0 (fun q => G.1 ≤ q) := by
  refine Met.ofW (cc := cX7_forget) (maxL := 4) (ret := (some .int)) (by decide +kernel) rfl ?_
  intro p e s m args below meth c s₁ B hml hv
  obtain ⟨rfl, hM, hP⟩ := hv
  have hx := B.exec
  have hb := B.bytes
  have hr := B.returns
  have hts := atoms_spec (ws := wsX7_forget) B.pre
  have hown : s.vm.findClass RX7 = some m.cls := findClass_of_methodNamed B.named
  have hlocks := B.notSynchronized
  have hin10 : ∀ w ∈ u_ws RX7 TX7 32, w ∈ wsX7_forget := by decide +kernel
  have hS : va_S (fun q => G.1 ≤ q) s.heap s.heap [] := va_S.rf
  have J19 : ∀ (n19 : Nat) (u : xS) (x1 : Int32) (x2 : Int32) (x3 : Int32) (H : Heap) (locs : List Loc) (ls : Array Slot), f_X7_forget_19 n19 u x1 x2 x3 = some (r, u') → mP G (x_ov Z u) H → va_S (fun q => G.1 ≤ q) s.heap H locs → lv_has ls 4 [(0, .ref (Z.2.1)), (1, .int (x1)), (2, .int (x2)), (3, .int (x3))] → W p l e ({ frames := 2, cells := 0, slots := 0, locals := 42 } : Room) s m ([.ref (Z.2.1), .int (p0)] : List Value).toArray below meth c H locs 0 0 (MQ below (m_Qi G r (x_ov Z u')) ([.ref (Z.2.1), .int (p0)] : List Value).toArray s 0 0 (fun q => G.1 ≤ q)) (F0 m 19 ls []) := by
    intro n19
    induction n19 with
    | zero => intro u x1 x2 x3 H locs ls hd; exact absurd (show (none : Option (Int32 × xS)) = some _ from hd) (fun h => nomatch h)
    | succ n19 ih19 =>
      have J71 : ∀ (u : xS) (x1 : Int32) (x2 : Int32) (x3 : Int32) (H : Heap) (locs : List Loc) (ls : Array Slot), f_X7_forget_71 (f_X7_forget_19 n19) u x1 x2 x3 = some (r, u') → mP G (x_ov Z u) H → va_S (fun q => G.1 ≤ q) s.heap H locs → lv_has ls 4 [(0, .ref (Z.2.1)), (1, .int (x1)), (2, .int (x2)), (3, .int (x3))] → W p l e ({ frames := 2, cells := 0, slots := 0, locals := 42 } : Room) s m ([.ref (Z.2.1), .int (p0)] : List Value).toArray below meth c H locs 0 0 (MQ below (m_Qi G r (x_ov Z u')) ([.ref (Z.2.1), .int (p0)] : List Value).toArray s 0 0 (fun q => G.1 ≤ q)) (F0 m 71 ls []) := by
        intro u x1 x2 x3 H locs ls hd hP hS hl
        refine lv_iinc (v := x3 + 1) (lv' := [(3, .int (x3 + 1)), (0, .ref (Z.2.1)), (1, .int (x1)), (2, .int (x2))]) hx hb dX7_forget_71 hl (k := 3) rfl rfl (by decide) rfl (fun ls hl => ?_)
        refine lv_goto (tgt := 19) hx hb dX7_forget_74 (by decide) ?_
        refine W.widen (k := 0) (n := 0) (Nat.le_of_ble_eq_true rfl) (Nat.le_of_ble_eq_true rfl) ?_
        exact ih19 u x1 x2 (x3 + 1) _ _ _ hd hP hS (lv_sub hl [1, 2, 3, 0] rfl)
      intro u x1 x2 x3 H locs ls hd hP hS hl
      have hd : f_X7_forget_19_b (f_X7_forget_19 n19) u x1 x2 x3 = some (r, u') := hd
      refine lv_iload_n hx hb dX7_forget_19 rfl (lv_at hl 3 rfl) ?_
      refine lv_aload_n hx hb dX7_forget_20 rfl (lv_at hl 0 rfl) ?_
      refine x_getI (own := RX7) (ref := RX7) hx hb hts hin10 hown hM.1 hZ hP 13 (by decide) (hts (.fieldLink RX7 115 "CellNotebookModel" "runs" "I") (by decide +kernel)) (fun _ h9 => h9) dX7_forget_21 ?_
      refine lv_icmp_gt (tgt := 77) hx hb dX7_forget_24 (by decide) (fun c108 => ?_) (fun c108 => ?_)
      · have hd := m_i_t c108 hd
        refine lv_iload_n hx hb dX7_forget_77 rfl (lv_at hl 2 rfl) ?_
        obtain ⟨e1, e2⟩ := m_s_e hd
        have e2 := congrArg (x_ov Z) e2
        refine W.widen (k := 0) (n := 0) (Nat.le_of_ble_eq_true rfl) (Nat.le_of_ble_eq_true rfl) ?_
        exact W.iret hx hb hr (fun t ht hW => ⟨⟨_, (x_ov Z u), rfl, ⟨e1, e2⟩, by show mP _ _ t.heap; rw [ht]; exact hP⟩, hS.F ht⟩) hS.2.2 dX7_forget_78
      · have hd := m_i_f c108 hd
        refine lv_aload_n hx hb dX7_forget_27 rfl (lv_at hl 0 rfl) ?_
        refine x_getA (own := RX7) (ref := RX7) hx hb hts hin10 hown hM.1 hZ hP 19 (by decide) (hts (.fieldLink RX7 62 "CellNotebookModel" "gone" "[Z") (by decide +kernel)) (fun _ h9 => h9) dX7_forget_28 ?_
        refine lv_iload_n hx hb dX7_forget_31 rfl (lv_at hl 3 rfl) ?_
        obtain ⟨hg109, hd⟩ := m_g_e hd
        refine x_zald hx hb hM.1 hZ hP 19 (by decide) hg109 dX7_forget_32 ?_
        refine lv_if_ne (tgt := 71) hx hb dX7_forget_33 (by decide) (fun c110 => ?_) (fun c110 => ?_)
        · have hd := m_i_f c110 hd
          refine W.widen (k := 0) (n := 0) (Nat.le_of_ble_eq_true rfl) (Nat.le_of_ble_eq_true rfl) ?_
          exact J71 u x1 x2 x3 _ _ _ hd hP hS (lv_sub hl [0, 1, 2, 3] rfl)
        · have hd := m_i_t c110 hd
          refine lv_aload_n hx hb dX7_forget_36 rfl (lv_at hl 0 rfl) ?_
          refine x_getA (own := RX7) (ref := RX7) hx hb hts hin10 hown hM.1 hZ hP 15 (by decide) (hts (.fieldLink RX7 49 "CellNotebookModel" "user" "[I") (by decide +kernel)) (fun _ h9 => h9) dX7_forget_37 ?_
          refine lv_iload_n hx hb dX7_forget_40 rfl (lv_at hl 3 rfl) ?_
          obtain ⟨hg111, hd⟩ := m_g_e hd
          refine x_ald hx hb hM.1 hZ hP 15 (by decide) hg111 dX7_forget_41 ?_
          refine lv_iload_n hx hb dX7_forget_42 rfl (lv_at hl 1 rfl) ?_
          refine lv_icmp_ne (tgt := 71) hx hb dX7_forget_43 (by decide) (fun c112 => ?_) (fun c112 => ?_)
          · have hd := m_i_f c112 hd
            refine W.widen (k := 0) (n := 0) (Nat.le_of_ble_eq_true rfl) (Nat.le_of_ble_eq_true rfl) ?_
            exact J71 u x1 x2 x3 _ _ _ hd hP hS (lv_sub hl [0, 1, 2, 3] rfl)
          · have hd := m_i_t c112 hd
            refine lv_aload_n hx hb dX7_forget_46 rfl (lv_at hl 0 rfl) ?_
            refine x_getA (own := RX7) (ref := RX7) hx hb hts hin10 hown hM.1 hZ hP 8 (by decide) (hts (.fieldLink RX7 31 "CellNotebookModel" "last" "[I") (by decide +kernel)) (fun _ h9 => h9) dX7_forget_47 ?_
            refine lv_aload_n hx hb dX7_forget_50 rfl (lv_at hl 0 rfl) ?_
            refine x_getA (own := RX7) (ref := RX7) hx hb hts hin10 hown hM.1 hZ hP 14 (by decide) (hts (.fieldLink RX7 46 "CellNotebookModel" "cell" "[I") (by decide +kernel)) (fun _ h9 => h9) dX7_forget_51 ?_
            refine lv_iload_n hx hb dX7_forget_54 rfl (lv_at hl 3 rfl) ?_
            obtain ⟨hg113, hd⟩ := m_g_e hd
            refine x_ald hx hb hM.1 hZ hP 14 (by decide) hg113 dX7_forget_55 ?_
            obtain ⟨hg114, hd⟩ := m_g_e hd
            refine x_ald hx hb hM.1 hZ hP 8 (by decide) hg114 dX7_forget_56 ?_
            refine lv_iload_n hx hb dX7_forget_57 rfl (lv_at hl 3 rfl) ?_
            refine lv_icmp_eq (tgt := 71) hx hb dX7_forget_58 (by decide) (fun c115 => ?_) (fun c115 => ?_)
            · have hd := m_i_t c115 hd
              refine W.widen (k := 0) (n := 0) (Nat.le_of_ble_eq_true rfl) (Nat.le_of_ble_eq_true rfl) ?_
              exact J71 u x1 x2 x3 _ _ _ hd hP hS (lv_sub hl [0, 1, 2, 3] rfl)
            · have hd := m_i_f c115 hd
              refine lv_aload_n hx hb dX7_forget_61 rfl (lv_at hl 0 rfl) ?_
              refine x_getA (own := RX7) (ref := RX7) hx hb hts hin10 hown hM.1 hZ hP 19 (by decide) (hts (.fieldLink RX7 62 "CellNotebookModel" "gone" "[Z") (by decide +kernel)) (fun _ h9 => h9) dX7_forget_62 ?_
              refine lv_iload_n hx hb dX7_forget_65 rfl (lv_at hl 3 rfl) ?_
              refine lv_iconst (v := 1) hx hb dX7_forget_66 (by decide) ?_
              obtain ⟨hg116, hd⟩ := m_g_e hd
              refine x_zast hx hb hM.1 hZ hP hS 19 (by decide) hg116 dX7_forget_67 (fun H locs hP hS => ?_)
              obtain ⟨u117, ew, hd⟩ := m_l_e hd
              have hP : mP G (x_ov Z u117) H := by rw [ew]; exact hP
              refine lv_iinc (v := x2 + 1) (lv' := [(2, .int (x2 + 1)), (0, .ref (Z.2.1)), (1, .int (x1)), (3, .int (x3))]) hx hb dX7_forget_68 hl (k := 2) rfl rfl (by decide) rfl (fun ls hl => ?_)
              refine W.widen (k := 0) (n := 0) (Nat.le_of_ble_eq_true rfl) (Nat.le_of_ble_eq_true rfl) ?_
              exact J71 u117 x1 (x2 + 1) x3 _ _ _ hd hP hS (lv_sub hl [1, 2, 0, 3] rfl)
  have hl := lv_entry ([.ref (Z.2.1), .int (p0)]) (n := 4) (Nat.le_of_ble_eq_true rfl)
  rw [lg_entry_eq]
  generalize (lg_sl ([.ref (Z.2.1), .int (p0)]) ++ List.replicate (4 - (lg_sl ([.ref (Z.2.1), .int (p0)])).length) Slot.unset).toArray = ls at hl ⊢
  have hl : lv_has ls 4 [(0, .ref (Z.2.1)), (1, .int (p0))] := hl
  refine lv_aload_n hx hb dX7_forget_0 rfl (lv_at hl 0 rfl) ?_
  refine lv_iload_n hx hb dX7_forget_1 rfl (lv_at hl 1 rfl) ?_
  obtain ⟨r1, u2, hc3, hd⟩ := m_b_e hd
  refine m_calli (k := 0) (n := 0) (va_runS (As := [.int (p0)]) (rest := [.ref (Z.2.1)]) ⟨hx, hb, hml, hown, hts⟩ (c_X7_isUser l G Z hZ u u2 p0 r1 hc3) (va_cwS 1 hts gX7_forget_X7_isUser rfl rfl rfl (by decide +kernel) ⟨(Nat.le_of_ble_eq_true rfl), (Nat.le_of_ble_eq_true rfl)⟩) (m_preS hM hP hS) rfl rfl hl.1 rfl (lv_room (Nat.le_of_ble_eq_true rfl)) dX7_forget_2 ⟨(Nat.le_of_ble_eq_true rfl), (Nat.le_of_ble_eq_true rfl)⟩) hS ⟨(Nat.le_of_ble_eq_true rfl), (Nat.le_of_ble_eq_true rfl)⟩ (fun H locs hP hS => ?_)
  refine lv_iconst (v := 1) hx hb dX7_forget_5 (by decide) ?_
  refine lv_iconst (v := 1) hx hb dX7_forget_6 (by decide) ?_
  obtain ⟨r4, u5, hc6, hd⟩ := m_b_e hd
  refine m_calli (k := 0) (n := 0) (va_runV (As := [.int (r1), .int (1), .int (1)]) (rest := []) ⟨hx, hb, hml, hown, hts⟩ (c_X7_goes l G Z hZ u2 u5 r1 1 1 r4 hc6) (cwV 3 hts gX7_forget_X7_goes rfl rfl rfl (by decide +kernel) ⟨(Nat.le_of_ble_eq_true rfl), (Nat.le_of_ble_eq_true rfl)⟩) (m_preV (C := RX7) (T := TX7) (N := 32) hM hP hS rfl (by decide) hZ.1) rfl rfl hl.1 rfl (lv_room (Nat.le_of_ble_eq_true rfl)) dX7_forget_7 ⟨(Nat.le_of_ble_eq_true rfl), (Nat.le_of_ble_eq_true rfl)⟩) hS ⟨(Nat.le_of_ble_eq_true rfl), (Nat.le_of_ble_eq_true rfl)⟩ (fun H locs hP hS => ?_)
  refine lv_if_ne (tgt := 15) hx hb dX7_forget_10 (by decide) (fun c7 => ?_) (fun c7 => ?_)
  · have hd := m_i_f c7 hd
    refine lv_iconst (v := 0) hx hb dX7_forget_15 (by decide) ?_
    refine lv_istore_n (lv' := [(2, .int (0)), (0, .ref (Z.2.1)), (1, .int (p0))]) hx hb dX7_forget_16 rfl hl (by decide) rfl (fun ls hl => ?_)
    refine lv_iconst (v := 1) hx hb dX7_forget_17 (by decide) ?_
    refine lv_istore_n (lv' := [(3, .int (1)), (2, .int (0)), (0, .ref (Z.2.1)), (1, .int (p0))]) hx hb dX7_forget_18 rfl hl (by decide) rfl (fun ls hl => ?_)
    refine W.widen (k := 0) (n := 0) (Nat.le_of_ble_eq_true rfl) (Nat.le_of_ble_eq_true rfl) ?_
    exact J19 m_N u5 p0 0 1 _ _ _ hd hP hS (lv_sub hl [2, 3, 1, 0] rfl)
  · have hd := m_i_t c7 hd
    refine lv_iconst (v := 0) hx hb dX7_forget_13 (by decide) ?_
    obtain ⟨e1, e2⟩ := m_s_e hd
    have e2 := congrArg (x_ov Z) e2
    refine W.widen (k := 0) (n := 0) (Nat.le_of_ble_eq_true rfl) (Nat.le_of_ble_eq_true rfl) ?_
    exact W.iret hx hb hr (fun t ht hW => ⟨⟨_, (x_ov Z u5), rfl, ⟨e1, e2⟩, by show mP _ _ t.heap; rw [ht]; exact hP⟩, hS.F ht⟩) hS.2.2 dX7_forget_14
