noncomputable def e_X7_init (w : mW) (h : Nat) : Option (Unit × mW) := m_g (¬ 16 < (0 : Int32) ∧ (16 : Int32).toNatClampNeg ≤ 16 ∧ 16 ≤ 4000) <| m_l (m_nA w 21 (16 : Int32).toNatClampNeg) fun w2 => m_g (m_kd w2 h = 11) <| m_l (m_sR w2 10 1 h (some (m_nx w))) fun w5 => m_g (¬ 16 < (0 : Int32) ∧ (16 : Int32).toNatClampNeg ≤ 16 ∧ 16 ≤ 4000) <| m_l (m_nA w5 21 (16 : Int32).toNatClampNeg) fun w7 => m_l (m_sR w7 10 2 h (some (m_nx w5))) fun w9 => m_g (¬ 96 < (0 : Int32) ∧ (96 : Int32).toNatClampNeg ≤ 96 ∧ 96 ≤ 4000) <| m_l (m_nA w9 21 (96 : Int32).toNatClampNeg) fun w11 => m_l (m_sR w11 10 3 h (some (m_nx w9))) fun w13 => m_g (¬ 96 < (0 : Int32) ∧ (96 : Int32).toNatClampNeg ≤ 96 ∧ 96 ≤ 4000) <| m_l (m_nA w13 21 (96 : Int32).toNatClampNeg) fun w15 => m_l (m_sR w15 10 4 h (some (m_nx w13))) fun w17 => m_g (¬ 96 < (0 : Int32) ∧ (96 : Int32).toNatClampNeg ≤ 96 ∧ 96 ≤ 4000) <| m_l (m_nA w17 21 (96 : Int32).toNatClampNeg) fun w19 => m_l (m_sR w19 10 5 h (some (m_nx w17))) fun w21 => m_g (¬ 96 < (0 : Int32) ∧ (96 : Int32).toNatClampNeg ≤ 96 ∧ 96 ≤ 4000) <| m_l (m_nA w21 21 (96 : Int32).toNatClampNeg) fun w23 => m_l (m_sR w23 10 6 h (some (m_nx w21))) fun w25 => m_g (¬ 16 < (0 : Int32) ∧ (16 : Int32).toNatClampNeg ≤ 16 ∧ 16 ≤ 4000) <| m_l (m_nA w25 21 (16 : Int32).toNatClampNeg) fun w27 => m_l (m_sR w27 10 7 h (some (m_nx w25))) fun w29 => m_g (¬ 16 < (0 : Int32) ∧ (16 : Int32).toNatClampNeg ≤ 16 ∧ 16 ≤ 4000) <| m_l (m_nA w29 21 (16 : Int32).toNatClampNeg) fun w31 => m_l (m_sR w31 10 8 h (some (m_nx w29))) fun w33 => m_g (¬ 80 < (0 : Int32) ∧ (80 : Int32).toNatClampNeg ≤ 80 ∧ 80 ≤ 4000) <| m_l (m_nA w33 21 (80 : Int32).toNatClampNeg) fun w35 => m_l (m_sR w35 10 9 h (some (m_nx w33))) fun w37 => m_g (¬ 8 < (0 : Int32) ∧ (8 : Int32).toNatClampNeg ≤ 8 ∧ 8 ≤ 4000) <| m_l (m_nA w37 21 (8 : Int32).toNatClampNeg) fun w39 => m_l (m_sR w39 10 10 h (some (m_nx w37))) fun w41 => m_g (¬ 8 < (0 : Int32) ∧ (8 : Int32).toNatClampNeg ≤ 8 ∧ 8 ≤ 4000) <| m_l (m_nA w41 21 (8 : Int32).toNatClampNeg) fun w43 => m_l (m_sR w43 10 11 h (some (m_nx w41))) fun w45 => m_g (¬ 8 < (0 : Int32) ∧ (8 : Int32).toNatClampNeg ≤ 8 ∧ 8 ≤ 4000) <| m_l (m_nA w45 21 (8 : Int32).toNatClampNeg) fun w47 => m_l (m_sR w47 10 12 h (some (m_nx w45))) fun w49 => m_g (¬ 401 < (0 : Int32) ∧ (401 : Int32).toNatClampNeg ≤ 401 ∧ 401 ≤ 4000) <| m_l (m_nA w49 21 (401 : Int32).toNatClampNeg) fun w51 => m_l (m_sR w51 10 14 h (some (m_nx w49))) fun w53 => m_g (¬ 401 < (0 : Int32) ∧ (401 : Int32).toNatClampNeg ≤ 401 ∧ 401 ≤ 4000) <| m_l (m_nA w53 21 (401 : Int32).toNatClampNeg) fun w55 => m_l (m_sR w55 10 15 h (some (m_nx w53))) fun w57 => m_g (¬ 401 < (0 : Int32) ∧ (401 : Int32).toNatClampNeg ≤ 401 ∧ 401 ≤ 4000) <| m_l (m_nA w57 21 (401 : Int32).toNatClampNeg) fun w59 => m_l (m_sR w59 10 16 h (some (m_nx w57))) fun w61 => m_g (¬ 401 < (0 : Int32) ∧ (401 : Int32).toNatClampNeg ≤ 401 ∧ 401 ≤ 4000) <| m_l (m_nA w61 21 (401 : Int32).toNatClampNeg) fun w63 => m_l (m_sR w63 10 17 h (some (m_nx w61))) fun w65 => m_g (¬ 401 < (0 : Int32) ∧ (401 : Int32).toNatClampNeg ≤ 401 ∧ 401 ≤ 4000) <| m_l (m_nA w65 22 (401 : Int32).toNatClampNeg) fun w67 => m_l (m_sR w67 10 18 h (some (m_nx w65))) fun w69 => m_g (¬ 401 < (0 : Int32) ∧ (401 : Int32).toNatClampNeg ≤ 401 ∧ 401 ≤ 4000) <| m_l (m_nA w69 22 (401 : Int32).toNatClampNeg) fun w71 => m_l (m_sR w71 10 19 h (some (m_nx w69))) fun w73 => m_g (¬ 3208 < (0 : Int32) ∧ (3208 : Int32).toNatClampNeg ≤ 3208 ∧ 3208 ≤ 4000) <| m_l (m_nA w73 21 (3208 : Int32).toNatClampNeg) fun w75 => m_l (m_sR w75 10 20 h (some (m_nx w73))) fun w77 => m_g (¬ 80 < (0 : Int32) ∧ (80 : Int32).toNatClampNeg ≤ 80 ∧ 80 ≤ 4000) <| m_l (m_nA w77 21 (80 : Int32).toNatClampNeg) fun w79 => m_l (m_sR w79 10 22 h (some (m_nx w77))) fun w81 => m_g (¬ 80 < (0 : Int32) ∧ (80 : Int32).toNatClampNeg ≤ 80 ∧ 80 ≤ 4000) <| m_l (m_nA w81 21 (80 : Int32).toNatClampNeg) fun w83 => m_l (m_sR w83 10 23 h (some (m_nx w81))) fun w85 => m_g (¬ 160 < (0 : Int32) ∧ (160 : Int32).toNatClampNeg ≤ 160 ∧ 160 ≤ 4000) <| m_l (m_nA w85 21 (160 : Int32).toNatClampNeg) fun w87 => m_l (m_sR w87 10 24 h (some (m_nx w85))) fun w89 => m_g (¬ 8 < (0 : Int32) ∧ (8 : Int32).toNatClampNeg ≤ 8 ∧ 8 ≤ 4000) <| m_l (m_nA w89 21 (8 : Int32).toNatClampNeg) fun w91 => m_l (m_sR w91 10 25 h (some (m_nx w89))) fun w93 => m_g (¬ 16 < (0 : Int32) ∧ (16 : Int32).toNatClampNeg ≤ 16 ∧ 16 ≤ 4000) <| m_l (m_nA w93 21 (16 : Int32).toNatClampNeg) fun w95 => m_l (m_sR w95 10 30 h (some (m_nx w93))) fun w97 => some ((), w97)
set_option maxHeartbeats 1000000 in
set_option maxRecDepth 100000 in
theorem c_X7_init (l : Launch) (G : m_G) (w w' : mW) (h : Nat) (r : Unit) (hd : e_X7_init w h = some (r, w')) : Met l yX7_init wsX7_init ({ frames := 1, cells := 24, slots := 6510, locals := 40 } : Room) (m_Pc G w [.ref (h)]) (m_Qv G r w') 24 6510 (fun q => G.1 ≤ q) := by
  refine Met.ofW (cc := cX7_init) (maxL := 1) (ret := none) (by decide +kernel) rfl ?_
  intro p e s m args below meth c s₁ B hml hv
  obtain ⟨rfl, hM, hP⟩ := hv
  have hx := B.exec
  have hb := B.bytes
  have hr := B.returns
  have hts := atoms_spec (ws := wsX7_init) B.pre
  have hown : s.vm.findClass RX7 = some m.cls := findClass_of_methodNamed B.named
  have hlocks := B.notSynchronized
  have hin : meth.name = "<init>" := (name_of_methodNamed B.named B.method).1
  have hin10 : ∀ w ∈ u_ws RX7 TX7 32, w ∈ wsX7_init := by decide +kernel
  have hS : va_S (fun q => G.1 ≤ q) s.heap s.heap [] := va_S.rf
  have hl := lv_entry ([.ref (h)]) (n := 1) (Nat.le_of_ble_eq_true rfl)
  rw [lg_entry_eq]
  generalize (lg_sl ([.ref (h)]) ++ List.replicate (1 - (lg_sl ([.ref (h)])).length) Slot.unset).toArray = ls at hl ⊢
  have hl : lv_has ls 1 [(0, .ref (h))] := hl
  refine lv_aload_n hx hb dX7_init_0 rfl (lv_at hl 0 rfl) ?_
  refine W.objInit hx hb hown (hts (.methodLink RX7 1 objectInit) (by decide +kernel)) (hts (.instanceMethod objectInit) (by decide +kernel)) (hts (.code objectInit ⟨#[0xb1]⟩ 1 none) (by decide +kernel)) rfl (by rw [hml]; exact hl.1) rfl dX7_init_1 (Nat.le_of_ble_eq_true rfl) (Nat.le_of_ble_eq_true rfl) ?_
  refine W.eq (g2 := F0 m 4 ls []) rfl ?_
  refine lv_aload_n hx hb dX7_init_4 rfl (lv_at hl 0 rfl) ?_
  refine lv_bipush (v := 16) hx hb dX7_init_5 (by decide) ?_
  obtain ⟨hg1, hd⟩ := m_g_e hd
  refine m_newA (atype := .int) 21 hx hb (hts (.arrayClass .int) (by decide +kernel)) rfl hM.1 hP hS (t0 := 0) rfl m_naint hg1 (Nat.le_of_ble_eq_true rfl) (Nat.le_of_ble_eq_true rfl) dX7_init_7 (fun H hP hS => ?_)
  obtain ⟨w2, ew, hd⟩ := m_l_e hd
  have hP : mP G w2 H := by rw [ew]; exact hP
  have hk3 : m_kd w2 (m_nx w) = 21 := by rw [ew]; exact m_nA_new
  obtain ⟨hk4, hd⟩ := m_g_e hd
  refine m_putR (C := RX7) (T := TX7) (N := 32) (own := RX7) (ref := RX7) hx hb hts hin10 tyX7 tyX7_ok nmX7 hown hM.1 hP hS 10 rfl 1 hk4 (by decide) (hts (.fieldLink RX7 7 "CellNotebookModel" "order" "[I") (by decide +kernel)) (fun _ h9 => h9) (Or.inr ⟨rfl, hin, rfl⟩) (ty := .array .int) (by decide +kernel) ⟨rfl, rfl⟩ dX7_init_9 (fun H locs hP hS => ?_)
  obtain ⟨w5, ew, hd⟩ := m_l_e hd
  have hP : mP G w5 H := by rw [ew]; exact hP
  have hk3 : m_kd w5 (m_nx w) = 21 := by rw [ew]; exact hk3
  have hk4 : m_kd w5 h = 11 := by rw [ew]; exact hk4
  refine lv_aload_n hx hb dX7_init_12 rfl (lv_at hl 0 rfl) ?_
  refine lv_bipush (v := 16) hx hb dX7_init_13 (by decide) ?_
  obtain ⟨hg6, hd⟩ := m_g_e hd
  have hne0 : m_nx w ≠ m_nx w5 := m_ne hP hk3 (by decide)
  have hne1 : h ≠ m_nx w5 := m_ne hP hk4 (by decide)
  refine m_newA (atype := .int) 21 hx hb (hts (.arrayClass .int) (by decide +kernel)) rfl hM.1 hP hS (t0 := 0) rfl m_naint hg6 (Nat.le_of_ble_eq_true rfl) (Nat.le_of_ble_eq_true rfl) dX7_init_15 (fun H hP hS => ?_)
  obtain ⟨w7, ew, hd⟩ := m_l_e hd
  have hP : mP G w7 H := by rw [ew]; exact hP
  have hk3 : m_kd w7 (m_nx w) = 21 := by rw [ew]; exact m_nA_old hk3 hne0
  have hk4 : m_kd w7 h = 11 := by rw [ew]; exact m_nA_old hk4 hne1
  have hk8 : m_kd w7 (m_nx w5) = 21 := by rw [ew]; exact m_nA_new
  refine m_putR (C := RX7) (T := TX7) (N := 32) (own := RX7) (ref := RX7) hx hb hts hin10 tyX7 tyX7_ok nmX7 hown hM.1 hP hS 10 rfl 2 hk4 (by decide) (hts (.fieldLink RX7 13 "CellNotebookModel" "many" "[I") (by decide +kernel)) (fun _ h9 => h9) (Or.inr ⟨rfl, hin, rfl⟩) (ty := .array .int) (by decide +kernel) ⟨rfl, rfl⟩ dX7_init_17 (fun H locs hP hS => ?_)
  obtain ⟨w9, ew, hd⟩ := m_l_e hd
  have hP : mP G w9 H := by rw [ew]; exact hP
  have hk3 : m_kd w9 (m_nx w) = 21 := by rw [ew]; exact hk3
  have hk4 : m_kd w9 h = 11 := by rw [ew]; exact hk4
  have hk8 : m_kd w9 (m_nx w5) = 21 := by rw [ew]; exact hk8
  refine lv_aload_n hx hb dX7_init_20 rfl (lv_at hl 0 rfl) ?_
  refine lv_bipush (v := 96) hx hb dX7_init_21 (by decide) ?_
  obtain ⟨hg10, hd⟩ := m_g_e hd
  have hne0 : m_nx w ≠ m_nx w9 := m_ne hP hk3 (by decide)
  have hne1 : h ≠ m_nx w9 := m_ne hP hk4 (by decide)
  have hne2 : m_nx w5 ≠ m_nx w9 := m_ne hP hk8 (by decide)
  refine m_newA (atype := .int) 21 hx hb (hts (.arrayClass .int) (by decide +kernel)) rfl hM.1 hP hS (t0 := 0) rfl m_naint hg10 (Nat.le_of_ble_eq_true rfl) (Nat.le_of_ble_eq_true rfl) dX7_init_23 (fun H hP hS => ?_)
  obtain ⟨w11, ew, hd⟩ := m_l_e hd
  have hP : mP G w11 H := by rw [ew]; exact hP
  have hk3 : m_kd w11 (m_nx w) = 21 := by rw [ew]; exact m_nA_old hk3 hne0
  have hk4 : m_kd w11 h = 11 := by rw [ew]; exact m_nA_old hk4 hne1
  have hk8 : m_kd w11 (m_nx w5) = 21 := by rw [ew]; exact m_nA_old hk8 hne2
  have hk12 : m_kd w11 (m_nx w9) = 21 := by rw [ew]; exact m_nA_new
  refine m_putR (C := RX7) (T := TX7) (N := 32) (own := RX7) (ref := RX7) hx hb hts hin10 tyX7 tyX7_ok nmX7 hown hM.1 hP hS 10 rfl 3 hk4 (by decide) (hts (.fieldLink RX7 16 "CellNotebookModel" "name" "[I") (by decide +kernel)) (fun _ h9 => h9) (Or.inr ⟨rfl, hin, rfl⟩) (ty := .array .int) (by decide +kernel) ⟨rfl, rfl⟩ dX7_init_25 (fun H locs hP hS => ?_)
  obtain ⟨w13, ew, hd⟩ := m_l_e hd
  have hP : mP G w13 H := by rw [ew]; exact hP
  have hk3 : m_kd w13 (m_nx w) = 21 := by rw [ew]; exact hk3
  have hk4 : m_kd w13 h = 11 := by rw [ew]; exact hk4
  have hk8 : m_kd w13 (m_nx w5) = 21 := by rw [ew]; exact hk8
  have hk12 : m_kd w13 (m_nx w9) = 21 := by rw [ew]; exact hk12
  refine lv_aload_n hx hb dX7_init_28 rfl (lv_at hl 0 rfl) ?_
  refine lv_bipush (v := 96) hx hb dX7_init_29 (by decide) ?_
  obtain ⟨hg14, hd⟩ := m_g_e hd
  have hne0 : m_nx w ≠ m_nx w13 := m_ne hP hk3 (by decide)
  have hne1 : h ≠ m_nx w13 := m_ne hP hk4 (by decide)
  have hne2 : m_nx w5 ≠ m_nx w13 := m_ne hP hk8 (by decide)
  have hne3 : m_nx w9 ≠ m_nx w13 := m_ne hP hk12 (by decide)
  refine m_newA (atype := .int) 21 hx hb (hts (.arrayClass .int) (by decide +kernel)) rfl hM.1 hP hS (t0 := 0) rfl m_naint hg14 (Nat.le_of_ble_eq_true rfl) (Nat.le_of_ble_eq_true rfl) dX7_init_31 (fun H hP hS => ?_)
  obtain ⟨w15, ew, hd⟩ := m_l_e hd
  have hP : mP G w15 H := by rw [ew]; exact hP
  have hk3 : m_kd w15 (m_nx w) = 21 := by rw [ew]; exact m_nA_old hk3 hne0
  have hk4 : m_kd w15 h = 11 := by rw [ew]; exact m_nA_old hk4 hne1
  have hk8 : m_kd w15 (m_nx w5) = 21 := by rw [ew]; exact m_nA_old hk8 hne2
  have hk12 : m_kd w15 (m_nx w9) = 21 := by rw [ew]; exact m_nA_old hk12 hne3
  have hk16 : m_kd w15 (m_nx w13) = 21 := by rw [ew]; exact m_nA_new
  refine m_putR (C := RX7) (T := TX7) (N := 32) (own := RX7) (ref := RX7) hx hb hts hin10 tyX7 tyX7_ok nmX7 hown hM.1 hP hS 10 rfl 4 hk4 (by decide) (hts (.fieldLink RX7 19 "CellNotebookModel" "operation" "[I") (by decide +kernel)) (fun _ h9 => h9) (Or.inr ⟨rfl, hin, rfl⟩) (ty := .array .int) (by decide +kernel) ⟨rfl, rfl⟩ dX7_init_33 (fun H locs hP hS => ?_)
  obtain ⟨w17, ew, hd⟩ := m_l_e hd
  have hP : mP G w17 H := by rw [ew]; exact hP
  have hk3 : m_kd w17 (m_nx w) = 21 := by rw [ew]; exact hk3
  have hk4 : m_kd w17 h = 11 := by rw [ew]; exact hk4
  have hk8 : m_kd w17 (m_nx w5) = 21 := by rw [ew]; exact hk8
  have hk12 : m_kd w17 (m_nx w9) = 21 := by rw [ew]; exact hk12
  have hk16 : m_kd w17 (m_nx w13) = 21 := by rw [ew]; exact hk16
  refine lv_aload_n hx hb dX7_init_36 rfl (lv_at hl 0 rfl) ?_
  refine lv_bipush (v := 96) hx hb dX7_init_37 (by decide) ?_
  obtain ⟨hg18, hd⟩ := m_g_e hd
  have hne0 : m_nx w ≠ m_nx w17 := m_ne hP hk3 (by decide)
  have hne1 : h ≠ m_nx w17 := m_ne hP hk4 (by decide)
  have hne2 : m_nx w5 ≠ m_nx w17 := m_ne hP hk8 (by decide)
  have hne3 : m_nx w9 ≠ m_nx w17 := m_ne hP hk12 (by decide)
  have hne4 : m_nx w13 ≠ m_nx w17 := m_ne hP hk16 (by decide)
  refine m_newA (atype := .int) 21 hx hb (hts (.arrayClass .int) (by decide +kernel)) rfl hM.1 hP hS (t0 := 0) rfl m_naint hg18 (Nat.le_of_ble_eq_true rfl) (Nat.le_of_ble_eq_true rfl) dX7_init_39 (fun H hP hS => ?_)
  obtain ⟨w19, ew, hd⟩ := m_l_e hd
  have hP : mP G w19 H := by rw [ew]; exact hP
  have hk3 : m_kd w19 (m_nx w) = 21 := by rw [ew]; exact m_nA_old hk3 hne0
  have hk4 : m_kd w19 h = 11 := by rw [ew]; exact m_nA_old hk4 hne1
  have hk8 : m_kd w19 (m_nx w5) = 21 := by rw [ew]; exact m_nA_old hk8 hne2
  have hk12 : m_kd w19 (m_nx w9) = 21 := by rw [ew]; exact m_nA_old hk12 hne3
  have hk16 : m_kd w19 (m_nx w13) = 21 := by rw [ew]; exact m_nA_old hk16 hne4
  have hk20 : m_kd w19 (m_nx w17) = 21 := by rw [ew]; exact m_nA_new
  refine m_putR (C := RX7) (T := TX7) (N := 32) (own := RX7) (ref := RX7) hx hb hts hin10 tyX7 tyX7_ok nmX7 hown hM.1 hP hS 10 rfl 5 hk4 (by decide) (hts (.fieldLink RX7 22 "CellNotebookModel" "left" "[I") (by decide +kernel)) (fun _ h9 => h9) (Or.inr ⟨rfl, hin, rfl⟩) (ty := .array .int) (by decide +kernel) ⟨rfl, rfl⟩ dX7_init_41 (fun H locs hP hS => ?_)
  obtain ⟨w21, ew, hd⟩ := m_l_e hd
  have hP : mP G w21 H := by rw [ew]; exact hP
  have hk3 : m_kd w21 (m_nx w) = 21 := by rw [ew]; exact hk3
  have hk4 : m_kd w21 h = 11 := by rw [ew]; exact hk4
  have hk8 : m_kd w21 (m_nx w5) = 21 := by rw [ew]; exact hk8
  have hk12 : m_kd w21 (m_nx w9) = 21 := by rw [ew]; exact hk12
  have hk16 : m_kd w21 (m_nx w13) = 21 := by rw [ew]; exact hk16
  have hk20 : m_kd w21 (m_nx w17) = 21 := by rw [ew]; exact hk20
  refine lv_aload_n hx hb dX7_init_44 rfl (lv_at hl 0 rfl) ?_
  refine lv_bipush (v := 96) hx hb dX7_init_45 (by decide) ?_
  obtain ⟨hg22, hd⟩ := m_g_e hd
  have hne0 : m_nx w ≠ m_nx w21 := m_ne hP hk3 (by decide)
  have hne1 : h ≠ m_nx w21 := m_ne hP hk4 (by decide)
  have hne2 : m_nx w5 ≠ m_nx w21 := m_ne hP hk8 (by decide)
  have hne3 : m_nx w9 ≠ m_nx w21 := m_ne hP hk12 (by decide)
  have hne4 : m_nx w13 ≠ m_nx w21 := m_ne hP hk16 (by decide)
  have hne5 : m_nx w17 ≠ m_nx w21 := m_ne hP hk20 (by decide)
  refine m_newA (atype := .int) 21 hx hb (hts (.arrayClass .int) (by decide +kernel)) rfl hM.1 hP hS (t0 := 0) rfl m_naint hg22 (Nat.le_of_ble_eq_true rfl) (Nat.le_of_ble_eq_true rfl) dX7_init_47 (fun H hP hS => ?_)
  obtain ⟨w23, ew, hd⟩ := m_l_e hd
  have hP : mP G w23 H := by rw [ew]; exact hP
  have hk3 : m_kd w23 (m_nx w) = 21 := by rw [ew]; exact m_nA_old hk3 hne0
  have hk4 : m_kd w23 h = 11 := by rw [ew]; exact m_nA_old hk4 hne1
  have hk8 : m_kd w23 (m_nx w5) = 21 := by rw [ew]; exact m_nA_old hk8 hne2
  have hk12 : m_kd w23 (m_nx w9) = 21 := by rw [ew]; exact m_nA_old hk12 hne3
  have hk16 : m_kd w23 (m_nx w13) = 21 := by rw [ew]; exact m_nA_old hk16 hne4
  have hk20 : m_kd w23 (m_nx w17) = 21 := by rw [ew]; exact m_nA_old hk20 hne5
  have hk24 : m_kd w23 (m_nx w21) = 21 := by rw [ew]; exact m_nA_new
  refine m_putR (C := RX7) (T := TX7) (N := 32) (own := RX7) (ref := RX7) hx hb hts hin10 tyX7 tyX7_ok nmX7 hown hM.1 hP hS 10 rfl 6 hk4 (by decide) (hts (.fieldLink RX7 25 "CellNotebookModel" "right" "[I") (by decide +kernel)) (fun _ h9 => h9) (Or.inr ⟨rfl, hin, rfl⟩) (ty := .array .int) (by decide +kernel) ⟨rfl, rfl⟩ dX7_init_49 (fun H locs hP hS => ?_)
  obtain ⟨w25, ew, hd⟩ := m_l_e hd
  have hP : mP G w25 H := by rw [ew]; exact hP
  have hk3 : m_kd w25 (m_nx w) = 21 := by rw [ew]; exact hk3
  have hk4 : m_kd w25 h = 11 := by rw [ew]; exact hk4
  have hk8 : m_kd w25 (m_nx w5) = 21 := by rw [ew]; exact hk8
  have hk12 : m_kd w25 (m_nx w9) = 21 := by rw [ew]; exact hk12
  have hk16 : m_kd w25 (m_nx w13) = 21 := by rw [ew]; exact hk16
  have hk20 : m_kd w25 (m_nx w17) = 21 := by rw [ew]; exact hk20
  have hk24 : m_kd w25 (m_nx w21) = 21 := by rw [ew]; exact hk24
  refine lv_aload_n hx hb dX7_init_52 rfl (lv_at hl 0 rfl) ?_
  refine lv_bipush (v := 16) hx hb dX7_init_53 (by decide) ?_
  obtain ⟨hg26, hd⟩ := m_g_e hd
  have hne0 : m_nx w ≠ m_nx w25 := m_ne hP hk3 (by decide)
  have hne1 : h ≠ m_nx w25 := m_ne hP hk4 (by decide)
  have hne2 : m_nx w5 ≠ m_nx w25 := m_ne hP hk8 (by decide)
  have hne3 : m_nx w9 ≠ m_nx w25 := m_ne hP hk12 (by decide)
  have hne4 : m_nx w13 ≠ m_nx w25 := m_ne hP hk16 (by decide)
  have hne5 : m_nx w17 ≠ m_nx w25 := m_ne hP hk20 (by decide)
  have hne6 : m_nx w21 ≠ m_nx w25 := m_ne hP hk24 (by decide)
  refine m_newA (atype := .int) 21 hx hb (hts (.arrayClass .int) (by decide +kernel)) rfl hM.1 hP hS (t0 := 0) rfl m_naint hg26 (Nat.le_of_ble_eq_true rfl) (Nat.le_of_ble_eq_true rfl) dX7_init_55 (fun H hP hS => ?_)
  obtain ⟨w27, ew, hd⟩ := m_l_e hd
  have hP : mP G w27 H := by rw [ew]; exact hP
  have hk3 : m_kd w27 (m_nx w) = 21 := by rw [ew]; exact m_nA_old hk3 hne0
  have hk4 : m_kd w27 h = 11 := by rw [ew]; exact m_nA_old hk4 hne1
  have hk8 : m_kd w27 (m_nx w5) = 21 := by rw [ew]; exact m_nA_old hk8 hne2
  have hk12 : m_kd w27 (m_nx w9) = 21 := by rw [ew]; exact m_nA_old hk12 hne3
  have hk16 : m_kd w27 (m_nx w13) = 21 := by rw [ew]; exact m_nA_old hk16 hne4
  have hk20 : m_kd w27 (m_nx w17) = 21 := by rw [ew]; exact m_nA_old hk20 hne5
  have hk24 : m_kd w27 (m_nx w21) = 21 := by rw [ew]; exact m_nA_old hk24 hne6
  have hk28 : m_kd w27 (m_nx w25) = 21 := by rw [ew]; exact m_nA_new
  refine m_putR (C := RX7) (T := TX7) (N := 32) (own := RX7) (ref := RX7) hx hb hts hin10 tyX7 tyX7_ok nmX7 hown hM.1 hP hS 10 rfl 7 hk4 (by decide) (hts (.fieldLink RX7 28 "CellNotebookModel" "changed" "[I") (by decide +kernel)) (fun _ h9 => h9) (Or.inr ⟨rfl, hin, rfl⟩) (ty := .array .int) (by decide +kernel) ⟨rfl, rfl⟩ dX7_init_57 (fun H locs hP hS => ?_)
  obtain ⟨w29, ew, hd⟩ := m_l_e hd
  have hP : mP G w29 H := by rw [ew]; exact hP
  have hk3 : m_kd w29 (m_nx w) = 21 := by rw [ew]; exact hk3
  have hk4 : m_kd w29 h = 11 := by rw [ew]; exact hk4
  have hk8 : m_kd w29 (m_nx w5) = 21 := by rw [ew]; exact hk8
  have hk12 : m_kd w29 (m_nx w9) = 21 := by rw [ew]; exact hk12
  have hk16 : m_kd w29 (m_nx w13) = 21 := by rw [ew]; exact hk16
  have hk20 : m_kd w29 (m_nx w17) = 21 := by rw [ew]; exact hk20
  have hk24 : m_kd w29 (m_nx w21) = 21 := by rw [ew]; exact hk24
  have hk28 : m_kd w29 (m_nx w25) = 21 := by rw [ew]; exact hk28
  refine lv_aload_n hx hb dX7_init_60 rfl (lv_at hl 0 rfl) ?_
  refine lv_bipush (v := 16) hx hb dX7_init_61 (by decide) ?_
  obtain ⟨hg30, hd⟩ := m_g_e hd
  have hne0 : m_nx w ≠ m_nx w29 := m_ne hP hk3 (by decide)
  have hne1 : h ≠ m_nx w29 := m_ne hP hk4 (by decide)
  have hne2 : m_nx w5 ≠ m_nx w29 := m_ne hP hk8 (by decide)
  have hne3 : m_nx w9 ≠ m_nx w29 := m_ne hP hk12 (by decide)
  have hne4 : m_nx w13 ≠ m_nx w29 := m_ne hP hk16 (by decide)
  have hne5 : m_nx w17 ≠ m_nx w29 := m_ne hP hk20 (by decide)
  have hne6 : m_nx w21 ≠ m_nx w29 := m_ne hP hk24 (by decide)
  have hne7 : m_nx w25 ≠ m_nx w29 := m_ne hP hk28 (by decide)
  refine m_newA (atype := .int) 21 hx hb (hts (.arrayClass .int) (by decide +kernel)) rfl hM.1 hP hS (t0 := 0) rfl m_naint hg30 (Nat.le_of_ble_eq_true rfl) (Nat.le_of_ble_eq_true rfl) dX7_init_63 (fun H hP hS => ?_)
  obtain ⟨w31, ew, hd⟩ := m_l_e hd
  have hP : mP G w31 H := by rw [ew]; exact hP
  have hk3 : m_kd w31 (m_nx w) = 21 := by rw [ew]; exact m_nA_old hk3 hne0
  have hk4 : m_kd w31 h = 11 := by rw [ew]; exact m_nA_old hk4 hne1
  have hk8 : m_kd w31 (m_nx w5) = 21 := by rw [ew]; exact m_nA_old hk8 hne2
  have hk12 : m_kd w31 (m_nx w9) = 21 := by rw [ew]; exact m_nA_old hk12 hne3
  have hk16 : m_kd w31 (m_nx w13) = 21 := by rw [ew]; exact m_nA_old hk16 hne4
  have hk20 : m_kd w31 (m_nx w17) = 21 := by rw [ew]; exact m_nA_old hk20 hne5
  have hk24 : m_kd w31 (m_nx w21) = 21 := by rw [ew]; exact m_nA_old hk24 hne6
  have hk28 : m_kd w31 (m_nx w25) = 21 := by rw [ew]; exact m_nA_old hk28 hne7
  have hk32 : m_kd w31 (m_nx w29) = 21 := by rw [ew]; exact m_nA_new
  refine m_putR (C := RX7) (T := TX7) (N := 32) (own := RX7) (ref := RX7) hx hb hts hin10 tyX7 tyX7_ok nmX7 hown hM.1 hP hS 10 rfl 8 hk4 (by decide) (hts (.fieldLink RX7 31 "CellNotebookModel" "last" "[I") (by decide +kernel)) (fun _ h9 => h9) (Or.inr ⟨rfl, hin, rfl⟩) (ty := .array .int) (by decide +kernel) ⟨rfl, rfl⟩ dX7_init_65 (fun H locs hP hS => ?_)
  obtain ⟨w33, ew, hd⟩ := m_l_e hd
  have hP : mP G w33 H := by rw [ew]; exact hP
  have hk3 : m_kd w33 (m_nx w) = 21 := by rw [ew]; exact hk3
  have hk4 : m_kd w33 h = 11 := by rw [ew]; exact hk4
  have hk8 : m_kd w33 (m_nx w5) = 21 := by rw [ew]; exact hk8
  have hk12 : m_kd w33 (m_nx w9) = 21 := by rw [ew]; exact hk12
  have hk16 : m_kd w33 (m_nx w13) = 21 := by rw [ew]; exact hk16
  have hk20 : m_kd w33 (m_nx w17) = 21 := by rw [ew]; exact hk20
  have hk24 : m_kd w33 (m_nx w21) = 21 := by rw [ew]; exact hk24
  have hk28 : m_kd w33 (m_nx w25) = 21 := by rw [ew]; exact hk28
  have hk32 : m_kd w33 (m_nx w29) = 21 := by rw [ew]; exact hk32
  refine lv_aload_n hx hb dX7_init_68 rfl (lv_at hl 0 rfl) ?_
  refine lv_bipush (v := 80) hx hb dX7_init_69 (by decide) ?_
  obtain ⟨hg34, hd⟩ := m_g_e hd
  have hne0 : m_nx w ≠ m_nx w33 := m_ne hP hk3 (by decide)
  have hne1 : h ≠ m_nx w33 := m_ne hP hk4 (by decide)
  have hne2 : m_nx w5 ≠ m_nx w33 := m_ne hP hk8 (by decide)
  have hne3 : m_nx w9 ≠ m_nx w33 := m_ne hP hk12 (by decide)
  have hne4 : m_nx w13 ≠ m_nx w33 := m_ne hP hk16 (by decide)
  have hne5 : m_nx w17 ≠ m_nx w33 := m_ne hP hk20 (by decide)
  have hne6 : m_nx w21 ≠ m_nx w33 := m_ne hP hk24 (by decide)
  have hne7 : m_nx w25 ≠ m_nx w33 := m_ne hP hk28 (by decide)
  have hne8 : m_nx w29 ≠ m_nx w33 := m_ne hP hk32 (by decide)
  refine m_newA (atype := .int) 21 hx hb (hts (.arrayClass .int) (by decide +kernel)) rfl hM.1 hP hS (t0 := 0) rfl m_naint hg34 (Nat.le_of_ble_eq_true rfl) (Nat.le_of_ble_eq_true rfl) dX7_init_71 (fun H hP hS => ?_)
  obtain ⟨w35, ew, hd⟩ := m_l_e hd
  have hP : mP G w35 H := by rw [ew]; exact hP
  have hk3 : m_kd w35 (m_nx w) = 21 := by rw [ew]; exact m_nA_old hk3 hne0
  have hk4 : m_kd w35 h = 11 := by rw [ew]; exact m_nA_old hk4 hne1
  have hk8 : m_kd w35 (m_nx w5) = 21 := by rw [ew]; exact m_nA_old hk8 hne2
  have hk12 : m_kd w35 (m_nx w9) = 21 := by rw [ew]; exact m_nA_old hk12 hne3
  have hk16 : m_kd w35 (m_nx w13) = 21 := by rw [ew]; exact m_nA_old hk16 hne4
  have hk20 : m_kd w35 (m_nx w17) = 21 := by rw [ew]; exact m_nA_old hk20 hne5
  have hk24 : m_kd w35 (m_nx w21) = 21 := by rw [ew]; exact m_nA_old hk24 hne6
  have hk28 : m_kd w35 (m_nx w25) = 21 := by rw [ew]; exact m_nA_old hk28 hne7
  have hk32 : m_kd w35 (m_nx w29) = 21 := by rw [ew]; exact m_nA_old hk32 hne8
  have hk36 : m_kd w35 (m_nx w33) = 21 := by rw [ew]; exact m_nA_new
  refine m_putR (C := RX7) (T := TX7) (N := 32) (own := RX7) (ref := RX7) hx hb hts hin10 tyX7 tyX7_ok nmX7 hown hM.1 hP hS 10 rfl 9 hk4 (by decide) (hts (.fieldLink RX7 34 "CellNotebookModel" "rights" "[I") (by decide +kernel)) (fun _ h9 => h9) (Or.inr ⟨rfl, hin, rfl⟩) (ty := .array .int) (by decide +kernel) ⟨rfl, rfl⟩ dX7_init_73 (fun H locs hP hS => ?_)
  obtain ⟨w37, ew, hd⟩ := m_l_e hd
  have hP : mP G w37 H := by rw [ew]; exact hP
  have hk3 : m_kd w37 (m_nx w) = 21 := by rw [ew]; exact hk3
  have hk4 : m_kd w37 h = 11 := by rw [ew]; exact hk4
  have hk8 : m_kd w37 (m_nx w5) = 21 := by rw [ew]; exact hk8
  have hk12 : m_kd w37 (m_nx w9) = 21 := by rw [ew]; exact hk12
  have hk16 : m_kd w37 (m_nx w13) = 21 := by rw [ew]; exact hk16
  have hk20 : m_kd w37 (m_nx w17) = 21 := by rw [ew]; exact hk20
  have hk24 : m_kd w37 (m_nx w21) = 21 := by rw [ew]; exact hk24
  have hk28 : m_kd w37 (m_nx w25) = 21 := by rw [ew]; exact hk28
  have hk32 : m_kd w37 (m_nx w29) = 21 := by rw [ew]; exact hk32
  have hk36 : m_kd w37 (m_nx w33) = 21 := by rw [ew]; exact hk36
  refine lv_aload_n hx hb dX7_init_76 rfl (lv_at hl 0 rfl) ?_
  refine lv_bipush (v := 8) hx hb dX7_init_77 (by decide) ?_
  obtain ⟨hg38, hd⟩ := m_g_e hd
  have hne0 : m_nx w ≠ m_nx w37 := m_ne hP hk3 (by decide)
  have hne1 : h ≠ m_nx w37 := m_ne hP hk4 (by decide)
  have hne2 : m_nx w5 ≠ m_nx w37 := m_ne hP hk8 (by decide)
  have hne3 : m_nx w9 ≠ m_nx w37 := m_ne hP hk12 (by decide)
  have hne4 : m_nx w13 ≠ m_nx w37 := m_ne hP hk16 (by decide)
  have hne5 : m_nx w17 ≠ m_nx w37 := m_ne hP hk20 (by decide)
  have hne6 : m_nx w21 ≠ m_nx w37 := m_ne hP hk24 (by decide)
  have hne7 : m_nx w25 ≠ m_nx w37 := m_ne hP hk28 (by decide)
  have hne8 : m_nx w29 ≠ m_nx w37 := m_ne hP hk32 (by decide)
  have hne9 : m_nx w33 ≠ m_nx w37 := m_ne hP hk36 (by decide)
  refine m_newA (atype := .int) 21 hx hb (hts (.arrayClass .int) (by decide +kernel)) rfl hM.1 hP hS (t0 := 0) rfl m_naint hg38 (Nat.le_of_ble_eq_true rfl) (Nat.le_of_ble_eq_true rfl) dX7_init_79 (fun H hP hS => ?_)
  obtain ⟨w39, ew, hd⟩ := m_l_e hd
  have hP : mP G w39 H := by rw [ew]; exact hP
  have hk3 : m_kd w39 (m_nx w) = 21 := by rw [ew]; exact m_nA_old hk3 hne0
  have hk4 : m_kd w39 h = 11 := by rw [ew]; exact m_nA_old hk4 hne1
  have hk8 : m_kd w39 (m_nx w5) = 21 := by rw [ew]; exact m_nA_old hk8 hne2
  have hk12 : m_kd w39 (m_nx w9) = 21 := by rw [ew]; exact m_nA_old hk12 hne3
  have hk16 : m_kd w39 (m_nx w13) = 21 := by rw [ew]; exact m_nA_old hk16 hne4
  have hk20 : m_kd w39 (m_nx w17) = 21 := by rw [ew]; exact m_nA_old hk20 hne5
  have hk24 : m_kd w39 (m_nx w21) = 21 := by rw [ew]; exact m_nA_old hk24 hne6
  have hk28 : m_kd w39 (m_nx w25) = 21 := by rw [ew]; exact m_nA_old hk28 hne7
  have hk32 : m_kd w39 (m_nx w29) = 21 := by rw [ew]; exact m_nA_old hk32 hne8
  have hk36 : m_kd w39 (m_nx w33) = 21 := by rw [ew]; exact m_nA_old hk36 hne9
  have hk40 : m_kd w39 (m_nx w37) = 21 := by rw [ew]; exact m_nA_new
  refine m_putR (C := RX7) (T := TX7) (N := 32) (own := RX7) (ref := RX7) hx hb hts hin10 tyX7 tyX7_ok nmX7 hown hM.1 hP hS 10 rfl 10 hk4 (by decide) (hts (.fieldLink RX7 37 "CellNotebookModel" "value" "[I") (by decide +kernel)) (fun _ h9 => h9) (Or.inr ⟨rfl, hin, rfl⟩) (ty := .array .int) (by decide +kernel) ⟨rfl, rfl⟩ dX7_init_81 (fun H locs hP hS => ?_)
  obtain ⟨w41, ew, hd⟩ := m_l_e hd
  have hP : mP G w41 H := by rw [ew]; exact hP
  have hk3 : m_kd w41 (m_nx w) = 21 := by rw [ew]; exact hk3
  have hk4 : m_kd w41 h = 11 := by rw [ew]; exact hk4
  have hk8 : m_kd w41 (m_nx w5) = 21 := by rw [ew]; exact hk8
  have hk12 : m_kd w41 (m_nx w9) = 21 := by rw [ew]; exact hk12
  have hk16 : m_kd w41 (m_nx w13) = 21 := by rw [ew]; exact hk16
  have hk20 : m_kd w41 (m_nx w17) = 21 := by rw [ew]; exact hk20
  have hk24 : m_kd w41 (m_nx w21) = 21 := by rw [ew]; exact hk24
  have hk28 : m_kd w41 (m_nx w25) = 21 := by rw [ew]; exact hk28
  have hk32 : m_kd w41 (m_nx w29) = 21 := by rw [ew]; exact hk32
  have hk36 : m_kd w41 (m_nx w33) = 21 := by rw [ew]; exact hk36
  have hk40 : m_kd w41 (m_nx w37) = 21 := by rw [ew]; exact hk40
  refine lv_aload_n hx hb dX7_init_84 rfl (lv_at hl 0 rfl) ?_
  refine lv_bipush (v := 8) hx hb dX7_init_85 (by decide) ?_
  obtain ⟨hg42, hd⟩ := m_g_e hd
  have hne0 : m_nx w ≠ m_nx w41 := m_ne hP hk3 (by decide)
  have hne1 : h ≠ m_nx w41 := m_ne hP hk4 (by decide)
  have hne2 : m_nx w5 ≠ m_nx w41 := m_ne hP hk8 (by decide)
  have hne3 : m_nx w9 ≠ m_nx w41 := m_ne hP hk12 (by decide)
  have hne4 : m_nx w13 ≠ m_nx w41 := m_ne hP hk16 (by decide)
  have hne5 : m_nx w17 ≠ m_nx w41 := m_ne hP hk20 (by decide)
  have hne6 : m_nx w21 ≠ m_nx w41 := m_ne hP hk24 (by decide)
  have hne7 : m_nx w25 ≠ m_nx w41 := m_ne hP hk28 (by decide)
  have hne8 : m_nx w29 ≠ m_nx w41 := m_ne hP hk32 (by decide)
  have hne9 : m_nx w33 ≠ m_nx w41 := m_ne hP hk36 (by decide)
  have hne10 : m_nx w37 ≠ m_nx w41 := m_ne hP hk40 (by decide)
  refine m_newA (atype := .int) 21 hx hb (hts (.arrayClass .int) (by decide +kernel)) rfl hM.1 hP hS (t0 := 0) rfl m_naint hg42 (Nat.le_of_ble_eq_true rfl) (Nat.le_of_ble_eq_true rfl) dX7_init_87 (fun H hP hS => ?_)
  obtain ⟨w43, ew, hd⟩ := m_l_e hd
  have hP : mP G w43 H := by rw [ew]; exact hP
  have hk3 : m_kd w43 (m_nx w) = 21 := by rw [ew]; exact m_nA_old hk3 hne0
  have hk4 : m_kd w43 h = 11 := by rw [ew]; exact m_nA_old hk4 hne1
  have hk8 : m_kd w43 (m_nx w5) = 21 := by rw [ew]; exact m_nA_old hk8 hne2
  have hk12 : m_kd w43 (m_nx w9) = 21 := by rw [ew]; exact m_nA_old hk12 hne3
  have hk16 : m_kd w43 (m_nx w13) = 21 := by rw [ew]; exact m_nA_old hk16 hne4
  have hk20 : m_kd w43 (m_nx w17) = 21 := by rw [ew]; exact m_nA_old hk20 hne5
  have hk24 : m_kd w43 (m_nx w21) = 21 := by rw [ew]; exact m_nA_old hk24 hne6
  have hk28 : m_kd w43 (m_nx w25) = 21 := by rw [ew]; exact m_nA_old hk28 hne7
  have hk32 : m_kd w43 (m_nx w29) = 21 := by rw [ew]; exact m_nA_old hk32 hne8
  have hk36 : m_kd w43 (m_nx w33) = 21 := by rw [ew]; exact m_nA_old hk36 hne9
  have hk40 : m_kd w43 (m_nx w37) = 21 := by rw [ew]; exact m_nA_old hk40 hne10
  have hk44 : m_kd w43 (m_nx w41) = 21 := by rw [ew]; exact m_nA_new
  refine m_putR (C := RX7) (T := TX7) (N := 32) (own := RX7) (ref := RX7) hx hb hts hin10 tyX7 tyX7_ok nmX7 hown hM.1 hP hS 10 rfl 11 hk4 (by decide) (hts (.fieldLink RX7 40 "CellNotebookModel" "stamp" "[I") (by decide +kernel)) (fun _ h9 => h9) (Or.inr ⟨rfl, hin, rfl⟩) (ty := .array .int) (by decide +kernel) ⟨rfl, rfl⟩ dX7_init_89 (fun H locs hP hS => ?_)
  obtain ⟨w45, ew, hd⟩ := m_l_e hd
  have hP : mP G w45 H := by rw [ew]; exact hP
  have hk3 : m_kd w45 (m_nx w) = 21 := by rw [ew]; exact hk3
  have hk4 : m_kd w45 h = 11 := by rw [ew]; exact hk4
  have hk8 : m_kd w45 (m_nx w5) = 21 := by rw [ew]; exact hk8
  have hk12 : m_kd w45 (m_nx w9) = 21 := by rw [ew]; exact hk12
  have hk16 : m_kd w45 (m_nx w13) = 21 := by rw [ew]; exact hk16
  have hk20 : m_kd w45 (m_nx w17) = 21 := by rw [ew]; exact hk20
  have hk24 : m_kd w45 (m_nx w21) = 21 := by rw [ew]; exact hk24
  have hk28 : m_kd w45 (m_nx w25) = 21 := by rw [ew]; exact hk28
  have hk32 : m_kd w45 (m_nx w29) = 21 := by rw [ew]; exact hk32
  have hk36 : m_kd w45 (m_nx w33) = 21 := by rw [ew]; exact hk36
  have hk40 : m_kd w45 (m_nx w37) = 21 := by rw [ew]; exact hk40
  have hk44 : m_kd w45 (m_nx w41) = 21 := by rw [ew]; exact hk44
  refine lv_aload_n hx hb dX7_init_92 rfl (lv_at hl 0 rfl) ?_
  refine lv_bipush (v := 8) hx hb dX7_init_93 (by decide) ?_
  obtain ⟨hg46, hd⟩ := m_g_e hd
  have hne0 : m_nx w ≠ m_nx w45 := m_ne hP hk3 (by decide)
  have hne1 : h ≠ m_nx w45 := m_ne hP hk4 (by decide)
  have hne2 : m_nx w5 ≠ m_nx w45 := m_ne hP hk8 (by decide)
  have hne3 : m_nx w9 ≠ m_nx w45 := m_ne hP hk12 (by decide)
  have hne4 : m_nx w13 ≠ m_nx w45 := m_ne hP hk16 (by decide)
  have hne5 : m_nx w17 ≠ m_nx w45 := m_ne hP hk20 (by decide)
  have hne6 : m_nx w21 ≠ m_nx w45 := m_ne hP hk24 (by decide)
  have hne7 : m_nx w25 ≠ m_nx w45 := m_ne hP hk28 (by decide)
  have hne8 : m_nx w29 ≠ m_nx w45 := m_ne hP hk32 (by decide)
  have hne9 : m_nx w33 ≠ m_nx w45 := m_ne hP hk36 (by decide)
  have hne10 : m_nx w37 ≠ m_nx w45 := m_ne hP hk40 (by decide)
  have hne11 : m_nx w41 ≠ m_nx w45 := m_ne hP hk44 (by decide)
  refine m_newA (atype := .int) 21 hx hb (hts (.arrayClass .int) (by decide +kernel)) rfl hM.1 hP hS (t0 := 0) rfl m_naint hg46 (Nat.le_of_ble_eq_true rfl) (Nat.le_of_ble_eq_true rfl) dX7_init_95 (fun H hP hS => ?_)
  obtain ⟨w47, ew, hd⟩ := m_l_e hd
  have hP : mP G w47 H := by rw [ew]; exact hP
  have hk3 : m_kd w47 (m_nx w) = 21 := by rw [ew]; exact m_nA_old hk3 hne0
  have hk4 : m_kd w47 h = 11 := by rw [ew]; exact m_nA_old hk4 hne1
  have hk8 : m_kd w47 (m_nx w5) = 21 := by rw [ew]; exact m_nA_old hk8 hne2
  have hk12 : m_kd w47 (m_nx w9) = 21 := by rw [ew]; exact m_nA_old hk12 hne3
  have hk16 : m_kd w47 (m_nx w13) = 21 := by rw [ew]; exact m_nA_old hk16 hne4
  have hk20 : m_kd w47 (m_nx w17) = 21 := by rw [ew]; exact m_nA_old hk20 hne5
  have hk24 : m_kd w47 (m_nx w21) = 21 := by rw [ew]; exact m_nA_old hk24 hne6
  have hk28 : m_kd w47 (m_nx w25) = 21 := by rw [ew]; exact m_nA_old hk28 hne7
  have hk32 : m_kd w47 (m_nx w29) = 21 := by rw [ew]; exact m_nA_old hk32 hne8
  have hk36 : m_kd w47 (m_nx w33) = 21 := by rw [ew]; exact m_nA_old hk36 hne9
  have hk40 : m_kd w47 (m_nx w37) = 21 := by rw [ew]; exact m_nA_old hk40 hne10
  have hk44 : m_kd w47 (m_nx w41) = 21 := by rw [ew]; exact m_nA_old hk44 hne11
  have hk48 : m_kd w47 (m_nx w45) = 21 := by rw [ew]; exact m_nA_new
  refine m_putR (C := RX7) (T := TX7) (N := 32) (own := RX7) (ref := RX7) hx hb hts hin10 tyX7 tyX7_ok nmX7 hown hM.1 hP hS 10 rfl 12 hk4 (by decide) (hts (.fieldLink RX7 43 "CellNotebookModel" "times" "[I") (by decide +kernel)) (fun _ h9 => h9) (Or.inr ⟨rfl, hin, rfl⟩) (ty := .array .int) (by decide +kernel) ⟨rfl, rfl⟩ dX7_init_97 (fun H locs hP hS => ?_)
  obtain ⟨w49, ew, hd⟩ := m_l_e hd
  have hP : mP G w49 H := by rw [ew]; exact hP
  have hk3 : m_kd w49 (m_nx w) = 21 := by rw [ew]; exact hk3
  have hk4 : m_kd w49 h = 11 := by rw [ew]; exact hk4
  have hk8 : m_kd w49 (m_nx w5) = 21 := by rw [ew]; exact hk8
  have hk12 : m_kd w49 (m_nx w9) = 21 := by rw [ew]; exact hk12
  have hk16 : m_kd w49 (m_nx w13) = 21 := by rw [ew]; exact hk16
  have hk20 : m_kd w49 (m_nx w17) = 21 := by rw [ew]; exact hk20
  have hk24 : m_kd w49 (m_nx w21) = 21 := by rw [ew]; exact hk24
  have hk28 : m_kd w49 (m_nx w25) = 21 := by rw [ew]; exact hk28
  have hk32 : m_kd w49 (m_nx w29) = 21 := by rw [ew]; exact hk32
  have hk36 : m_kd w49 (m_nx w33) = 21 := by rw [ew]; exact hk36
  have hk40 : m_kd w49 (m_nx w37) = 21 := by rw [ew]; exact hk40
  have hk44 : m_kd w49 (m_nx w41) = 21 := by rw [ew]; exact hk44
  have hk48 : m_kd w49 (m_nx w45) = 21 := by rw [ew]; exact hk48
  refine lv_aload_n hx hb dX7_init_100 rfl (lv_at hl 0 rfl) ?_
  refine lv_sipush (v := 401) hx hb dX7_init_101 (by decide) ?_
  obtain ⟨hg50, hd⟩ := m_g_e hd
  have hne0 : m_nx w ≠ m_nx w49 := m_ne hP hk3 (by decide)
  have hne1 : h ≠ m_nx w49 := m_ne hP hk4 (by decide)
  have hne2 : m_nx w5 ≠ m_nx w49 := m_ne hP hk8 (by decide)
  have hne3 : m_nx w9 ≠ m_nx w49 := m_ne hP hk12 (by decide)
  have hne4 : m_nx w13 ≠ m_nx w49 := m_ne hP hk16 (by decide)
  have hne5 : m_nx w17 ≠ m_nx w49 := m_ne hP hk20 (by decide)
  have hne6 : m_nx w21 ≠ m_nx w49 := m_ne hP hk24 (by decide)
  have hne7 : m_nx w25 ≠ m_nx w49 := m_ne hP hk28 (by decide)
  have hne8 : m_nx w29 ≠ m_nx w49 := m_ne hP hk32 (by decide)
  have hne9 : m_nx w33 ≠ m_nx w49 := m_ne hP hk36 (by decide)
  have hne10 : m_nx w37 ≠ m_nx w49 := m_ne hP hk40 (by decide)
  have hne11 : m_nx w41 ≠ m_nx w49 := m_ne hP hk44 (by decide)
  have hne12 : m_nx w45 ≠ m_nx w49 := m_ne hP hk48 (by decide)
  refine m_newA (atype := .int) 21 hx hb (hts (.arrayClass .int) (by decide +kernel)) rfl hM.1 hP hS (t0 := 0) rfl m_naint hg50 (Nat.le_of_ble_eq_true rfl) (Nat.le_of_ble_eq_true rfl) dX7_init_104 (fun H hP hS => ?_)
  obtain ⟨w51, ew, hd⟩ := m_l_e hd
  have hP : mP G w51 H := by rw [ew]; exact hP
  have hk3 : m_kd w51 (m_nx w) = 21 := by rw [ew]; exact m_nA_old hk3 hne0
  have hk4 : m_kd w51 h = 11 := by rw [ew]; exact m_nA_old hk4 hne1
  have hk8 : m_kd w51 (m_nx w5) = 21 := by rw [ew]; exact m_nA_old hk8 hne2
  have hk12 : m_kd w51 (m_nx w9) = 21 := by rw [ew]; exact m_nA_old hk12 hne3
  have hk16 : m_kd w51 (m_nx w13) = 21 := by rw [ew]; exact m_nA_old hk16 hne4
  have hk20 : m_kd w51 (m_nx w17) = 21 := by rw [ew]; exact m_nA_old hk20 hne5
  have hk24 : m_kd w51 (m_nx w21) = 21 := by rw [ew]; exact m_nA_old hk24 hne6
  have hk28 : m_kd w51 (m_nx w25) = 21 := by rw [ew]; exact m_nA_old hk28 hne7
  have hk32 : m_kd w51 (m_nx w29) = 21 := by rw [ew]; exact m_nA_old hk32 hne8
  have hk36 : m_kd w51 (m_nx w33) = 21 := by rw [ew]; exact m_nA_old hk36 hne9
  have hk40 : m_kd w51 (m_nx w37) = 21 := by rw [ew]; exact m_nA_old hk40 hne10
  have hk44 : m_kd w51 (m_nx w41) = 21 := by rw [ew]; exact m_nA_old hk44 hne11
  have hk48 : m_kd w51 (m_nx w45) = 21 := by rw [ew]; exact m_nA_old hk48 hne12
  have hk52 : m_kd w51 (m_nx w49) = 21 := by rw [ew]; exact m_nA_new
  refine m_putR (C := RX7) (T := TX7) (N := 32) (own := RX7) (ref := RX7) hx hb hts hin10 tyX7 tyX7_ok nmX7 hown hM.1 hP hS 10 rfl 14 hk4 (by decide) (hts (.fieldLink RX7 46 "CellNotebookModel" "cell" "[I") (by decide +kernel)) (fun _ h9 => h9) (Or.inr ⟨rfl, hin, rfl⟩) (ty := .array .int) (by decide +kernel) ⟨rfl, rfl⟩ dX7_init_106 (fun H locs hP hS => ?_)
  obtain ⟨w53, ew, hd⟩ := m_l_e hd
  have hP : mP G w53 H := by rw [ew]; exact hP
  have hk3 : m_kd w53 (m_nx w) = 21 := by rw [ew]; exact hk3
  have hk4 : m_kd w53 h = 11 := by rw [ew]; exact hk4
  have hk8 : m_kd w53 (m_nx w5) = 21 := by rw [ew]; exact hk8
  have hk12 : m_kd w53 (m_nx w9) = 21 := by rw [ew]; exact hk12
  have hk16 : m_kd w53 (m_nx w13) = 21 := by rw [ew]; exact hk16
  have hk20 : m_kd w53 (m_nx w17) = 21 := by rw [ew]; exact hk20
  have hk24 : m_kd w53 (m_nx w21) = 21 := by rw [ew]; exact hk24
  have hk28 : m_kd w53 (m_nx w25) = 21 := by rw [ew]; exact hk28
  have hk32 : m_kd w53 (m_nx w29) = 21 := by rw [ew]; exact hk32
  have hk36 : m_kd w53 (m_nx w33) = 21 := by rw [ew]; exact hk36
  have hk40 : m_kd w53 (m_nx w37) = 21 := by rw [ew]; exact hk40
  have hk44 : m_kd w53 (m_nx w41) = 21 := by rw [ew]; exact hk44
  have hk48 : m_kd w53 (m_nx w45) = 21 := by rw [ew]; exact hk48
  have hk52 : m_kd w53 (m_nx w49) = 21 := by rw [ew]; exact hk52
  refine lv_aload_n hx hb dX7_init_109 rfl (lv_at hl 0 rfl) ?_
  refine lv_sipush (v := 401) hx hb dX7_init_110 (by decide) ?_
  obtain ⟨hg54, hd⟩ := m_g_e hd
  have hne0 : m_nx w ≠ m_nx w53 := m_ne hP hk3 (by decide)
  have hne1 : h ≠ m_nx w53 := m_ne hP hk4 (by decide)
  have hne2 : m_nx w5 ≠ m_nx w53 := m_ne hP hk8 (by decide)
  have hne3 : m_nx w9 ≠ m_nx w53 := m_ne hP hk12 (by decide)
  have hne4 : m_nx w13 ≠ m_nx w53 := m_ne hP hk16 (by decide)
  have hne5 : m_nx w17 ≠ m_nx w53 := m_ne hP hk20 (by decide)
  have hne6 : m_nx w21 ≠ m_nx w53 := m_ne hP hk24 (by decide)
  have hne7 : m_nx w25 ≠ m_nx w53 := m_ne hP hk28 (by decide)
  have hne8 : m_nx w29 ≠ m_nx w53 := m_ne hP hk32 (by decide)
  have hne9 : m_nx w33 ≠ m_nx w53 := m_ne hP hk36 (by decide)
  have hne10 : m_nx w37 ≠ m_nx w53 := m_ne hP hk40 (by decide)
  have hne11 : m_nx w41 ≠ m_nx w53 := m_ne hP hk44 (by decide)
  have hne12 : m_nx w45 ≠ m_nx w53 := m_ne hP hk48 (by decide)
  have hne13 : m_nx w49 ≠ m_nx w53 := m_ne hP hk52 (by decide)
  refine m_newA (atype := .int) 21 hx hb (hts (.arrayClass .int) (by decide +kernel)) rfl hM.1 hP hS (t0 := 0) rfl m_naint hg54 (Nat.le_of_ble_eq_true rfl) (Nat.le_of_ble_eq_true rfl) dX7_init_113 (fun H hP hS => ?_)
  obtain ⟨w55, ew, hd⟩ := m_l_e hd
  have hP : mP G w55 H := by rw [ew]; exact hP
  have hk3 : m_kd w55 (m_nx w) = 21 := by rw [ew]; exact m_nA_old hk3 hne0
  have hk4 : m_kd w55 h = 11 := by rw [ew]; exact m_nA_old hk4 hne1
  have hk8 : m_kd w55 (m_nx w5) = 21 := by rw [ew]; exact m_nA_old hk8 hne2
  have hk12 : m_kd w55 (m_nx w9) = 21 := by rw [ew]; exact m_nA_old hk12 hne3
  have hk16 : m_kd w55 (m_nx w13) = 21 := by rw [ew]; exact m_nA_old hk16 hne4
  have hk20 : m_kd w55 (m_nx w17) = 21 := by rw [ew]; exact m_nA_old hk20 hne5
  have hk24 : m_kd w55 (m_nx w21) = 21 := by rw [ew]; exact m_nA_old hk24 hne6
  have hk28 : m_kd w55 (m_nx w25) = 21 := by rw [ew]; exact m_nA_old hk28 hne7
  have hk32 : m_kd w55 (m_nx w29) = 21 := by rw [ew]; exact m_nA_old hk32 hne8
  have hk36 : m_kd w55 (m_nx w33) = 21 := by rw [ew]; exact m_nA_old hk36 hne9
  have hk40 : m_kd w55 (m_nx w37) = 21 := by rw [ew]; exact m_nA_old hk40 hne10
  have hk44 : m_kd w55 (m_nx w41) = 21 := by rw [ew]; exact m_nA_old hk44 hne11
  have hk48 : m_kd w55 (m_nx w45) = 21 := by rw [ew]; exact m_nA_old hk48 hne12
  have hk52 : m_kd w55 (m_nx w49) = 21 := by rw [ew]; exact m_nA_old hk52 hne13
  have hk56 : m_kd w55 (m_nx w53) = 21 := by rw [ew]; exact m_nA_new
  refine m_putR (C := RX7) (T := TX7) (N := 32) (own := RX7) (ref := RX7) hx hb hts hin10 tyX7 tyX7_ok nmX7 hown hM.1 hP hS 10 rfl 15 hk4 (by decide) (hts (.fieldLink RX7 49 "CellNotebookModel" "user" "[I") (by decide +kernel)) (fun _ h9 => h9) (Or.inr ⟨rfl, hin, rfl⟩) (ty := .array .int) (by decide +kernel) ⟨rfl, rfl⟩ dX7_init_115 (fun H locs hP hS => ?_)
  obtain ⟨w57, ew, hd⟩ := m_l_e hd
  have hP : mP G w57 H := by rw [ew]; exact hP
  have hk3 : m_kd w57 (m_nx w) = 21 := by rw [ew]; exact hk3
  have hk4 : m_kd w57 h = 11 := by rw [ew]; exact hk4
  have hk8 : m_kd w57 (m_nx w5) = 21 := by rw [ew]; exact hk8
  have hk12 : m_kd w57 (m_nx w9) = 21 := by rw [ew]; exact hk12
  have hk16 : m_kd w57 (m_nx w13) = 21 := by rw [ew]; exact hk16
  have hk20 : m_kd w57 (m_nx w17) = 21 := by rw [ew]; exact hk20
  have hk24 : m_kd w57 (m_nx w21) = 21 := by rw [ew]; exact hk24
  have hk28 : m_kd w57 (m_nx w25) = 21 := by rw [ew]; exact hk28
  have hk32 : m_kd w57 (m_nx w29) = 21 := by rw [ew]; exact hk32
  have hk36 : m_kd w57 (m_nx w33) = 21 := by rw [ew]; exact hk36
  have hk40 : m_kd w57 (m_nx w37) = 21 := by rw [ew]; exact hk40
  have hk44 : m_kd w57 (m_nx w41) = 21 := by rw [ew]; exact hk44
  have hk48 : m_kd w57 (m_nx w45) = 21 := by rw [ew]; exact hk48
  have hk52 : m_kd w57 (m_nx w49) = 21 := by rw [ew]; exact hk52
  have hk56 : m_kd w57 (m_nx w53) = 21 := by rw [ew]; exact hk56
  refine lv_aload_n hx hb dX7_init_118 rfl (lv_at hl 0 rfl) ?_
  refine lv_sipush (v := 401) hx hb dX7_init_119 (by decide) ?_
  obtain ⟨hg58, hd⟩ := m_g_e hd
  have hne0 : m_nx w ≠ m_nx w57 := m_ne hP hk3 (by decide)
  have hne1 : h ≠ m_nx w57 := m_ne hP hk4 (by decide)
  have hne2 : m_nx w5 ≠ m_nx w57 := m_ne hP hk8 (by decide)
  have hne3 : m_nx w9 ≠ m_nx w57 := m_ne hP hk12 (by decide)
  have hne4 : m_nx w13 ≠ m_nx w57 := m_ne hP hk16 (by decide)
  have hne5 : m_nx w17 ≠ m_nx w57 := m_ne hP hk20 (by decide)
  have hne6 : m_nx w21 ≠ m_nx w57 := m_ne hP hk24 (by decide)
  have hne7 : m_nx w25 ≠ m_nx w57 := m_ne hP hk28 (by decide)
  have hne8 : m_nx w29 ≠ m_nx w57 := m_ne hP hk32 (by decide)
  have hne9 : m_nx w33 ≠ m_nx w57 := m_ne hP hk36 (by decide)
  have hne10 : m_nx w37 ≠ m_nx w57 := m_ne hP hk40 (by decide)
  have hne11 : m_nx w41 ≠ m_nx w57 := m_ne hP hk44 (by decide)
  have hne12 : m_nx w45 ≠ m_nx w57 := m_ne hP hk48 (by decide)
  have hne13 : m_nx w49 ≠ m_nx w57 := m_ne hP hk52 (by decide)
  have hne14 : m_nx w53 ≠ m_nx w57 := m_ne hP hk56 (by decide)
  refine m_newA (atype := .int) 21 hx hb (hts (.arrayClass .int) (by decide +kernel)) rfl hM.1 hP hS (t0 := 0) rfl m_naint hg58 (Nat.le_of_ble_eq_true rfl) (Nat.le_of_ble_eq_true rfl) dX7_init_122 (fun H hP hS => ?_)
  obtain ⟨w59, ew, hd⟩ := m_l_e hd
  have hP : mP G w59 H := by rw [ew]; exact hP
  have hk3 : m_kd w59 (m_nx w) = 21 := by rw [ew]; exact m_nA_old hk3 hne0
  have hk4 : m_kd w59 h = 11 := by rw [ew]; exact m_nA_old hk4 hne1
  have hk8 : m_kd w59 (m_nx w5) = 21 := by rw [ew]; exact m_nA_old hk8 hne2
  have hk12 : m_kd w59 (m_nx w9) = 21 := by rw [ew]; exact m_nA_old hk12 hne3
  have hk16 : m_kd w59 (m_nx w13) = 21 := by rw [ew]; exact m_nA_old hk16 hne4
  have hk20 : m_kd w59 (m_nx w17) = 21 := by rw [ew]; exact m_nA_old hk20 hne5
  have hk24 : m_kd w59 (m_nx w21) = 21 := by rw [ew]; exact m_nA_old hk24 hne6
  have hk28 : m_kd w59 (m_nx w25) = 21 := by rw [ew]; exact m_nA_old hk28 hne7
  have hk32 : m_kd w59 (m_nx w29) = 21 := by rw [ew]; exact m_nA_old hk32 hne8
  have hk36 : m_kd w59 (m_nx w33) = 21 := by rw [ew]; exact m_nA_old hk36 hne9
  have hk40 : m_kd w59 (m_nx w37) = 21 := by rw [ew]; exact m_nA_old hk40 hne10
  have hk44 : m_kd w59 (m_nx w41) = 21 := by rw [ew]; exact m_nA_old hk44 hne11
  have hk48 : m_kd w59 (m_nx w45) = 21 := by rw [ew]; exact m_nA_old hk48 hne12
  have hk52 : m_kd w59 (m_nx w49) = 21 := by rw [ew]; exact m_nA_old hk52 hne13
  have hk56 : m_kd w59 (m_nx w53) = 21 := by rw [ew]; exact m_nA_old hk56 hne14
  have hk60 : m_kd w59 (m_nx w57) = 21 := by rw [ew]; exact m_nA_new
  refine m_putR (C := RX7) (T := TX7) (N := 32) (own := RX7) (ref := RX7) hx hb hts hin10 tyX7 tyX7_ok nmX7 hown hM.1 hP hS 10 rfl 16 hk4 (by decide) (hts (.fieldLink RX7 52 "CellNotebookModel" "seen" "[I") (by decide +kernel)) (fun _ h9 => h9) (Or.inr ⟨rfl, hin, rfl⟩) (ty := .array .int) (by decide +kernel) ⟨rfl, rfl⟩ dX7_init_124 (fun H locs hP hS => ?_)
  obtain ⟨w61, ew, hd⟩ := m_l_e hd
  have hP : mP G w61 H := by rw [ew]; exact hP
  have hk3 : m_kd w61 (m_nx w) = 21 := by rw [ew]; exact hk3
  have hk4 : m_kd w61 h = 11 := by rw [ew]; exact hk4
  have hk8 : m_kd w61 (m_nx w5) = 21 := by rw [ew]; exact hk8
  have hk12 : m_kd w61 (m_nx w9) = 21 := by rw [ew]; exact hk12
  have hk16 : m_kd w61 (m_nx w13) = 21 := by rw [ew]; exact hk16
  have hk20 : m_kd w61 (m_nx w17) = 21 := by rw [ew]; exact hk20
  have hk24 : m_kd w61 (m_nx w21) = 21 := by rw [ew]; exact hk24
  have hk28 : m_kd w61 (m_nx w25) = 21 := by rw [ew]; exact hk28
  have hk32 : m_kd w61 (m_nx w29) = 21 := by rw [ew]; exact hk32
  have hk36 : m_kd w61 (m_nx w33) = 21 := by rw [ew]; exact hk36
  have hk40 : m_kd w61 (m_nx w37) = 21 := by rw [ew]; exact hk40
  have hk44 : m_kd w61 (m_nx w41) = 21 := by rw [ew]; exact hk44
  have hk48 : m_kd w61 (m_nx w45) = 21 := by rw [ew]; exact hk48
  have hk52 : m_kd w61 (m_nx w49) = 21 := by rw [ew]; exact hk52
  have hk56 : m_kd w61 (m_nx w53) = 21 := by rw [ew]; exact hk56
  have hk60 : m_kd w61 (m_nx w57) = 21 := by rw [ew]; exact hk60
  refine lv_aload_n hx hb dX7_init_127 rfl (lv_at hl 0 rfl) ?_
  refine lv_sipush (v := 401) hx hb dX7_init_128 (by decide) ?_
  obtain ⟨hg62, hd⟩ := m_g_e hd
  have hne0 : m_nx w ≠ m_nx w61 := m_ne hP hk3 (by decide)
  have hne1 : h ≠ m_nx w61 := m_ne hP hk4 (by decide)
  have hne2 : m_nx w5 ≠ m_nx w61 := m_ne hP hk8 (by decide)
  have hne3 : m_nx w9 ≠ m_nx w61 := m_ne hP hk12 (by decide)
  have hne4 : m_nx w13 ≠ m_nx w61 := m_ne hP hk16 (by decide)
  have hne5 : m_nx w17 ≠ m_nx w61 := m_ne hP hk20 (by decide)
  have hne6 : m_nx w21 ≠ m_nx w61 := m_ne hP hk24 (by decide)
  have hne7 : m_nx w25 ≠ m_nx w61 := m_ne hP hk28 (by decide)
  have hne8 : m_nx w29 ≠ m_nx w61 := m_ne hP hk32 (by decide)
  have hne9 : m_nx w33 ≠ m_nx w61 := m_ne hP hk36 (by decide)
  have hne10 : m_nx w37 ≠ m_nx w61 := m_ne hP hk40 (by decide)
  have hne11 : m_nx w41 ≠ m_nx w61 := m_ne hP hk44 (by decide)
  have hne12 : m_nx w45 ≠ m_nx w61 := m_ne hP hk48 (by decide)
  have hne13 : m_nx w49 ≠ m_nx w61 := m_ne hP hk52 (by decide)
  have hne14 : m_nx w53 ≠ m_nx w61 := m_ne hP hk56 (by decide)
  have hne15 : m_nx w57 ≠ m_nx w61 := m_ne hP hk60 (by decide)
  refine m_newA (atype := .int) 21 hx hb (hts (.arrayClass .int) (by decide +kernel)) rfl hM.1 hP hS (t0 := 0) rfl m_naint hg62 (Nat.le_of_ble_eq_true rfl) (Nat.le_of_ble_eq_true rfl) dX7_init_131 (fun H hP hS => ?_)
  obtain ⟨w63, ew, hd⟩ := m_l_e hd
  have hP : mP G w63 H := by rw [ew]; exact hP
  have hk3 : m_kd w63 (m_nx w) = 21 := by rw [ew]; exact m_nA_old hk3 hne0
  have hk4 : m_kd w63 h = 11 := by rw [ew]; exact m_nA_old hk4 hne1
  have hk8 : m_kd w63 (m_nx w5) = 21 := by rw [ew]; exact m_nA_old hk8 hne2
  have hk12 : m_kd w63 (m_nx w9) = 21 := by rw [ew]; exact m_nA_old hk12 hne3
  have hk16 : m_kd w63 (m_nx w13) = 21 := by rw [ew]; exact m_nA_old hk16 hne4
  have hk20 : m_kd w63 (m_nx w17) = 21 := by rw [ew]; exact m_nA_old hk20 hne5
  have hk24 : m_kd w63 (m_nx w21) = 21 := by rw [ew]; exact m_nA_old hk24 hne6
  have hk28 : m_kd w63 (m_nx w25) = 21 := by rw [ew]; exact m_nA_old hk28 hne7
  have hk32 : m_kd w63 (m_nx w29) = 21 := by rw [ew]; exact m_nA_old hk32 hne8
  have hk36 : m_kd w63 (m_nx w33) = 21 := by rw [ew]; exact m_nA_old hk36 hne9
  have hk40 : m_kd w63 (m_nx w37) = 21 := by rw [ew]; exact m_nA_old hk40 hne10
  have hk44 : m_kd w63 (m_nx w41) = 21 := by rw [ew]; exact m_nA_old hk44 hne11
  have hk48 : m_kd w63 (m_nx w45) = 21 := by rw [ew]; exact m_nA_old hk48 hne12
  have hk52 : m_kd w63 (m_nx w49) = 21 := by rw [ew]; exact m_nA_old hk52 hne13
  have hk56 : m_kd w63 (m_nx w53) = 21 := by rw [ew]; exact m_nA_old hk56 hne14
  have hk60 : m_kd w63 (m_nx w57) = 21 := by rw [ew]; exact m_nA_old hk60 hne15
  have hk64 : m_kd w63 (m_nx w61) = 21 := by rw [ew]; exact m_nA_new
  refine m_putR (C := RX7) (T := TX7) (N := 32) (own := RX7) (ref := RX7) hx hb hts hin10 tyX7 tyX7_ok nmX7 hown hM.1 hP hS 10 rfl 17 hk4 (by decide) (hts (.fieldLink RX7 55 "CellNotebookModel" "result" "[I") (by decide +kernel)) (fun _ h9 => h9) (Or.inr ⟨rfl, hin, rfl⟩) (ty := .array .int) (by decide +kernel) ⟨rfl, rfl⟩ dX7_init_133 (fun H locs hP hS => ?_)
  obtain ⟨w65, ew, hd⟩ := m_l_e hd
  have hP : mP G w65 H := by rw [ew]; exact hP
  have hk3 : m_kd w65 (m_nx w) = 21 := by rw [ew]; exact hk3
  have hk4 : m_kd w65 h = 11 := by rw [ew]; exact hk4
  have hk8 : m_kd w65 (m_nx w5) = 21 := by rw [ew]; exact hk8
  have hk12 : m_kd w65 (m_nx w9) = 21 := by rw [ew]; exact hk12
  have hk16 : m_kd w65 (m_nx w13) = 21 := by rw [ew]; exact hk16
  have hk20 : m_kd w65 (m_nx w17) = 21 := by rw [ew]; exact hk20
  have hk24 : m_kd w65 (m_nx w21) = 21 := by rw [ew]; exact hk24
  have hk28 : m_kd w65 (m_nx w25) = 21 := by rw [ew]; exact hk28
  have hk32 : m_kd w65 (m_nx w29) = 21 := by rw [ew]; exact hk32
  have hk36 : m_kd w65 (m_nx w33) = 21 := by rw [ew]; exact hk36
  have hk40 : m_kd w65 (m_nx w37) = 21 := by rw [ew]; exact hk40
  have hk44 : m_kd w65 (m_nx w41) = 21 := by rw [ew]; exact hk44
  have hk48 : m_kd w65 (m_nx w45) = 21 := by rw [ew]; exact hk48
  have hk52 : m_kd w65 (m_nx w49) = 21 := by rw [ew]; exact hk52
  have hk56 : m_kd w65 (m_nx w53) = 21 := by rw [ew]; exact hk56
  have hk60 : m_kd w65 (m_nx w57) = 21 := by rw [ew]; exact hk60
  have hk64 : m_kd w65 (m_nx w61) = 21 := by rw [ew]; exact hk64
  refine lv_aload_n hx hb dX7_init_136 rfl (lv_at hl 0 rfl) ?_
  refine lv_sipush (v := 401) hx hb dX7_init_137 (by decide) ?_
  obtain ⟨hg66, hd⟩ := m_g_e hd
  have hne0 : m_nx w ≠ m_nx w65 := m_ne hP hk3 (by decide)
  have hne1 : h ≠ m_nx w65 := m_ne hP hk4 (by decide)
  have hne2 : m_nx w5 ≠ m_nx w65 := m_ne hP hk8 (by decide)
  have hne3 : m_nx w9 ≠ m_nx w65 := m_ne hP hk12 (by decide)
  have hne4 : m_nx w13 ≠ m_nx w65 := m_ne hP hk16 (by decide)
  have hne5 : m_nx w17 ≠ m_nx w65 := m_ne hP hk20 (by decide)
  have hne6 : m_nx w21 ≠ m_nx w65 := m_ne hP hk24 (by decide)
  have hne7 : m_nx w25 ≠ m_nx w65 := m_ne hP hk28 (by decide)
  have hne8 : m_nx w29 ≠ m_nx w65 := m_ne hP hk32 (by decide)
  have hne9 : m_nx w33 ≠ m_nx w65 := m_ne hP hk36 (by decide)
  have hne10 : m_nx w37 ≠ m_nx w65 := m_ne hP hk40 (by decide)
  have hne11 : m_nx w41 ≠ m_nx w65 := m_ne hP hk44 (by decide)
  have hne12 : m_nx w45 ≠ m_nx w65 := m_ne hP hk48 (by decide)
  have hne13 : m_nx w49 ≠ m_nx w65 := m_ne hP hk52 (by decide)
  have hne14 : m_nx w53 ≠ m_nx w65 := m_ne hP hk56 (by decide)
  have hne15 : m_nx w57 ≠ m_nx w65 := m_ne hP hk60 (by decide)
  have hne16 : m_nx w61 ≠ m_nx w65 := m_ne hP hk64 (by decide)
  refine m_newA (atype := .boolean) 22 hx hb (hts (.arrayClass .boolean) (by decide +kernel)) rfl hM.1 hP hS (t0 := 1) rfl m_naboolean hg66 (Nat.le_of_ble_eq_true rfl) (Nat.le_of_ble_eq_true rfl) dX7_init_140 (fun H hP hS => ?_)
  obtain ⟨w67, ew, hd⟩ := m_l_e hd
  have hP : mP G w67 H := by rw [ew]; exact hP
  have hk3 : m_kd w67 (m_nx w) = 21 := by rw [ew]; exact m_nA_old hk3 hne0
  have hk4 : m_kd w67 h = 11 := by rw [ew]; exact m_nA_old hk4 hne1
  have hk8 : m_kd w67 (m_nx w5) = 21 := by rw [ew]; exact m_nA_old hk8 hne2
  have hk12 : m_kd w67 (m_nx w9) = 21 := by rw [ew]; exact m_nA_old hk12 hne3
  have hk16 : m_kd w67 (m_nx w13) = 21 := by rw [ew]; exact m_nA_old hk16 hne4
  have hk20 : m_kd w67 (m_nx w17) = 21 := by rw [ew]; exact m_nA_old hk20 hne5
  have hk24 : m_kd w67 (m_nx w21) = 21 := by rw [ew]; exact m_nA_old hk24 hne6
  have hk28 : m_kd w67 (m_nx w25) = 21 := by rw [ew]; exact m_nA_old hk28 hne7
  have hk32 : m_kd w67 (m_nx w29) = 21 := by rw [ew]; exact m_nA_old hk32 hne8
  have hk36 : m_kd w67 (m_nx w33) = 21 := by rw [ew]; exact m_nA_old hk36 hne9
  have hk40 : m_kd w67 (m_nx w37) = 21 := by rw [ew]; exact m_nA_old hk40 hne10
  have hk44 : m_kd w67 (m_nx w41) = 21 := by rw [ew]; exact m_nA_old hk44 hne11
  have hk48 : m_kd w67 (m_nx w45) = 21 := by rw [ew]; exact m_nA_old hk48 hne12
  have hk52 : m_kd w67 (m_nx w49) = 21 := by rw [ew]; exact m_nA_old hk52 hne13
  have hk56 : m_kd w67 (m_nx w53) = 21 := by rw [ew]; exact m_nA_old hk56 hne14
  have hk60 : m_kd w67 (m_nx w57) = 21 := by rw [ew]; exact m_nA_old hk60 hne15
  have hk64 : m_kd w67 (m_nx w61) = 21 := by rw [ew]; exact m_nA_old hk64 hne16
  have hk68 : m_kd w67 (m_nx w65) = 22 := by rw [ew]; exact m_nA_new
  refine m_putR (C := RX7) (T := TX7) (N := 32) (own := RX7) (ref := RX7) hx hb hts hin10 tyX7 tyX7_ok nmX7 hown hM.1 hP hS 10 rfl 18 hk4 (by decide) (hts (.fieldLink RX7 58 "CellNotebookModel" "results" "[Z") (by decide +kernel)) (fun _ h9 => h9) (Or.inr ⟨rfl, hin, rfl⟩) (ty := .array .boolean) (by decide +kernel) ⟨rfl, rfl⟩ dX7_init_142 (fun H locs hP hS => ?_)
  obtain ⟨w69, ew, hd⟩ := m_l_e hd
  have hP : mP G w69 H := by rw [ew]; exact hP
  have hk3 : m_kd w69 (m_nx w) = 21 := by rw [ew]; exact hk3
  have hk4 : m_kd w69 h = 11 := by rw [ew]; exact hk4
  have hk8 : m_kd w69 (m_nx w5) = 21 := by rw [ew]; exact hk8
  have hk12 : m_kd w69 (m_nx w9) = 21 := by rw [ew]; exact hk12
  have hk16 : m_kd w69 (m_nx w13) = 21 := by rw [ew]; exact hk16
  have hk20 : m_kd w69 (m_nx w17) = 21 := by rw [ew]; exact hk20
  have hk24 : m_kd w69 (m_nx w21) = 21 := by rw [ew]; exact hk24
  have hk28 : m_kd w69 (m_nx w25) = 21 := by rw [ew]; exact hk28
  have hk32 : m_kd w69 (m_nx w29) = 21 := by rw [ew]; exact hk32
  have hk36 : m_kd w69 (m_nx w33) = 21 := by rw [ew]; exact hk36
  have hk40 : m_kd w69 (m_nx w37) = 21 := by rw [ew]; exact hk40
  have hk44 : m_kd w69 (m_nx w41) = 21 := by rw [ew]; exact hk44
  have hk48 : m_kd w69 (m_nx w45) = 21 := by rw [ew]; exact hk48
  have hk52 : m_kd w69 (m_nx w49) = 21 := by rw [ew]; exact hk52
  have hk56 : m_kd w69 (m_nx w53) = 21 := by rw [ew]; exact hk56
  have hk60 : m_kd w69 (m_nx w57) = 21 := by rw [ew]; exact hk60
  have hk64 : m_kd w69 (m_nx w61) = 21 := by rw [ew]; exact hk64
  have hk68 : m_kd w69 (m_nx w65) = 22 := by rw [ew]; exact hk68
  refine lv_aload_n hx hb dX7_init_145 rfl (lv_at hl 0 rfl) ?_
  refine lv_sipush (v := 401) hx hb dX7_init_146 (by decide) ?_
  obtain ⟨hg70, hd⟩ := m_g_e hd
  have hne0 : m_nx w ≠ m_nx w69 := m_ne hP hk3 (by decide)
  have hne1 : h ≠ m_nx w69 := m_ne hP hk4 (by decide)
  have hne2 : m_nx w5 ≠ m_nx w69 := m_ne hP hk8 (by decide)
  have hne3 : m_nx w9 ≠ m_nx w69 := m_ne hP hk12 (by decide)
  have hne4 : m_nx w13 ≠ m_nx w69 := m_ne hP hk16 (by decide)
  have hne5 : m_nx w17 ≠ m_nx w69 := m_ne hP hk20 (by decide)
  have hne6 : m_nx w21 ≠ m_nx w69 := m_ne hP hk24 (by decide)
  have hne7 : m_nx w25 ≠ m_nx w69 := m_ne hP hk28 (by decide)
  have hne8 : m_nx w29 ≠ m_nx w69 := m_ne hP hk32 (by decide)
  have hne9 : m_nx w33 ≠ m_nx w69 := m_ne hP hk36 (by decide)
  have hne10 : m_nx w37 ≠ m_nx w69 := m_ne hP hk40 (by decide)
  have hne11 : m_nx w41 ≠ m_nx w69 := m_ne hP hk44 (by decide)
  have hne12 : m_nx w45 ≠ m_nx w69 := m_ne hP hk48 (by decide)
  have hne13 : m_nx w49 ≠ m_nx w69 := m_ne hP hk52 (by decide)
  have hne14 : m_nx w53 ≠ m_nx w69 := m_ne hP hk56 (by decide)
  have hne15 : m_nx w57 ≠ m_nx w69 := m_ne hP hk60 (by decide)
  have hne16 : m_nx w61 ≠ m_nx w69 := m_ne hP hk64 (by decide)
  have hne17 : m_nx w65 ≠ m_nx w69 := m_ne hP hk68 (by decide)
  refine m_newA (atype := .boolean) 22 hx hb (hts (.arrayClass .boolean) (by decide +kernel)) rfl hM.1 hP hS (t0 := 1) rfl m_naboolean hg70 (Nat.le_of_ble_eq_true rfl) (Nat.le_of_ble_eq_true rfl) dX7_init_149 (fun H hP hS => ?_)
  obtain ⟨w71, ew, hd⟩ := m_l_e hd
  have hP : mP G w71 H := by rw [ew]; exact hP
  have hk3 : m_kd w71 (m_nx w) = 21 := by rw [ew]; exact m_nA_old hk3 hne0
  have hk4 : m_kd w71 h = 11 := by rw [ew]; exact m_nA_old hk4 hne1
  have hk8 : m_kd w71 (m_nx w5) = 21 := by rw [ew]; exact m_nA_old hk8 hne2
  have hk12 : m_kd w71 (m_nx w9) = 21 := by rw [ew]; exact m_nA_old hk12 hne3
  have hk16 : m_kd w71 (m_nx w13) = 21 := by rw [ew]; exact m_nA_old hk16 hne4
  have hk20 : m_kd w71 (m_nx w17) = 21 := by rw [ew]; exact m_nA_old hk20 hne5
  have hk24 : m_kd w71 (m_nx w21) = 21 := by rw [ew]; exact m_nA_old hk24 hne6
  have hk28 : m_kd w71 (m_nx w25) = 21 := by rw [ew]; exact m_nA_old hk28 hne7
  have hk32 : m_kd w71 (m_nx w29) = 21 := by rw [ew]; exact m_nA_old hk32 hne8
  have hk36 : m_kd w71 (m_nx w33) = 21 := by rw [ew]; exact m_nA_old hk36 hne9
  have hk40 : m_kd w71 (m_nx w37) = 21 := by rw [ew]; exact m_nA_old hk40 hne10
  have hk44 : m_kd w71 (m_nx w41) = 21 := by rw [ew]; exact m_nA_old hk44 hne11
  have hk48 : m_kd w71 (m_nx w45) = 21 := by rw [ew]; exact m_nA_old hk48 hne12
  have hk52 : m_kd w71 (m_nx w49) = 21 := by rw [ew]; exact m_nA_old hk52 hne13
  have hk56 : m_kd w71 (m_nx w53) = 21 := by rw [ew]; exact m_nA_old hk56 hne14
  have hk60 : m_kd w71 (m_nx w57) = 21 := by rw [ew]; exact m_nA_old hk60 hne15
  have hk64 : m_kd w71 (m_nx w61) = 21 := by rw [ew]; exact m_nA_old hk64 hne16
  have hk68 : m_kd w71 (m_nx w65) = 22 := by rw [ew]; exact m_nA_old hk68 hne17
  have hk72 : m_kd w71 (m_nx w69) = 22 := by rw [ew]; exact m_nA_new
  refine m_putR (C := RX7) (T := TX7) (N := 32) (own := RX7) (ref := RX7) hx hb hts hin10 tyX7 tyX7_ok nmX7 hown hM.1 hP hS 10 rfl 19 hk4 (by decide) (hts (.fieldLink RX7 62 "CellNotebookModel" "gone" "[Z") (by decide +kernel)) (fun _ h9 => h9) (Or.inr ⟨rfl, hin, rfl⟩) (ty := .array .boolean) (by decide +kernel) ⟨rfl, rfl⟩ dX7_init_151 (fun H locs hP hS => ?_)
  obtain ⟨w73, ew, hd⟩ := m_l_e hd
  have hP : mP G w73 H := by rw [ew]; exact hP
  have hk3 : m_kd w73 (m_nx w) = 21 := by rw [ew]; exact hk3
  have hk4 : m_kd w73 h = 11 := by rw [ew]; exact hk4
  have hk8 : m_kd w73 (m_nx w5) = 21 := by rw [ew]; exact hk8
  have hk12 : m_kd w73 (m_nx w9) = 21 := by rw [ew]; exact hk12
  have hk16 : m_kd w73 (m_nx w13) = 21 := by rw [ew]; exact hk16
  have hk20 : m_kd w73 (m_nx w17) = 21 := by rw [ew]; exact hk20
  have hk24 : m_kd w73 (m_nx w21) = 21 := by rw [ew]; exact hk24
  have hk28 : m_kd w73 (m_nx w25) = 21 := by rw [ew]; exact hk28
  have hk32 : m_kd w73 (m_nx w29) = 21 := by rw [ew]; exact hk32
  have hk36 : m_kd w73 (m_nx w33) = 21 := by rw [ew]; exact hk36
  have hk40 : m_kd w73 (m_nx w37) = 21 := by rw [ew]; exact hk40
  have hk44 : m_kd w73 (m_nx w41) = 21 := by rw [ew]; exact hk44
  have hk48 : m_kd w73 (m_nx w45) = 21 := by rw [ew]; exact hk48
  have hk52 : m_kd w73 (m_nx w49) = 21 := by rw [ew]; exact hk52
  have hk56 : m_kd w73 (m_nx w53) = 21 := by rw [ew]; exact hk56
  have hk60 : m_kd w73 (m_nx w57) = 21 := by rw [ew]; exact hk60
  have hk64 : m_kd w73 (m_nx w61) = 21 := by rw [ew]; exact hk64
  have hk68 : m_kd w73 (m_nx w65) = 22 := by rw [ew]; exact hk68
  have hk72 : m_kd w73 (m_nx w69) = 22 := by rw [ew]; exact hk72
  refine lv_aload_n hx hb dX7_init_154 rfl (lv_at hl 0 rfl) ?_
  refine lv_sipush (v := 3208) hx hb dX7_init_155 (by decide) ?_
  obtain ⟨hg74, hd⟩ := m_g_e hd
  have hne0 : m_nx w ≠ m_nx w73 := m_ne hP hk3 (by decide)
  have hne1 : h ≠ m_nx w73 := m_ne hP hk4 (by decide)
  have hne2 : m_nx w5 ≠ m_nx w73 := m_ne hP hk8 (by decide)
  have hne3 : m_nx w9 ≠ m_nx w73 := m_ne hP hk12 (by decide)
  have hne4 : m_nx w13 ≠ m_nx w73 := m_ne hP hk16 (by decide)
  have hne5 : m_nx w17 ≠ m_nx w73 := m_ne hP hk20 (by decide)
  have hne6 : m_nx w21 ≠ m_nx w73 := m_ne hP hk24 (by decide)
  have hne7 : m_nx w25 ≠ m_nx w73 := m_ne hP hk28 (by decide)
  have hne8 : m_nx w29 ≠ m_nx w73 := m_ne hP hk32 (by decide)
  have hne9 : m_nx w33 ≠ m_nx w73 := m_ne hP hk36 (by decide)
  have hne10 : m_nx w37 ≠ m_nx w73 := m_ne hP hk40 (by decide)
  have hne11 : m_nx w41 ≠ m_nx w73 := m_ne hP hk44 (by decide)
  have hne12 : m_nx w45 ≠ m_nx w73 := m_ne hP hk48 (by decide)
  have hne13 : m_nx w49 ≠ m_nx w73 := m_ne hP hk52 (by decide)
  have hne14 : m_nx w53 ≠ m_nx w73 := m_ne hP hk56 (by decide)
  have hne15 : m_nx w57 ≠ m_nx w73 := m_ne hP hk60 (by decide)
  have hne16 : m_nx w61 ≠ m_nx w73 := m_ne hP hk64 (by decide)
  have hne17 : m_nx w65 ≠ m_nx w73 := m_ne hP hk68 (by decide)
  have hne18 : m_nx w69 ≠ m_nx w73 := m_ne hP hk72 (by decide)
  refine m_newA (atype := .int) 21 hx hb (hts (.arrayClass .int) (by decide +kernel)) rfl hM.1 hP hS (t0 := 0) rfl m_naint hg74 (Nat.le_of_ble_eq_true rfl) (Nat.le_of_ble_eq_true rfl) dX7_init_158 (fun H hP hS => ?_)
  obtain ⟨w75, ew, hd⟩ := m_l_e hd
  have hP : mP G w75 H := by rw [ew]; exact hP
  have hk3 : m_kd w75 (m_nx w) = 21 := by rw [ew]; exact m_nA_old hk3 hne0
  have hk4 : m_kd w75 h = 11 := by rw [ew]; exact m_nA_old hk4 hne1
  have hk8 : m_kd w75 (m_nx w5) = 21 := by rw [ew]; exact m_nA_old hk8 hne2
  have hk12 : m_kd w75 (m_nx w9) = 21 := by rw [ew]; exact m_nA_old hk12 hne3
  have hk16 : m_kd w75 (m_nx w13) = 21 := by rw [ew]; exact m_nA_old hk16 hne4
  have hk20 : m_kd w75 (m_nx w17) = 21 := by rw [ew]; exact m_nA_old hk20 hne5
  have hk24 : m_kd w75 (m_nx w21) = 21 := by rw [ew]; exact m_nA_old hk24 hne6
  have hk28 : m_kd w75 (m_nx w25) = 21 := by rw [ew]; exact m_nA_old hk28 hne7
  have hk32 : m_kd w75 (m_nx w29) = 21 := by rw [ew]; exact m_nA_old hk32 hne8
  have hk36 : m_kd w75 (m_nx w33) = 21 := by rw [ew]; exact m_nA_old hk36 hne9
  have hk40 : m_kd w75 (m_nx w37) = 21 := by rw [ew]; exact m_nA_old hk40 hne10
  have hk44 : m_kd w75 (m_nx w41) = 21 := by rw [ew]; exact m_nA_old hk44 hne11
  have hk48 : m_kd w75 (m_nx w45) = 21 := by rw [ew]; exact m_nA_old hk48 hne12
  have hk52 : m_kd w75 (m_nx w49) = 21 := by rw [ew]; exact m_nA_old hk52 hne13
  have hk56 : m_kd w75 (m_nx w53) = 21 := by rw [ew]; exact m_nA_old hk56 hne14
  have hk60 : m_kd w75 (m_nx w57) = 21 := by rw [ew]; exact m_nA_old hk60 hne15
  have hk64 : m_kd w75 (m_nx w61) = 21 := by rw [ew]; exact m_nA_old hk64 hne16
  have hk68 : m_kd w75 (m_nx w65) = 22 := by rw [ew]; exact m_nA_old hk68 hne17
  have hk72 : m_kd w75 (m_nx w69) = 22 := by rw [ew]; exact m_nA_old hk72 hne18
  have hk76 : m_kd w75 (m_nx w73) = 21 := by rw [ew]; exact m_nA_new
  refine m_putR (C := RX7) (T := TX7) (N := 32) (own := RX7) (ref := RX7) hx hb hts hin10 tyX7 tyX7_ok nmX7 hown hM.1 hP hS 10 rfl 20 hk4 (by decide) (hts (.fieldLink RX7 65 "CellNotebookModel" "stamps" "[I") (by decide +kernel)) (fun _ h9 => h9) (Or.inr ⟨rfl, hin, rfl⟩) (ty := .array .int) (by decide +kernel) ⟨rfl, rfl⟩ dX7_init_160 (fun H locs hP hS => ?_)
  obtain ⟨w77, ew, hd⟩ := m_l_e hd
  have hP : mP G w77 H := by rw [ew]; exact hP
  have hk3 : m_kd w77 (m_nx w) = 21 := by rw [ew]; exact hk3
  have hk4 : m_kd w77 h = 11 := by rw [ew]; exact hk4
  have hk8 : m_kd w77 (m_nx w5) = 21 := by rw [ew]; exact hk8
  have hk12 : m_kd w77 (m_nx w9) = 21 := by rw [ew]; exact hk12
  have hk16 : m_kd w77 (m_nx w13) = 21 := by rw [ew]; exact hk16
  have hk20 : m_kd w77 (m_nx w17) = 21 := by rw [ew]; exact hk20
  have hk24 : m_kd w77 (m_nx w21) = 21 := by rw [ew]; exact hk24
  have hk28 : m_kd w77 (m_nx w25) = 21 := by rw [ew]; exact hk28
  have hk32 : m_kd w77 (m_nx w29) = 21 := by rw [ew]; exact hk32
  have hk36 : m_kd w77 (m_nx w33) = 21 := by rw [ew]; exact hk36
  have hk40 : m_kd w77 (m_nx w37) = 21 := by rw [ew]; exact hk40
  have hk44 : m_kd w77 (m_nx w41) = 21 := by rw [ew]; exact hk44
  have hk48 : m_kd w77 (m_nx w45) = 21 := by rw [ew]; exact hk48
  have hk52 : m_kd w77 (m_nx w49) = 21 := by rw [ew]; exact hk52
  have hk56 : m_kd w77 (m_nx w53) = 21 := by rw [ew]; exact hk56
  have hk60 : m_kd w77 (m_nx w57) = 21 := by rw [ew]; exact hk60
  have hk64 : m_kd w77 (m_nx w61) = 21 := by rw [ew]; exact hk64
  have hk68 : m_kd w77 (m_nx w65) = 22 := by rw [ew]; exact hk68
  have hk72 : m_kd w77 (m_nx w69) = 22 := by rw [ew]; exact hk72
  have hk76 : m_kd w77 (m_nx w73) = 21 := by rw [ew]; exact hk76
  refine lv_aload_n hx hb dX7_init_163 rfl (lv_at hl 0 rfl) ?_
  refine lv_bipush (v := 80) hx hb dX7_init_164 (by decide) ?_
  obtain ⟨hg78, hd⟩ := m_g_e hd
  have hne0 : m_nx w ≠ m_nx w77 := m_ne hP hk3 (by decide)
  have hne1 : h ≠ m_nx w77 := m_ne hP hk4 (by decide)
  have hne2 : m_nx w5 ≠ m_nx w77 := m_ne hP hk8 (by decide)
  have hne3 : m_nx w9 ≠ m_nx w77 := m_ne hP hk12 (by decide)
  have hne4 : m_nx w13 ≠ m_nx w77 := m_ne hP hk16 (by decide)
  have hne5 : m_nx w17 ≠ m_nx w77 := m_ne hP hk20 (by decide)
  have hne6 : m_nx w21 ≠ m_nx w77 := m_ne hP hk24 (by decide)
  have hne7 : m_nx w25 ≠ m_nx w77 := m_ne hP hk28 (by decide)
  have hne8 : m_nx w29 ≠ m_nx w77 := m_ne hP hk32 (by decide)
  have hne9 : m_nx w33 ≠ m_nx w77 := m_ne hP hk36 (by decide)
  have hne10 : m_nx w37 ≠ m_nx w77 := m_ne hP hk40 (by decide)
  have hne11 : m_nx w41 ≠ m_nx w77 := m_ne hP hk44 (by decide)
  have hne12 : m_nx w45 ≠ m_nx w77 := m_ne hP hk48 (by decide)
  have hne13 : m_nx w49 ≠ m_nx w77 := m_ne hP hk52 (by decide)
  have hne14 : m_nx w53 ≠ m_nx w77 := m_ne hP hk56 (by decide)
  have hne15 : m_nx w57 ≠ m_nx w77 := m_ne hP hk60 (by decide)
  have hne16 : m_nx w61 ≠ m_nx w77 := m_ne hP hk64 (by decide)
  have hne17 : m_nx w65 ≠ m_nx w77 := m_ne hP hk68 (by decide)
  have hne18 : m_nx w69 ≠ m_nx w77 := m_ne hP hk72 (by decide)
  have hne19 : m_nx w73 ≠ m_nx w77 := m_ne hP hk76 (by decide)
  refine m_newA (atype := .int) 21 hx hb (hts (.arrayClass .int) (by decide +kernel)) rfl hM.1 hP hS (t0 := 0) rfl m_naint hg78 (Nat.le_of_ble_eq_true rfl) (Nat.le_of_ble_eq_true rfl) dX7_init_166 (fun H hP hS => ?_)
  obtain ⟨w79, ew, hd⟩ := m_l_e hd
  have hP : mP G w79 H := by rw [ew]; exact hP
  have hk3 : m_kd w79 (m_nx w) = 21 := by rw [ew]; exact m_nA_old hk3 hne0
  have hk4 : m_kd w79 h = 11 := by rw [ew]; exact m_nA_old hk4 hne1
  have hk8 : m_kd w79 (m_nx w5) = 21 := by rw [ew]; exact m_nA_old hk8 hne2
  have hk12 : m_kd w79 (m_nx w9) = 21 := by rw [ew]; exact m_nA_old hk12 hne3
  have hk16 : m_kd w79 (m_nx w13) = 21 := by rw [ew]; exact m_nA_old hk16 hne4
  have hk20 : m_kd w79 (m_nx w17) = 21 := by rw [ew]; exact m_nA_old hk20 hne5
  have hk24 : m_kd w79 (m_nx w21) = 21 := by rw [ew]; exact m_nA_old hk24 hne6
  have hk28 : m_kd w79 (m_nx w25) = 21 := by rw [ew]; exact m_nA_old hk28 hne7
  have hk32 : m_kd w79 (m_nx w29) = 21 := by rw [ew]; exact m_nA_old hk32 hne8
  have hk36 : m_kd w79 (m_nx w33) = 21 := by rw [ew]; exact m_nA_old hk36 hne9
  have hk40 : m_kd w79 (m_nx w37) = 21 := by rw [ew]; exact m_nA_old hk40 hne10
  have hk44 : m_kd w79 (m_nx w41) = 21 := by rw [ew]; exact m_nA_old hk44 hne11
  have hk48 : m_kd w79 (m_nx w45) = 21 := by rw [ew]; exact m_nA_old hk48 hne12
  have hk52 : m_kd w79 (m_nx w49) = 21 := by rw [ew]; exact m_nA_old hk52 hne13
  have hk56 : m_kd w79 (m_nx w53) = 21 := by rw [ew]; exact m_nA_old hk56 hne14
  have hk60 : m_kd w79 (m_nx w57) = 21 := by rw [ew]; exact m_nA_old hk60 hne15
  have hk64 : m_kd w79 (m_nx w61) = 21 := by rw [ew]; exact m_nA_old hk64 hne16
  have hk68 : m_kd w79 (m_nx w65) = 22 := by rw [ew]; exact m_nA_old hk68 hne17
  have hk72 : m_kd w79 (m_nx w69) = 22 := by rw [ew]; exact m_nA_old hk72 hne18
  have hk76 : m_kd w79 (m_nx w73) = 21 := by rw [ew]; exact m_nA_old hk76 hne19
  have hk80 : m_kd w79 (m_nx w77) = 21 := by rw [ew]; exact m_nA_new
  refine m_putR (C := RX7) (T := TX7) (N := 32) (own := RX7) (ref := RX7) hx hb hts hin10 tyX7 tyX7_ok nmX7 hown hM.1 hP hS 10 rfl 22 hk4 (by decide) (hts (.fieldLink RX7 68 "CellNotebookModel" "keptValue" "[I") (by decide +kernel)) (fun _ h9 => h9) (Or.inr ⟨rfl, hin, rfl⟩) (ty := .array .int) (by decide +kernel) ⟨rfl, rfl⟩ dX7_init_168 (fun H locs hP hS => ?_)
  obtain ⟨w81, ew, hd⟩ := m_l_e hd
  have hP : mP G w81 H := by rw [ew]; exact hP
  have hk3 : m_kd w81 (m_nx w) = 21 := by rw [ew]; exact hk3
  have hk4 : m_kd w81 h = 11 := by rw [ew]; exact hk4
  have hk8 : m_kd w81 (m_nx w5) = 21 := by rw [ew]; exact hk8
  have hk12 : m_kd w81 (m_nx w9) = 21 := by rw [ew]; exact hk12
  have hk16 : m_kd w81 (m_nx w13) = 21 := by rw [ew]; exact hk16
  have hk20 : m_kd w81 (m_nx w17) = 21 := by rw [ew]; exact hk20
  have hk24 : m_kd w81 (m_nx w21) = 21 := by rw [ew]; exact hk24
  have hk28 : m_kd w81 (m_nx w25) = 21 := by rw [ew]; exact hk28
  have hk32 : m_kd w81 (m_nx w29) = 21 := by rw [ew]; exact hk32
  have hk36 : m_kd w81 (m_nx w33) = 21 := by rw [ew]; exact hk36
  have hk40 : m_kd w81 (m_nx w37) = 21 := by rw [ew]; exact hk40
  have hk44 : m_kd w81 (m_nx w41) = 21 := by rw [ew]; exact hk44
  have hk48 : m_kd w81 (m_nx w45) = 21 := by rw [ew]; exact hk48
  have hk52 : m_kd w81 (m_nx w49) = 21 := by rw [ew]; exact hk52
  have hk56 : m_kd w81 (m_nx w53) = 21 := by rw [ew]; exact hk56
  have hk60 : m_kd w81 (m_nx w57) = 21 := by rw [ew]; exact hk60
  have hk64 : m_kd w81 (m_nx w61) = 21 := by rw [ew]; exact hk64
  have hk68 : m_kd w81 (m_nx w65) = 22 := by rw [ew]; exact hk68
  have hk72 : m_kd w81 (m_nx w69) = 22 := by rw [ew]; exact hk72
  have hk76 : m_kd w81 (m_nx w73) = 21 := by rw [ew]; exact hk76
  have hk80 : m_kd w81 (m_nx w77) = 21 := by rw [ew]; exact hk80
  refine lv_aload_n hx hb dX7_init_171 rfl (lv_at hl 0 rfl) ?_
  refine lv_bipush (v := 80) hx hb dX7_init_172 (by decide) ?_
  obtain ⟨hg82, hd⟩ := m_g_e hd
  have hne0 : m_nx w ≠ m_nx w81 := m_ne hP hk3 (by decide)
  have hne1 : h ≠ m_nx w81 := m_ne hP hk4 (by decide)
  have hne2 : m_nx w5 ≠ m_nx w81 := m_ne hP hk8 (by decide)
  have hne3 : m_nx w9 ≠ m_nx w81 := m_ne hP hk12 (by decide)
  have hne4 : m_nx w13 ≠ m_nx w81 := m_ne hP hk16 (by decide)
  have hne5 : m_nx w17 ≠ m_nx w81 := m_ne hP hk20 (by decide)
  have hne6 : m_nx w21 ≠ m_nx w81 := m_ne hP hk24 (by decide)
  have hne7 : m_nx w25 ≠ m_nx w81 := m_ne hP hk28 (by decide)
  have hne8 : m_nx w29 ≠ m_nx w81 := m_ne hP hk32 (by decide)
  have hne9 : m_nx w33 ≠ m_nx w81 := m_ne hP hk36 (by decide)
  have hne10 : m_nx w37 ≠ m_nx w81 := m_ne hP hk40 (by decide)
  have hne11 : m_nx w41 ≠ m_nx w81 := m_ne hP hk44 (by decide)
  have hne12 : m_nx w45 ≠ m_nx w81 := m_ne hP hk48 (by decide)
  have hne13 : m_nx w49 ≠ m_nx w81 := m_ne hP hk52 (by decide)
  have hne14 : m_nx w53 ≠ m_nx w81 := m_ne hP hk56 (by decide)
  have hne15 : m_nx w57 ≠ m_nx w81 := m_ne hP hk60 (by decide)
  have hne16 : m_nx w61 ≠ m_nx w81 := m_ne hP hk64 (by decide)
  have hne17 : m_nx w65 ≠ m_nx w81 := m_ne hP hk68 (by decide)
  have hne18 : m_nx w69 ≠ m_nx w81 := m_ne hP hk72 (by decide)
  have hne19 : m_nx w73 ≠ m_nx w81 := m_ne hP hk76 (by decide)
  have hne20 : m_nx w77 ≠ m_nx w81 := m_ne hP hk80 (by decide)
  refine m_newA (atype := .int) 21 hx hb (hts (.arrayClass .int) (by decide +kernel)) rfl hM.1 hP hS (t0 := 0) rfl m_naint hg82 (Nat.le_of_ble_eq_true rfl) (Nat.le_of_ble_eq_true rfl) dX7_init_174 (fun H hP hS => ?_)
  obtain ⟨w83, ew, hd⟩ := m_l_e hd
  have hP : mP G w83 H := by rw [ew]; exact hP
  have hk3 : m_kd w83 (m_nx w) = 21 := by rw [ew]; exact m_nA_old hk3 hne0
  have hk4 : m_kd w83 h = 11 := by rw [ew]; exact m_nA_old hk4 hne1
  have hk8 : m_kd w83 (m_nx w5) = 21 := by rw [ew]; exact m_nA_old hk8 hne2
  have hk12 : m_kd w83 (m_nx w9) = 21 := by rw [ew]; exact m_nA_old hk12 hne3
  have hk16 : m_kd w83 (m_nx w13) = 21 := by rw [ew]; exact m_nA_old hk16 hne4
  have hk20 : m_kd w83 (m_nx w17) = 21 := by rw [ew]; exact m_nA_old hk20 hne5
  have hk24 : m_kd w83 (m_nx w21) = 21 := by rw [ew]; exact m_nA_old hk24 hne6
  have hk28 : m_kd w83 (m_nx w25) = 21 := by rw [ew]; exact m_nA_old hk28 hne7
  have hk32 : m_kd w83 (m_nx w29) = 21 := by rw [ew]; exact m_nA_old hk32 hne8
  have hk36 : m_kd w83 (m_nx w33) = 21 := by rw [ew]; exact m_nA_old hk36 hne9
  have hk40 : m_kd w83 (m_nx w37) = 21 := by rw [ew]; exact m_nA_old hk40 hne10
  have hk44 : m_kd w83 (m_nx w41) = 21 := by rw [ew]; exact m_nA_old hk44 hne11
  have hk48 : m_kd w83 (m_nx w45) = 21 := by rw [ew]; exact m_nA_old hk48 hne12
  have hk52 : m_kd w83 (m_nx w49) = 21 := by rw [ew]; exact m_nA_old hk52 hne13
  have hk56 : m_kd w83 (m_nx w53) = 21 := by rw [ew]; exact m_nA_old hk56 hne14
  have hk60 : m_kd w83 (m_nx w57) = 21 := by rw [ew]; exact m_nA_old hk60 hne15
  have hk64 : m_kd w83 (m_nx w61) = 21 := by rw [ew]; exact m_nA_old hk64 hne16
  have hk68 : m_kd w83 (m_nx w65) = 22 := by rw [ew]; exact m_nA_old hk68 hne17
  have hk72 : m_kd w83 (m_nx w69) = 22 := by rw [ew]; exact m_nA_old hk72 hne18
  have hk76 : m_kd w83 (m_nx w73) = 21 := by rw [ew]; exact m_nA_old hk76 hne19
  have hk80 : m_kd w83 (m_nx w77) = 21 := by rw [ew]; exact m_nA_old hk80 hne20
  have hk84 : m_kd w83 (m_nx w81) = 21 := by rw [ew]; exact m_nA_new
  refine m_putR (C := RX7) (T := TX7) (N := 32) (own := RX7) (ref := RX7) hx hb hts hin10 tyX7 tyX7_ok nmX7 hown hM.1 hP hS 10 rfl 23 hk4 (by decide) (hts (.fieldLink RX7 71 "CellNotebookModel" "keptStamp" "[I") (by decide +kernel)) (fun _ h9 => h9) (Or.inr ⟨rfl, hin, rfl⟩) (ty := .array .int) (by decide +kernel) ⟨rfl, rfl⟩ dX7_init_176 (fun H locs hP hS => ?_)
  obtain ⟨w85, ew, hd⟩ := m_l_e hd
  have hP : mP G w85 H := by rw [ew]; exact hP
  have hk3 : m_kd w85 (m_nx w) = 21 := by rw [ew]; exact hk3
  have hk4 : m_kd w85 h = 11 := by rw [ew]; exact hk4
  have hk8 : m_kd w85 (m_nx w5) = 21 := by rw [ew]; exact hk8
  have hk12 : m_kd w85 (m_nx w9) = 21 := by rw [ew]; exact hk12
  have hk16 : m_kd w85 (m_nx w13) = 21 := by rw [ew]; exact hk16
  have hk20 : m_kd w85 (m_nx w17) = 21 := by rw [ew]; exact hk20
  have hk24 : m_kd w85 (m_nx w21) = 21 := by rw [ew]; exact hk24
  have hk28 : m_kd w85 (m_nx w25) = 21 := by rw [ew]; exact hk28
  have hk32 : m_kd w85 (m_nx w29) = 21 := by rw [ew]; exact hk32
  have hk36 : m_kd w85 (m_nx w33) = 21 := by rw [ew]; exact hk36
  have hk40 : m_kd w85 (m_nx w37) = 21 := by rw [ew]; exact hk40
  have hk44 : m_kd w85 (m_nx w41) = 21 := by rw [ew]; exact hk44
  have hk48 : m_kd w85 (m_nx w45) = 21 := by rw [ew]; exact hk48
  have hk52 : m_kd w85 (m_nx w49) = 21 := by rw [ew]; exact hk52
  have hk56 : m_kd w85 (m_nx w53) = 21 := by rw [ew]; exact hk56
  have hk60 : m_kd w85 (m_nx w57) = 21 := by rw [ew]; exact hk60
  have hk64 : m_kd w85 (m_nx w61) = 21 := by rw [ew]; exact hk64
  have hk68 : m_kd w85 (m_nx w65) = 22 := by rw [ew]; exact hk68
  have hk72 : m_kd w85 (m_nx w69) = 22 := by rw [ew]; exact hk72
  have hk76 : m_kd w85 (m_nx w73) = 21 := by rw [ew]; exact hk76
  have hk80 : m_kd w85 (m_nx w77) = 21 := by rw [ew]; exact hk80
  have hk84 : m_kd w85 (m_nx w81) = 21 := by rw [ew]; exact hk84
  refine lv_aload_n hx hb dX7_init_179 rfl (lv_at hl 0 rfl) ?_
  refine lv_sipush (v := 160) hx hb dX7_init_180 (by decide) ?_
  obtain ⟨hg86, hd⟩ := m_g_e hd
  have hne0 : m_nx w ≠ m_nx w85 := m_ne hP hk3 (by decide)
  have hne1 : h ≠ m_nx w85 := m_ne hP hk4 (by decide)
  have hne2 : m_nx w5 ≠ m_nx w85 := m_ne hP hk8 (by decide)
  have hne3 : m_nx w9 ≠ m_nx w85 := m_ne hP hk12 (by decide)
  have hne4 : m_nx w13 ≠ m_nx w85 := m_ne hP hk16 (by decide)
  have hne5 : m_nx w17 ≠ m_nx w85 := m_ne hP hk20 (by decide)
  have hne6 : m_nx w21 ≠ m_nx w85 := m_ne hP hk24 (by decide)
  have hne7 : m_nx w25 ≠ m_nx w85 := m_ne hP hk28 (by decide)
  have hne8 : m_nx w29 ≠ m_nx w85 := m_ne hP hk32 (by decide)
  have hne9 : m_nx w33 ≠ m_nx w85 := m_ne hP hk36 (by decide)
  have hne10 : m_nx w37 ≠ m_nx w85 := m_ne hP hk40 (by decide)
  have hne11 : m_nx w41 ≠ m_nx w85 := m_ne hP hk44 (by decide)
  have hne12 : m_nx w45 ≠ m_nx w85 := m_ne hP hk48 (by decide)
  have hne13 : m_nx w49 ≠ m_nx w85 := m_ne hP hk52 (by decide)
  have hne14 : m_nx w53 ≠ m_nx w85 := m_ne hP hk56 (by decide)
  have hne15 : m_nx w57 ≠ m_nx w85 := m_ne hP hk60 (by decide)
  have hne16 : m_nx w61 ≠ m_nx w85 := m_ne hP hk64 (by decide)
  have hne17 : m_nx w65 ≠ m_nx w85 := m_ne hP hk68 (by decide)
  have hne18 : m_nx w69 ≠ m_nx w85 := m_ne hP hk72 (by decide)
  have hne19 : m_nx w73 ≠ m_nx w85 := m_ne hP hk76 (by decide)
  have hne20 : m_nx w77 ≠ m_nx w85 := m_ne hP hk80 (by decide)
  have hne21 : m_nx w81 ≠ m_nx w85 := m_ne hP hk84 (by decide)
  refine m_newA (atype := .int) 21 hx hb (hts (.arrayClass .int) (by decide +kernel)) rfl hM.1 hP hS (t0 := 0) rfl m_naint hg86 (Nat.le_of_ble_eq_true rfl) (Nat.le_of_ble_eq_true rfl) dX7_init_183 (fun H hP hS => ?_)
  obtain ⟨w87, ew, hd⟩ := m_l_e hd
  have hP : mP G w87 H := by rw [ew]; exact hP
  have hk3 : m_kd w87 (m_nx w) = 21 := by rw [ew]; exact m_nA_old hk3 hne0
  have hk4 : m_kd w87 h = 11 := by rw [ew]; exact m_nA_old hk4 hne1
  have hk8 : m_kd w87 (m_nx w5) = 21 := by rw [ew]; exact m_nA_old hk8 hne2
  have hk12 : m_kd w87 (m_nx w9) = 21 := by rw [ew]; exact m_nA_old hk12 hne3
  have hk16 : m_kd w87 (m_nx w13) = 21 := by rw [ew]; exact m_nA_old hk16 hne4
  have hk20 : m_kd w87 (m_nx w17) = 21 := by rw [ew]; exact m_nA_old hk20 hne5
  have hk24 : m_kd w87 (m_nx w21) = 21 := by rw [ew]; exact m_nA_old hk24 hne6
  have hk28 : m_kd w87 (m_nx w25) = 21 := by rw [ew]; exact m_nA_old hk28 hne7
  have hk32 : m_kd w87 (m_nx w29) = 21 := by rw [ew]; exact m_nA_old hk32 hne8
  have hk36 : m_kd w87 (m_nx w33) = 21 := by rw [ew]; exact m_nA_old hk36 hne9
  have hk40 : m_kd w87 (m_nx w37) = 21 := by rw [ew]; exact m_nA_old hk40 hne10
  have hk44 : m_kd w87 (m_nx w41) = 21 := by rw [ew]; exact m_nA_old hk44 hne11
  have hk48 : m_kd w87 (m_nx w45) = 21 := by rw [ew]; exact m_nA_old hk48 hne12
  have hk52 : m_kd w87 (m_nx w49) = 21 := by rw [ew]; exact m_nA_old hk52 hne13
  have hk56 : m_kd w87 (m_nx w53) = 21 := by rw [ew]; exact m_nA_old hk56 hne14
  have hk60 : m_kd w87 (m_nx w57) = 21 := by rw [ew]; exact m_nA_old hk60 hne15
  have hk64 : m_kd w87 (m_nx w61) = 21 := by rw [ew]; exact m_nA_old hk64 hne16
  have hk68 : m_kd w87 (m_nx w65) = 22 := by rw [ew]; exact m_nA_old hk68 hne17
  have hk72 : m_kd w87 (m_nx w69) = 22 := by rw [ew]; exact m_nA_old hk72 hne18
  have hk76 : m_kd w87 (m_nx w73) = 21 := by rw [ew]; exact m_nA_old hk76 hne19
  have hk80 : m_kd w87 (m_nx w77) = 21 := by rw [ew]; exact m_nA_old hk80 hne20
  have hk84 : m_kd w87 (m_nx w81) = 21 := by rw [ew]; exact m_nA_old hk84 hne21
  have hk88 : m_kd w87 (m_nx w85) = 21 := by rw [ew]; exact m_nA_new
  refine m_putR (C := RX7) (T := TX7) (N := 32) (own := RX7) (ref := RX7) hx hb hts hin10 tyX7 tyX7_ok nmX7 hown hM.1 hP hS 10 rfl 24 hk4 (by decide) (hts (.fieldLink RX7 74 "CellNotebookModel" "keptLast" "[I") (by decide +kernel)) (fun _ h9 => h9) (Or.inr ⟨rfl, hin, rfl⟩) (ty := .array .int) (by decide +kernel) ⟨rfl, rfl⟩ dX7_init_185 (fun H locs hP hS => ?_)
  obtain ⟨w89, ew, hd⟩ := m_l_e hd
  have hP : mP G w89 H := by rw [ew]; exact hP
  have hk3 : m_kd w89 (m_nx w) = 21 := by rw [ew]; exact hk3
  have hk4 : m_kd w89 h = 11 := by rw [ew]; exact hk4
  have hk8 : m_kd w89 (m_nx w5) = 21 := by rw [ew]; exact hk8
  have hk12 : m_kd w89 (m_nx w9) = 21 := by rw [ew]; exact hk12
  have hk16 : m_kd w89 (m_nx w13) = 21 := by rw [ew]; exact hk16
  have hk20 : m_kd w89 (m_nx w17) = 21 := by rw [ew]; exact hk20
  have hk24 : m_kd w89 (m_nx w21) = 21 := by rw [ew]; exact hk24
  have hk28 : m_kd w89 (m_nx w25) = 21 := by rw [ew]; exact hk28
  have hk32 : m_kd w89 (m_nx w29) = 21 := by rw [ew]; exact hk32
  have hk36 : m_kd w89 (m_nx w33) = 21 := by rw [ew]; exact hk36
  have hk40 : m_kd w89 (m_nx w37) = 21 := by rw [ew]; exact hk40
  have hk44 : m_kd w89 (m_nx w41) = 21 := by rw [ew]; exact hk44
  have hk48 : m_kd w89 (m_nx w45) = 21 := by rw [ew]; exact hk48
  have hk52 : m_kd w89 (m_nx w49) = 21 := by rw [ew]; exact hk52
  have hk56 : m_kd w89 (m_nx w53) = 21 := by rw [ew]; exact hk56
  have hk60 : m_kd w89 (m_nx w57) = 21 := by rw [ew]; exact hk60
  have hk64 : m_kd w89 (m_nx w61) = 21 := by rw [ew]; exact hk64
  have hk68 : m_kd w89 (m_nx w65) = 22 := by rw [ew]; exact hk68
  have hk72 : m_kd w89 (m_nx w69) = 22 := by rw [ew]; exact hk72
  have hk76 : m_kd w89 (m_nx w73) = 21 := by rw [ew]; exact hk76
  have hk80 : m_kd w89 (m_nx w77) = 21 := by rw [ew]; exact hk80
  have hk84 : m_kd w89 (m_nx w81) = 21 := by rw [ew]; exact hk84
  have hk88 : m_kd w89 (m_nx w85) = 21 := by rw [ew]; exact hk88
  refine lv_aload_n hx hb dX7_init_188 rfl (lv_at hl 0 rfl) ?_
  refine lv_bipush (v := 8) hx hb dX7_init_189 (by decide) ?_
  obtain ⟨hg90, hd⟩ := m_g_e hd
  have hne0 : m_nx w ≠ m_nx w89 := m_ne hP hk3 (by decide)
  have hne1 : h ≠ m_nx w89 := m_ne hP hk4 (by decide)
  have hne2 : m_nx w5 ≠ m_nx w89 := m_ne hP hk8 (by decide)
  have hne3 : m_nx w9 ≠ m_nx w89 := m_ne hP hk12 (by decide)
  have hne4 : m_nx w13 ≠ m_nx w89 := m_ne hP hk16 (by decide)
  have hne5 : m_nx w17 ≠ m_nx w89 := m_ne hP hk20 (by decide)
  have hne6 : m_nx w21 ≠ m_nx w89 := m_ne hP hk24 (by decide)
  have hne7 : m_nx w25 ≠ m_nx w89 := m_ne hP hk28 (by decide)
  have hne8 : m_nx w29 ≠ m_nx w89 := m_ne hP hk32 (by decide)
  have hne9 : m_nx w33 ≠ m_nx w89 := m_ne hP hk36 (by decide)
  have hne10 : m_nx w37 ≠ m_nx w89 := m_ne hP hk40 (by decide)
  have hne11 : m_nx w41 ≠ m_nx w89 := m_ne hP hk44 (by decide)
  have hne12 : m_nx w45 ≠ m_nx w89 := m_ne hP hk48 (by decide)
  have hne13 : m_nx w49 ≠ m_nx w89 := m_ne hP hk52 (by decide)
  have hne14 : m_nx w53 ≠ m_nx w89 := m_ne hP hk56 (by decide)
  have hne15 : m_nx w57 ≠ m_nx w89 := m_ne hP hk60 (by decide)
  have hne16 : m_nx w61 ≠ m_nx w89 := m_ne hP hk64 (by decide)
  have hne17 : m_nx w65 ≠ m_nx w89 := m_ne hP hk68 (by decide)
  have hne18 : m_nx w69 ≠ m_nx w89 := m_ne hP hk72 (by decide)
  have hne19 : m_nx w73 ≠ m_nx w89 := m_ne hP hk76 (by decide)
  have hne20 : m_nx w77 ≠ m_nx w89 := m_ne hP hk80 (by decide)
  have hne21 : m_nx w81 ≠ m_nx w89 := m_ne hP hk84 (by decide)
  have hne22 : m_nx w85 ≠ m_nx w89 := m_ne hP hk88 (by decide)
  refine m_newA (atype := .int) 21 hx hb (hts (.arrayClass .int) (by decide +kernel)) rfl hM.1 hP hS (t0 := 0) rfl m_naint hg90 (Nat.le_of_ble_eq_true rfl) (Nat.le_of_ble_eq_true rfl) dX7_init_191 (fun H hP hS => ?_)
  obtain ⟨w91, ew, hd⟩ := m_l_e hd
  have hP : mP G w91 H := by rw [ew]; exact hP
  have hk3 : m_kd w91 (m_nx w) = 21 := by rw [ew]; exact m_nA_old hk3 hne0
  have hk4 : m_kd w91 h = 11 := by rw [ew]; exact m_nA_old hk4 hne1
  have hk8 : m_kd w91 (m_nx w5) = 21 := by rw [ew]; exact m_nA_old hk8 hne2
  have hk12 : m_kd w91 (m_nx w9) = 21 := by rw [ew]; exact m_nA_old hk12 hne3
  have hk16 : m_kd w91 (m_nx w13) = 21 := by rw [ew]; exact m_nA_old hk16 hne4
  have hk20 : m_kd w91 (m_nx w17) = 21 := by rw [ew]; exact m_nA_old hk20 hne5
  have hk24 : m_kd w91 (m_nx w21) = 21 := by rw [ew]; exact m_nA_old hk24 hne6
  have hk28 : m_kd w91 (m_nx w25) = 21 := by rw [ew]; exact m_nA_old hk28 hne7
  have hk32 : m_kd w91 (m_nx w29) = 21 := by rw [ew]; exact m_nA_old hk32 hne8
  have hk36 : m_kd w91 (m_nx w33) = 21 := by rw [ew]; exact m_nA_old hk36 hne9
  have hk40 : m_kd w91 (m_nx w37) = 21 := by rw [ew]; exact m_nA_old hk40 hne10
  have hk44 : m_kd w91 (m_nx w41) = 21 := by rw [ew]; exact m_nA_old hk44 hne11
  have hk48 : m_kd w91 (m_nx w45) = 21 := by rw [ew]; exact m_nA_old hk48 hne12
  have hk52 : m_kd w91 (m_nx w49) = 21 := by rw [ew]; exact m_nA_old hk52 hne13
  have hk56 : m_kd w91 (m_nx w53) = 21 := by rw [ew]; exact m_nA_old hk56 hne14
  have hk60 : m_kd w91 (m_nx w57) = 21 := by rw [ew]; exact m_nA_old hk60 hne15
  have hk64 : m_kd w91 (m_nx w61) = 21 := by rw [ew]; exact m_nA_old hk64 hne16
  have hk68 : m_kd w91 (m_nx w65) = 22 := by rw [ew]; exact m_nA_old hk68 hne17
  have hk72 : m_kd w91 (m_nx w69) = 22 := by rw [ew]; exact m_nA_old hk72 hne18
  have hk76 : m_kd w91 (m_nx w73) = 21 := by rw [ew]; exact m_nA_old hk76 hne19
  have hk80 : m_kd w91 (m_nx w77) = 21 := by rw [ew]; exact m_nA_old hk80 hne20
  have hk84 : m_kd w91 (m_nx w81) = 21 := by rw [ew]; exact m_nA_old hk84 hne21
  have hk88 : m_kd w91 (m_nx w85) = 21 := by rw [ew]; exact m_nA_old hk88 hne22
  have hk92 : m_kd w91 (m_nx w89) = 21 := by rw [ew]; exact m_nA_new
  refine m_putR (C := RX7) (T := TX7) (N := 32) (own := RX7) (ref := RX7) hx hb hts hin10 tyX7 tyX7_ok nmX7 hown hM.1 hP hS 10 rfl 25 hk4 (by decide) (hts (.fieldLink RX7 77 "CellNotebookModel" "now" "[I") (by decide +kernel)) (fun _ h9 => h9) (Or.inr ⟨rfl, hin, rfl⟩) (ty := .array .int) (by decide +kernel) ⟨rfl, rfl⟩ dX7_init_193 (fun H locs hP hS => ?_)
  obtain ⟨w93, ew, hd⟩ := m_l_e hd
  have hP : mP G w93 H := by rw [ew]; exact hP
  have hk3 : m_kd w93 (m_nx w) = 21 := by rw [ew]; exact hk3
  have hk4 : m_kd w93 h = 11 := by rw [ew]; exact hk4
  have hk8 : m_kd w93 (m_nx w5) = 21 := by rw [ew]; exact hk8
  have hk12 : m_kd w93 (m_nx w9) = 21 := by rw [ew]; exact hk12
  have hk16 : m_kd w93 (m_nx w13) = 21 := by rw [ew]; exact hk16
  have hk20 : m_kd w93 (m_nx w17) = 21 := by rw [ew]; exact hk20
  have hk24 : m_kd w93 (m_nx w21) = 21 := by rw [ew]; exact hk24
  have hk28 : m_kd w93 (m_nx w25) = 21 := by rw [ew]; exact hk28
  have hk32 : m_kd w93 (m_nx w29) = 21 := by rw [ew]; exact hk32
  have hk36 : m_kd w93 (m_nx w33) = 21 := by rw [ew]; exact hk36
  have hk40 : m_kd w93 (m_nx w37) = 21 := by rw [ew]; exact hk40
  have hk44 : m_kd w93 (m_nx w41) = 21 := by rw [ew]; exact hk44
  have hk48 : m_kd w93 (m_nx w45) = 21 := by rw [ew]; exact hk48
  have hk52 : m_kd w93 (m_nx w49) = 21 := by rw [ew]; exact hk52
  have hk56 : m_kd w93 (m_nx w53) = 21 := by rw [ew]; exact hk56
  have hk60 : m_kd w93 (m_nx w57) = 21 := by rw [ew]; exact hk60
  have hk64 : m_kd w93 (m_nx w61) = 21 := by rw [ew]; exact hk64
  have hk68 : m_kd w93 (m_nx w65) = 22 := by rw [ew]; exact hk68
  have hk72 : m_kd w93 (m_nx w69) = 22 := by rw [ew]; exact hk72
  have hk76 : m_kd w93 (m_nx w73) = 21 := by rw [ew]; exact hk76
  have hk80 : m_kd w93 (m_nx w77) = 21 := by rw [ew]; exact hk80
  have hk84 : m_kd w93 (m_nx w81) = 21 := by rw [ew]; exact hk84
  have hk88 : m_kd w93 (m_nx w85) = 21 := by rw [ew]; exact hk88
  have hk92 : m_kd w93 (m_nx w89) = 21 := by rw [ew]; exact hk92
  refine lv_aload_n hx hb dX7_init_196 rfl (lv_at hl 0 rfl) ?_
  refine lv_bipush (v := 16) hx hb dX7_init_197 (by decide) ?_
  obtain ⟨hg94, hd⟩ := m_g_e hd
  have hne0 : m_nx w ≠ m_nx w93 := m_ne hP hk3 (by decide)
  have hne1 : h ≠ m_nx w93 := m_ne hP hk4 (by decide)
  have hne2 : m_nx w5 ≠ m_nx w93 := m_ne hP hk8 (by decide)
  have hne3 : m_nx w9 ≠ m_nx w93 := m_ne hP hk12 (by decide)
  have hne4 : m_nx w13 ≠ m_nx w93 := m_ne hP hk16 (by decide)
  have hne5 : m_nx w17 ≠ m_nx w93 := m_ne hP hk20 (by decide)
  have hne6 : m_nx w21 ≠ m_nx w93 := m_ne hP hk24 (by decide)
  have hne7 : m_nx w25 ≠ m_nx w93 := m_ne hP hk28 (by decide)
  have hne8 : m_nx w29 ≠ m_nx w93 := m_ne hP hk32 (by decide)
  have hne9 : m_nx w33 ≠ m_nx w93 := m_ne hP hk36 (by decide)
  have hne10 : m_nx w37 ≠ m_nx w93 := m_ne hP hk40 (by decide)
  have hne11 : m_nx w41 ≠ m_nx w93 := m_ne hP hk44 (by decide)
  have hne12 : m_nx w45 ≠ m_nx w93 := m_ne hP hk48 (by decide)
  have hne13 : m_nx w49 ≠ m_nx w93 := m_ne hP hk52 (by decide)
  have hne14 : m_nx w53 ≠ m_nx w93 := m_ne hP hk56 (by decide)
  have hne15 : m_nx w57 ≠ m_nx w93 := m_ne hP hk60 (by decide)
  have hne16 : m_nx w61 ≠ m_nx w93 := m_ne hP hk64 (by decide)
  have hne17 : m_nx w65 ≠ m_nx w93 := m_ne hP hk68 (by decide)
  have hne18 : m_nx w69 ≠ m_nx w93 := m_ne hP hk72 (by decide)
  have hne19 : m_nx w73 ≠ m_nx w93 := m_ne hP hk76 (by decide)
  have hne20 : m_nx w77 ≠ m_nx w93 := m_ne hP hk80 (by decide)
  have hne21 : m_nx w81 ≠ m_nx w93 := m_ne hP hk84 (by decide)
  have hne22 : m_nx w85 ≠ m_nx w93 := m_ne hP hk88 (by decide)
  have hne23 : m_nx w89 ≠ m_nx w93 := m_ne hP hk92 (by decide)
  refine m_newA (atype := .int) 21 hx hb (hts (.arrayClass .int) (by decide +kernel)) rfl hM.1 hP hS (t0 := 0) rfl m_naint hg94 (Nat.le_of_ble_eq_true rfl) (Nat.le_of_ble_eq_true rfl) dX7_init_199 (fun H hP hS => ?_)
  obtain ⟨w95, ew, hd⟩ := m_l_e hd
  have hP : mP G w95 H := by rw [ew]; exact hP
  have hk3 : m_kd w95 (m_nx w) = 21 := by rw [ew]; exact m_nA_old hk3 hne0
  have hk4 : m_kd w95 h = 11 := by rw [ew]; exact m_nA_old hk4 hne1
  have hk8 : m_kd w95 (m_nx w5) = 21 := by rw [ew]; exact m_nA_old hk8 hne2
  have hk12 : m_kd w95 (m_nx w9) = 21 := by rw [ew]; exact m_nA_old hk12 hne3
  have hk16 : m_kd w95 (m_nx w13) = 21 := by rw [ew]; exact m_nA_old hk16 hne4
  have hk20 : m_kd w95 (m_nx w17) = 21 := by rw [ew]; exact m_nA_old hk20 hne5
  have hk24 : m_kd w95 (m_nx w21) = 21 := by rw [ew]; exact m_nA_old hk24 hne6
  have hk28 : m_kd w95 (m_nx w25) = 21 := by rw [ew]; exact m_nA_old hk28 hne7
  have hk32 : m_kd w95 (m_nx w29) = 21 := by rw [ew]; exact m_nA_old hk32 hne8
  have hk36 : m_kd w95 (m_nx w33) = 21 := by rw [ew]; exact m_nA_old hk36 hne9
  have hk40 : m_kd w95 (m_nx w37) = 21 := by rw [ew]; exact m_nA_old hk40 hne10
  have hk44 : m_kd w95 (m_nx w41) = 21 := by rw [ew]; exact m_nA_old hk44 hne11
  have hk48 : m_kd w95 (m_nx w45) = 21 := by rw [ew]; exact m_nA_old hk48 hne12
  have hk52 : m_kd w95 (m_nx w49) = 21 := by rw [ew]; exact m_nA_old hk52 hne13
  have hk56 : m_kd w95 (m_nx w53) = 21 := by rw [ew]; exact m_nA_old hk56 hne14
  have hk60 : m_kd w95 (m_nx w57) = 21 := by rw [ew]; exact m_nA_old hk60 hne15
  have hk64 : m_kd w95 (m_nx w61) = 21 := by rw [ew]; exact m_nA_old hk64 hne16
  have hk68 : m_kd w95 (m_nx w65) = 22 := by rw [ew]; exact m_nA_old hk68 hne17
  have hk72 : m_kd w95 (m_nx w69) = 22 := by rw [ew]; exact m_nA_old hk72 hne18
  have hk76 : m_kd w95 (m_nx w73) = 21 := by rw [ew]; exact m_nA_old hk76 hne19
  have hk80 : m_kd w95 (m_nx w77) = 21 := by rw [ew]; exact m_nA_old hk80 hne20
  have hk84 : m_kd w95 (m_nx w81) = 21 := by rw [ew]; exact m_nA_old hk84 hne21
  have hk88 : m_kd w95 (m_nx w85) = 21 := by rw [ew]; exact m_nA_old hk88 hne22
  have hk92 : m_kd w95 (m_nx w89) = 21 := by rw [ew]; exact m_nA_old hk92 hne23
  have hk96 : m_kd w95 (m_nx w93) = 21 := by rw [ew]; exact m_nA_new
  refine m_putR (C := RX7) (T := TX7) (N := 32) (own := RX7) (ref := RX7) hx hb hts hin10 tyX7 tyX7_ok nmX7 hown hM.1 hP hS 10 rfl 30 hk4 (by decide) (hts (.fieldLink RX7 80 "CellNotebookModel" "reason" "[I") (by decide +kernel)) (fun _ h9 => h9) (Or.inr ⟨rfl, hin, rfl⟩) (ty := .array .int) (by decide +kernel) ⟨rfl, rfl⟩ dX7_init_201 (fun H locs hP hS => ?_)
  obtain ⟨w97, ew, hd⟩ := m_l_e hd
  have hP : mP G w97 H := by rw [ew]; exact hP
  have hk3 : m_kd w97 (m_nx w) = 21 := by rw [ew]; exact hk3
  have hk4 : m_kd w97 h = 11 := by rw [ew]; exact hk4
  have hk8 : m_kd w97 (m_nx w5) = 21 := by rw [ew]; exact hk8
  have hk12 : m_kd w97 (m_nx w9) = 21 := by rw [ew]; exact hk12
  have hk16 : m_kd w97 (m_nx w13) = 21 := by rw [ew]; exact hk16
  have hk20 : m_kd w97 (m_nx w17) = 21 := by rw [ew]; exact hk20
  have hk24 : m_kd w97 (m_nx w21) = 21 := by rw [ew]; exact hk24
  have hk28 : m_kd w97 (m_nx w25) = 21 := by rw [ew]; exact hk28
  have hk32 : m_kd w97 (m_nx w29) = 21 := by rw [ew]; exact hk32
  have hk36 : m_kd w97 (m_nx w33) = 21 := by rw [ew]; exact hk36
  have hk40 : m_kd w97 (m_nx w37) = 21 := by rw [ew]; exact hk40
  have hk44 : m_kd w97 (m_nx w41) = 21 := by rw [ew]; exact hk44
  have hk48 : m_kd w97 (m_nx w45) = 21 := by rw [ew]; exact hk48
  have hk52 : m_kd w97 (m_nx w49) = 21 := by rw [ew]; exact hk52
  have hk56 : m_kd w97 (m_nx w53) = 21 := by rw [ew]; exact hk56
  have hk60 : m_kd w97 (m_nx w57) = 21 := by rw [ew]; exact hk60
  have hk64 : m_kd w97 (m_nx w61) = 21 := by rw [ew]; exact hk64
  have hk68 : m_kd w97 (m_nx w65) = 22 := by rw [ew]; exact hk68
  have hk72 : m_kd w97 (m_nx w69) = 22 := by rw [ew]; exact hk72
  have hk76 : m_kd w97 (m_nx w73) = 21 := by rw [ew]; exact hk76
  have hk80 : m_kd w97 (m_nx w77) = 21 := by rw [ew]; exact hk80
  have hk84 : m_kd w97 (m_nx w81) = 21 := by rw [ew]; exact hk84
  have hk88 : m_kd w97 (m_nx w85) = 21 := by rw [ew]; exact hk88
  have hk92 : m_kd w97 (m_nx w89) = 21 := by rw [ew]; exact hk92
  have hk96 : m_kd w97 (m_nx w93) = 21 := by rw [ew]; exact hk96
  obtain ⟨e1, e2⟩ := m_s_e hd
  refine W.widen (k := 24) (n := 6510) (Nat.le_of_ble_eq_true rfl) (Nat.le_of_ble_eq_true rfl) ?_
  exact W.vret hx hb hr (fun t ht hW => ⟨⟨w97, rfl, e2, by show mP _ _ t.heap; rw [ht]; exact hP⟩, hS.F ht⟩) hS.2.2 dX7_init_204


noncomputable def f_X7_thrown (u : xS)  : Option (Int32 × xS) := some (u.1 31, u)
set_option maxHeartbeats 1000000 in
set_option maxRecDepth 100000 in
theorem c_X7_thrown (l : Launch) (G : m_G) (Z : xB) (hZ : x_ok Z) (u u' : xS)  (r : Int32) (hd : f_X7_thrown u = some (r, u')) : Met l yX7_thrown wsX7_thrown ({ frames := 0, cells := 0, slots := 0, locals := 0 } : Room) (m_Pc G (x_ov Z u) [.ref (Z.2.1)]) (m_Qi G r (x_ov Z u')) 0 0 (fun q => G.1 ≤ q) := by
  refine Met.ofW (cc := cX7_thrown) (maxL := 1) (ret := (some .int)) (by decide +kernel) rfl ?_
  intro p e s m args below meth c s₁ B hml hv
  obtain ⟨rfl, hM, hP⟩ := hv
  have hx := B.exec
  have hb := B.bytes
  have hr := B.returns
  have hts := atoms_spec (ws := wsX7_thrown) B.pre
  have hown : s.vm.findClass RX7 = some m.cls := findClass_of_methodNamed B.named
  have hlocks := B.notSynchronized
  have hin10 : ∀ w ∈ u_ws RX7 TX7 32, w ∈ wsX7_thrown := by decide +kernel
  have hS : va_S (fun q => G.1 ≤ q) s.heap s.heap [] := va_S.rf
  have hl := lv_entry ([.ref (Z.2.1)]) (n := 1) (Nat.le_of_ble_eq_true rfl)
  rw [lg_entry_eq]
  generalize (lg_sl ([.ref (Z.2.1)]) ++ List.replicate (1 - (lg_sl ([.ref (Z.2.1)])).length) Slot.unset).toArray = ls at hl ⊢
  have hl : lv_has ls 1 [(0, .ref (Z.2.1))] := hl
  refine lv_aload_n hx hb dX7_thrown_0 rfl (lv_at hl 0 rfl) ?_
  refine x_getI (own := RX7) (ref := RX7) hx hb hts hin10 hown hM.1 hZ hP 31 (by decide) (hts (.fieldLink RX7 83 "CellNotebookModel" "thrown" "I") (by decide +kernel)) (fun _ h9 => h9) dX7_thrown_1 ?_
  obtain ⟨e1, e2⟩ := m_s_e hd
  have e2 := congrArg (x_ov Z) e2
  refine W.widen (k := 0) (n := 0) (Nat.le_of_ble_eq_true rfl) (Nat.le_of_ble_eq_true rfl) ?_
  exact W.iret hx hb hr (fun t ht hW => ⟨⟨_, (x_ov Z u), rfl, ⟨e1, e2⟩, by show mP _ _ t.heap; rw [ht]; exact hP⟩, hS.F ht⟩) hS.2.2 dX7_thrown_4


noncomputable def f_X7_in_15 (u : xS) (s0 : Int32) : Option (Int32 × xS) := m_g (vp_nar .boolean s0 = s0) <| some (s0, u)
noncomputable def f_X7_in_14 (u : xS)  : Option (Int32 × xS) := f_X7_in_15 u 0
noncomputable def f_X7_in (u : xS) (p0 : Int32) (p1 : Int32) (p2 : Int32) : Option (Int32 × xS) := if p0 < p1 then (f_X7_in_14 u) else (if p2 < p0 then (f_X7_in_14 u) else (f_X7_in_15 u 1))
set_option maxHeartbeats 1000000 in
set_option maxRecDepth 100000 in
theorem c_X7_in (l : Launch) (G : m_G) (Z : xB) (hZ : x_ok Z) (u u' : xS) (p0 : Int32) (p1 : Int32) (p2 : Int32) (r : Int32) (hd : f_X7_in u p0 p1 p2 = some (r, u')) : Met l yX7_in wsX7_in ({ frames := 0, cells := 0, slots := 0, locals := 0 } : Room) (m_Pc G (x_ov Z u) [.int (p0), .int (p1), .int (p2)]) (m_Qi G r (x_ov Z u')) 0 0 (fun q => G.1 ≤ q) := by
  refine Met.ofW (cc := cX7_in) (maxL := 3) (ret := (some .boolean)) (by decide +kernel) rfl ?_
  intro p e s m args below meth c s₁ B hml hv
  obtain ⟨rfl, hM, hP⟩ := hv
  have hx := B.exec
  have hb := B.bytes
  have hr := B.returns
  have hts := atoms_spec (ws := wsX7_in) B.pre
  have hown : s.vm.findClass RX7 = some m.cls := findClass_of_methodNamed B.named
  have hlocks := B.notSynchronized
  have hS : va_S (fun q => G.1 ≤ q) s.heap s.heap [] := va_S.rf
  have J15 : ∀ (u : xS) (s0 : Int32) (H : Heap) (locs : List Loc) (ls : Array Slot), f_X7_in_15 u s0 = some (r, u') → mP G (x_ov Z u) H → va_S (fun q => G.1 ≤ q) s.heap H locs → lv_has ls 3 [] → W p l e ({ frames := 0, cells := 0, slots := 0, locals := 0 } : Room) s m ([.int (p0), .int (p1), .int (p2)] : List Value).toArray below meth c H locs 0 0 (MQ below (m_Qi G r (x_ov Z u')) ([.int (p0), .int (p1), .int (p2)] : List Value).toArray s 0 0 (fun q => G.1 ≤ q)) (F0 m 15 ls [.int (s0)]) := by
    intro u s0 H locs ls hd hP hS hl
    obtain ⟨hn203, hd⟩ := m_g_e hd
    obtain ⟨e1, e2⟩ := m_s_e hd
    have e2 := congrArg (x_ov Z) e2
    refine W.widen (k := 0) (n := 0) (Nat.le_of_ble_eq_true rfl) (Nat.le_of_ble_eq_true rfl) ?_
    exact W.zret hx hb hr (m_narZ hn203).1 (fun t ht hW => ⟨⟨_, (x_ov Z u), rfl, ⟨e1, e2⟩, by show mP _ _ t.heap; rw [ht]; exact hP⟩, hS.F ht⟩) hS.2.2 dX7_in_15
  have J14 : ∀ (u : xS) (H : Heap) (locs : List Loc) (ls : Array Slot), f_X7_in_14 u = some (r, u') → mP G (x_ov Z u) H → va_S (fun q => G.1 ≤ q) s.heap H locs → lv_has ls 3 [] → W p l e ({ frames := 0, cells := 0, slots := 0, locals := 0 } : Room) s m ([.int (p0), .int (p1), .int (p2)] : List Value).toArray below meth c H locs 0 0 (MQ below (m_Qi G r (x_ov Z u')) ([.int (p0), .int (p1), .int (p2)] : List Value).toArray s 0 0 (fun q => G.1 ≤ q)) (F0 m 14 ls []) := by
    intro u H locs ls hd hP hS hl
    refine lv_iconst (v := 0) hx hb dX7_in_14 (by decide) ?_
    refine W.widen (k := 0) (n := 0) (Nat.le_of_ble_eq_true rfl) (Nat.le_of_ble_eq_true rfl) ?_
    exact J15 u 0 _ _ _ hd hP hS (lv_sub hl [] rfl)
  have hl := lv_entry ([.int (p0), .int (p1), .int (p2)]) (n := 3) (Nat.le_of_ble_eq_true rfl)
  rw [lg_entry_eq]
  generalize (lg_sl ([.int (p0), .int (p1), .int (p2)]) ++ List.replicate (3 - (lg_sl ([.int (p0), .int (p1), .int (p2)])).length) Slot.unset).toArray = ls at hl ⊢
  have hl : lv_has ls 3 [(0, .int (p0)), (1, .int (p1)), (2, .int (p2))] := hl
  refine lv_iload_n hx hb dX7_in_0 rfl (lv_at hl 0 rfl) ?_
  refine lv_iload_n hx hb dX7_in_1 rfl (lv_at hl 1 rfl) ?_
  refine lv_icmp_lt (tgt := 14) hx hb dX7_in_2 (by decide) (fun c1 => ?_) (fun c1 => ?_)
  · have hd := m_i_t c1 hd
    refine W.widen (k := 0) (n := 0) (Nat.le_of_ble_eq_true rfl) (Nat.le_of_ble_eq_true rfl) ?_
    exact J14 u _ _ _ hd hP hS (lv_sub hl [] rfl)
  · have hd := m_i_f c1 hd
    refine lv_iload_n hx hb dX7_in_5 rfl (lv_at hl 0 rfl) ?_
    refine lv_iload_n hx hb dX7_in_6 rfl (lv_at hl 2 rfl) ?_
    refine lv_icmp_gt (tgt := 14) hx hb dX7_in_7 (by decide) (fun c2 => ?_) (fun c2 => ?_)
    · have hd := m_i_t c2 hd
      refine W.widen (k := 0) (n := 0) (Nat.le_of_ble_eq_true rfl) (Nat.le_of_ble_eq_true rfl) ?_
      exact J14 u _ _ _ hd hP hS (lv_sub hl [] rfl)
    · have hd := m_i_f c2 hd
      refine lv_iconst (v := 1) hx hb dX7_in_10 (by decide) ?_
      refine lv_goto (tgt := 15) hx hb dX7_in_11 (by decide) ?_
      refine W.widen (k := 0) (n := 0) (Nat.le_of_ble_eq_true rfl) (Nat.le_of_ble_eq_true rfl) ?_
      exact J15 u 1 _ _ _ hd hP hS (lv_sub hl [] rfl)


noncomputable def f_X7_goes_41 (u : xS) (s0 : Int32) : Option (Int32 × xS) := m_g (vp_nar .boolean s0 = s0) <| some (s0, u)
noncomputable def f_X7_goes_26 (u : xS) (s0 : Int32) : Option (Int32 × xS) := m_l (x_sI u 31 s0) fun u104 => if (u104.1 31) = (0 : Int32) then (f_X7_goes_41 u104 1) else (f_X7_goes_41 u104 0)
noncomputable def f_X7_goes (u : xS) (p0 : Int32) (p1 : Int32) (p2 : Int32) : Option (Int32 × xS) := if p0 = (0 : Int32) then (f_X7_goes_26 u 1) else (if p1 = (0 : Int32) then (f_X7_goes_26 u 2) else (if p2 = (0 : Int32) then (f_X7_goes_26 u 3) else (f_X7_goes_26 u 0)))
set_option maxHeartbeats 1000000 in
set_option maxRecDepth 100000 in
theorem c_X7_goes (l : Launch) (G : m_G) (Z : xB) (hZ : x_ok Z) (u u' : xS) (p0 : Int32) (p1 : Int32) (p2 : Int32) (r : Int32) (hd : f_X7_goes u p0 p1 p2 = some (r, u')) : Met l yX7_goes wsX7_goes ({ frames := 0, cells := 0, slots := 0, locals := 0 } : Room) (m_Pc G (x_ov Z u) [.ref (Z.2.1), .int (p0), .int (p1), .int (p2)]) (m_Qi G r (x_ov Z u')) 0 0 (fun q => G.1 ≤ q) := by
  refine Met.ofW (cc := cX7_goes) (maxL := 4) (ret := (some .boolean)) (by decide +kernel) rfl ?_
  intro p e s m args below meth c s₁ B hml hv
  obtain ⟨rfl, hM, hP⟩ := hv
  have hx := B.exec
  have hb := B.bytes
  have hr := B.returns
  have hts := atoms_spec (ws := wsX7_goes) B.pre
  have hown : s.vm.findClass RX7 = some m.cls := findClass_of_methodNamed B.named
  have hlocks := B.notSynchronized
  have hin10 : ∀ w ∈ u_ws RX7 TX7 32, w ∈ wsX7_goes := by decide +kernel
  have hS : va_S (fun q => G.1 ≤ q) s.heap s.heap [] := va_S.rf
  have J41 : ∀ (u : xS) (s0 : Int32) (H : Heap) (locs : List Loc) (ls : Array Slot), f_X7_goes_41 u s0 = some (r, u') → mP G (x_ov Z u) H → va_S (fun q => G.1 ≤ q) s.heap H locs → lv_has ls 4 [] → W p l e ({ frames := 0, cells := 0, slots := 0, locals := 0 } : Room) s m ([.ref (Z.2.1), .int (p0), .int (p1), .int (p2)] : List Value).toArray below meth c H locs 0 0 (MQ below (m_Qi G r (x_ov Z u')) ([.ref (Z.2.1), .int (p0), .int (p1), .int (p2)] : List Value).toArray s 0 0 (fun q => G.1 ≤ q)) (F0 m 41 ls [.int (s0)]) := by
    intro u s0 H locs ls hd hP hS hl
    obtain ⟨hn206, hd⟩ := m_g_e hd
    obtain ⟨e1, e2⟩ := m_s_e hd
    have e2 := congrArg (x_ov Z) e2
    refine W.widen (k := 0) (n := 0) (Nat.le_of_ble_eq_true rfl) (Nat.le_of_ble_eq_true rfl) ?_
    exact W.zret hx hb hr (m_narZ hn206).1 (fun t ht hW => ⟨⟨_, (x_ov Z u), rfl, ⟨e1, e2⟩, by show mP _ _ t.heap; rw [ht]; exact hP⟩, hS.F ht⟩) hS.2.2 dX7_goes_41
  have J26 : ∀ (u : xS) (s0 : Int32) (H : Heap) (locs : List Loc) (ls : Array Slot), f_X7_goes_26 u s0 = some (r, u') → mP G (x_ov Z u) H → va_S (fun q => G.1 ≤ q) s.heap H locs → lv_has ls 4 [(0, .ref (Z.2.1))] → W p l e ({ frames := 0, cells := 0, slots := 0, locals := 0 } : Room) s m ([.ref (Z.2.1), .int (p0), .int (p1), .int (p2)] : List Value).toArray below meth c H locs 0 0 (MQ below (m_Qi G r (x_ov Z u')) ([.ref (Z.2.1), .int (p0), .int (p1), .int (p2)] : List Value).toArray s 0 0 (fun q => G.1 ≤ q)) (F0 m 26 ls [.int (s0), .ref (Z.2.1)]) := by
    intro u s0 H locs ls hd hP hS hl
    refine x_putI (own := RX7) (ref := RX7) hx hb hts hin10 hown hM.1 hZ hP hS 31 (by decide) (hts (.fieldLink RX7 83 "CellNotebookModel" "thrown" "I") (by decide +kernel)) (fun _ h9 => h9) dX7_goes_26 (fun H locs hP hS => ?_)
    obtain ⟨u104, ew, hd⟩ := m_l_e hd
    have hP : mP G (x_ov Z u104) H := by rw [ew]; exact hP
    refine lv_aload_n hx hb dX7_goes_29 rfl (lv_at hl 0 rfl) ?_
    refine x_getI (own := RX7) (ref := RX7) hx hb hts hin10 hown hM.1 hZ hP 31 (by decide) (hts (.fieldLink RX7 83 "CellNotebookModel" "thrown" "I") (by decide +kernel)) (fun _ h9 => h9) dX7_goes_30 ?_
    refine lv_if_ne (tgt := 40) hx hb dX7_goes_33 (by decide) (fun c105 => ?_) (fun c105 => ?_)
    · have hd := m_i_f c105 hd
      refine lv_iconst (v := 0) hx hb dX7_goes_40 (by decide) ?_
      refine W.widen (k := 0) (n := 0) (Nat.le_of_ble_eq_true rfl) (Nat.le_of_ble_eq_true rfl) ?_
      exact J41 u104 0 _ _ _ hd hP hS (lv_sub hl [] rfl)
    · have hd := m_i_t c105 hd
      refine lv_iconst (v := 1) hx hb dX7_goes_36 (by decide) ?_
      refine lv_goto (tgt := 41) hx hb dX7_goes_37 (by decide) ?_
      refine W.widen (k := 0) (n := 0) (Nat.le_of_ble_eq_true rfl) (Nat.le_of_ble_eq_true rfl) ?_
      exact J41 u104 1 _ _ _ hd hP hS (lv_sub hl [] rfl)
  have hl := lv_entry ([.ref (Z.2.1), .int (p0), .int (p1), .int (p2)]) (n := 4) (Nat.le_of_ble_eq_true rfl)
  rw [lg_entry_eq]
  generalize (lg_sl ([.ref (Z.2.1), .int (p0), .int (p1), .int (p2)]) ++ List.replicate (4 - (lg_sl ([.ref (Z.2.1), .int (p0), .int (p1), .int (p2)])).length) Slot.unset).toArray = ls at hl ⊢
  have hl : lv_has ls 4 [(0, .ref (Z.2.1)), (1, .int (p0)), (2, .int (p1)), (3, .int (p2))] := hl
  refine lv_aload_n hx hb dX7_goes_0 rfl (lv_at hl 0 rfl) ?_
  refine lv_iload_n hx hb dX7_goes_1 rfl (lv_at hl 1 rfl) ?_
  refine lv_if_ne (tgt := 9) hx hb dX7_goes_2 (by decide) (fun c1 => ?_) (fun c1 => ?_)
  · have hd := m_i_f c1 hd
    refine lv_iload_n hx hb dX7_goes_9 rfl (lv_at hl 2 rfl) ?_
    refine lv_if_ne (tgt := 17) hx hb dX7_goes_10 (by decide) (fun c2 => ?_) (fun c2 => ?_)
    · have hd := m_i_f c2 hd
      refine lv_iload_n hx hb dX7_goes_17 rfl (lv_at hl 3 rfl) ?_
      refine lv_if_ne (tgt := 25) hx hb dX7_goes_18 (by decide) (fun c3 => ?_) (fun c3 => ?_)
      · have hd := m_i_f c3 hd
        refine lv_iconst (v := 0) hx hb dX7_goes_25 (by decide) ?_
        refine W.widen (k := 0) (n := 0) (Nat.le_of_ble_eq_true rfl) (Nat.le_of_ble_eq_true rfl) ?_
        exact J26 u 0 _ _ _ hd hP hS (lv_sub hl [0] rfl)
      · have hd := m_i_t c3 hd
        refine lv_iconst (v := 3) hx hb dX7_goes_21 (by decide) ?_
        refine lv_goto (tgt := 26) hx hb dX7_goes_22 (by decide) ?_
        refine W.widen (k := 0) (n := 0) (Nat.le_of_ble_eq_true rfl) (Nat.le_of_ble_eq_true rfl) ?_
        exact J26 u 3 _ _ _ hd hP hS (lv_sub hl [0] rfl)
    · have hd := m_i_t c2 hd
      refine lv_iconst (v := 2) hx hb dX7_goes_13 (by decide) ?_
      refine lv_goto (tgt := 26) hx hb dX7_goes_14 (by decide) ?_
      refine W.widen (k := 0) (n := 0) (Nat.le_of_ble_eq_true rfl) (Nat.le_of_ble_eq_true rfl) ?_
      exact J26 u 2 _ _ _ hd hP hS (lv_sub hl [0] rfl)
  · have hd := m_i_t c1 hd
    refine lv_iconst (v := 1) hx hb dX7_goes_5 (by decide) ?_
    refine lv_goto (tgt := 26) hx hb dX7_goes_6 (by decide) ?_
    refine W.widen (k := 0) (n := 0) (Nat.le_of_ble_eq_true rfl) (Nat.le_of_ble_eq_true rfl) ?_
    exact J26 u 1 _ _ _ hd hP hS (lv_sub hl [0] rfl)


noncomputable def f_X7_told (u : xS) (p0 : Int32) : Option (Int32 × xS) := m_l (x_sI u 31 0) fun u1 => some (p0, u1)
set_option maxHeartbeats 1000000 in
set_option maxRecDepth 100000 in
theorem c_X7_told (l : Launch) (G : m_G) (Z : xB) (hZ : x_ok Z) (u u' : xS) (p0 : Int32) (r : Int32) (hd : f_X7_told u p0 = some (r, u')) : Met l yX7_told wsX7_told ({ frames := 0, cells := 0, slots := 0, locals := 0 } : Room) (m_Pc G (x_ov Z u) [.ref (Z.2.1), .int (p0)]) (m_Qi G r (x_ov Z u')) 0 0 (fun q => G.1 ≤ q) := by
  refine Met.ofW (cc := cX7_told) (maxL := 2) (ret := (some .int)) (by decide +kernel) rfl ?_
  intro p e s m args below meth c s₁ B hml hv
  obtain ⟨rfl, hM, hP⟩ := hv
  have hx := B.exec
  have hb := B.bytes
  have hr := B.returns
  have hts := atoms_spec (ws := wsX7_told) B.pre
  have hown : s.vm.findClass RX7 = some m.cls := findClass_of_methodNamed B.named
  have hlocks := B.notSynchronized
  have hin10 : ∀ w ∈ u_ws RX7 TX7 32, w ∈ wsX7_told := by decide +kernel
  have hS : va_S (fun q => G.1 ≤ q) s.heap s.heap [] := va_S.rf
  have hl := lv_entry ([.ref (Z.2.1), .int (p0)]) (n := 2) (Nat.le_of_ble_eq_true rfl)
  rw [lg_entry_eq]
  generalize (lg_sl ([.ref (Z.2.1), .int (p0)]) ++ List.replicate (2 - (lg_sl ([.ref (Z.2.1), .int (p0)])).length) Slot.unset).toArray = ls at hl ⊢
  have hl : lv_has ls 2 [(0, .ref (Z.2.1)), (1, .int (p0))] := hl
  refine lv_aload_n hx hb dX7_told_0 rfl (lv_at hl 0 rfl) ?_
  refine lv_iconst (v := 0) hx hb dX7_told_1 (by decide) ?_
  refine x_putI (own := RX7) (ref := RX7) hx hb hts hin10 hown hM.1 hZ hP hS 31 (by decide) (hts (.fieldLink RX7 83 "CellNotebookModel" "thrown" "I") (by decide +kernel)) (fun _ h9 => h9) dX7_told_2 (fun H locs hP hS => ?_)
  obtain ⟨u1, ew, hd⟩ := m_l_e hd
  have hP : mP G (x_ov Z u1) H := by rw [ew]; exact hP
  refine lv_iload_n hx hb dX7_told_5 rfl (lv_at hl 1 rfl) ?_
  obtain ⟨e1, e2⟩ := m_s_e hd
  have e2 := congrArg (x_ov Z) e2
  refine W.widen (k := 0) (n := 0) (Nat.le_of_ble_eq_true rfl) (Nat.le_of_ble_eq_true rfl) ?_
  exact W.iret hx hb hr (fun t ht hW => ⟨⟨_, (x_ov Z u1), rfl, ⟨e1, e2⟩, by show mP _ _ t.heap; rw [ht]; exact hP⟩, hS.F ht⟩) hS.2.2 dX7_told_6


noncomputable def f_X7_isCell (u : xS) (p0 : Int32) : Option (Int32 × xS) := m_b (f_X7_in u p0 0 ((u.1 0) - 1)) fun r1 u2 => m_g (vp_nar .boolean r1 = r1) <| some (r1, u2)
set_option maxHeartbeats 1000000 in
set_option maxRecDepth 100000 in
theorem c_X7_isCell (l : Launch) (G : m_G) (Z : xB) (hZ : x_ok Z) (u u' : xS) (p0 : Int32) (r : Int32) (hd : f_X7_isCell u p0 = some (r, u')) : Met l yX7_isCell wsX7_isCell ({ frames := 1, cells := 0, slots := 0, locals := 22 } : Room) (m_Pc G (x_ov Z u) [.ref (Z.2.1), .int (p0)]) (m_Qi G r (x_ov Z u')) 0 0 (fun q => G.1 ≤ q) := by
  refine Met.ofW (cc := cX7_isCell) (maxL := 2) (ret := (some .boolean)) (by decide +kernel) rfl ?_
  intro p e s m args below meth c s₁ B hml hv
  obtain ⟨rfl, hM, hP⟩ := hv
  have hx := B.exec
  have hb := B.bytes
  have hr := B.returns
  have hts := atoms_spec (ws := wsX7_isCell) B.pre
  have hown : s.vm.findClass RX7 = some m.cls := findClass_of_methodNamed B.named
  have hlocks := B.notSynchronized
  have hin10 : ∀ w ∈ u_ws RX7 TX7 32, w ∈ wsX7_isCell := by decide +kernel
  have hS : va_S (fun q => G.1 ≤ q) s.heap s.heap [] := va_S.rf
  have hl := lv_entry ([.ref (Z.2.1), .int (p0)]) (n := 2) (Nat.le_of_ble_eq_true rfl)
  rw [lg_entry_eq]
  generalize (lg_sl ([.ref (Z.2.1), .int (p0)]) ++ List.replicate (2 - (lg_sl ([.ref (Z.2.1), .int (p0)])).length) Slot.unset).toArray = ls at hl ⊢
  have hl : lv_has ls 2 [(0, .ref (Z.2.1)), (1, .int (p0))] := hl
  refine lv_iload_n hx hb dX7_isCell_0 rfl (lv_at hl 1 rfl) ?_
  refine lv_iconst (v := 0) hx hb dX7_isCell_1 (by decide) ?_
  refine lv_aload_n hx hb dX7_isCell_2 rfl (lv_at hl 0 rfl) ?_
  refine x_getI (own := RX7) (ref := RX7) hx hb hts hin10 hown hM.1 hZ hP 0 (by decide) (hts (.fieldLink RX7 87 "CellNotebookModel" "cells" "I") (by decide +kernel)) (fun _ h9 => h9) dX7_isCell_3 ?_
  refine lv_iconst (v := 1) hx hb dX7_isCell_6 (by decide) ?_
  refine lv_isub hx hb dX7_isCell_7 ?_
  obtain ⟨r1, u2, hc3, hd⟩ := m_b_e hd
  refine m_calli (k := 0) (n := 0) (va_runS (As := [.int (p0), .int (0), .int ((u.1 0) - 1)]) (rest := []) ⟨hx, hb, hml, hown, hts⟩ (c_X7_in l G Z hZ u u2 p0 0 ((u.1 0) - 1) r1 hc3) (va_cwS 3 hts gX7_isCell_X7_in rfl rfl rfl (by decide +kernel) ⟨(Nat.le_of_ble_eq_true rfl), (Nat.le_of_ble_eq_true rfl)⟩) (m_preS hM hP hS) rfl rfl hl.1 rfl (lv_room (Nat.le_of_ble_eq_true rfl)) dX7_isCell_8 ⟨(Nat.le_of_ble_eq_true rfl), (Nat.le_of_ble_eq_true rfl)⟩) hS ⟨(Nat.le_of_ble_eq_true rfl), (Nat.le_of_ble_eq_true rfl)⟩ (fun H locs hP hS => ?_)
  obtain ⟨hn4, hd⟩ := m_g_e hd
  obtain ⟨e1, e2⟩ := m_s_e hd
  have e2 := congrArg (x_ov Z) e2
  refine W.widen (k := 0) (n := 0) (Nat.le_of_ble_eq_true rfl) (Nat.le_of_ble_eq_true rfl) ?_
  exact W.zret hx hb hr (m_narZ hn4).1 (fun t ht hW => ⟨⟨_, (x_ov Z u2), rfl, ⟨e1, e2⟩, by show mP _ _ t.heap; rw [ht]; exact hP⟩, hS.F ht⟩) hS.2.2 dX7_isCell_11


noncomputable def f_X7_isName (u : xS) (p0 : Int32) : Option (Int32 × xS) := m_b (f_X7_in u p0 0 7) fun r1 u2 => m_g (vp_nar .boolean r1 = r1) <| some (r1, u2)
set_option maxHeartbeats 1000000 in
set_option maxRecDepth 100000 in
theorem c_X7_isName (l : Launch) (G : m_G) (Z : xB) (hZ : x_ok Z) (u u' : xS) (p0 : Int32) (r : Int32) (hd : f_X7_isName u p0 = some (r, u')) : Met l yX7_isName wsX7_isName ({ frames := 1, cells := 0, slots := 0, locals := 22 } : Room) (m_Pc G (x_ov Z u) [.int (p0)]) (m_Qi G r (x_ov Z u')) 0 0 (fun q => G.1 ≤ q) := by
  refine Met.ofW (cc := cX7_isName) (maxL := 1) (ret := (some .boolean)) (by decide +kernel) rfl ?_
  intro p e s m args below meth c s₁ B hml hv
  obtain ⟨rfl, hM, hP⟩ := hv
  have hx := B.exec
  have hb := B.bytes
  have hr := B.returns
  have hts := atoms_spec (ws := wsX7_isName) B.pre
  have hown : s.vm.findClass RX7 = some m.cls := findClass_of_methodNamed B.named
  have hlocks := B.notSynchronized
  have hS : va_S (fun q => G.1 ≤ q) s.heap s.heap [] := va_S.rf
  have hl := lv_entry ([.int (p0)]) (n := 1) (Nat.le_of_ble_eq_true rfl)
  rw [lg_entry_eq]
  generalize (lg_sl ([.int (p0)]) ++ List.replicate (1 - (lg_sl ([.int (p0)])).length) Slot.unset).toArray = ls at hl ⊢
  have hl : lv_has ls 1 [(0, .int (p0))] := hl
  refine lv_iload_n hx hb dX7_isName_0 rfl (lv_at hl 0 rfl) ?_
  refine lv_iconst (v := 0) hx hb dX7_isName_1 (by decide) ?_
  refine lv_bipush (v := 7) hx hb dX7_isName_2 (by decide) ?_
  obtain ⟨r1, u2, hc3, hd⟩ := m_b_e hd
  refine m_calli (k := 0) (n := 0) (va_runS (As := [.int (p0), .int (0), .int (7)]) (rest := []) ⟨hx, hb, hml, hown, hts⟩ (c_X7_in l G Z hZ u u2 p0 0 7 r1 hc3) (va_cwS 3 hts gX7_isName_X7_in rfl rfl rfl (by decide +kernel) ⟨(Nat.le_of_ble_eq_true rfl), (Nat.le_of_ble_eq_true rfl)⟩) (m_preS hM hP hS) rfl rfl hl.1 rfl (lv_room (Nat.le_of_ble_eq_true rfl)) dX7_isName_4 ⟨(Nat.le_of_ble_eq_true rfl), (Nat.le_of_ble_eq_true rfl)⟩) hS ⟨(Nat.le_of_ble_eq_true rfl), (Nat.le_of_ble_eq_true rfl)⟩ (fun H locs hP hS => ?_)
  obtain ⟨hn4, hd⟩ := m_g_e hd
  obtain ⟨e1, e2⟩ := m_s_e hd
  have e2 := congrArg (x_ov Z) e2
  refine W.widen (k := 0) (n := 0) (Nat.le_of_ble_eq_true rfl) (Nat.le_of_ble_eq_true rfl) ?_
  exact W.zret hx hb hr (m_narZ hn4).1 (fun t ht hW => ⟨⟨_, (x_ov Z u2), rfl, ⟨e1, e2⟩, by show mP _ _ t.heap; rw [ht]; exact hP⟩, hS.F ht⟩) hS.2.2 dX7_isName_7


noncomputable def f_X7_isUser (u : xS) (p0 : Int32) : Option (Int32 × xS) := m_b (f_X7_in u p0 0 4) fun r1 u2 => m_g (vp_nar .boolean r1 = r1) <| some (r1, u2)
set_option maxHeartbeats 1000000 in
set_option maxRecDepth 100000 in
theorem c_X7_isUser (l : Launch) (G : m_G) (Z : xB) (hZ : x_ok Z) (u u' : xS) (p0 : Int32) (r : Int32) (hd : f_X7_isUser u p0 = some (r, u')) : Met l yX7_isUser wsX7_isUser ({ frames := 1, cells := 0, slots := 0, locals := 22 } : Room) (m_Pc G (x_ov Z u) [.int (p0)]) (m_Qi G r (x_ov Z u')) 0 0 (fun q => G.1 ≤ q) := by
  refine Met.ofW (cc := cX7_isUser) (maxL := 1) (ret := (some .boolean)) (by decide +kernel) rfl ?_
  intro p e s m args below meth c s₁ B hml hv
  obtain ⟨rfl, hM, hP⟩ := hv
  have hx := B.exec
  have hb := B.bytes
  have hr := B.returns
  have hts := atoms_spec (ws := wsX7_isUser) B.pre
  have hown : s.vm.findClass RX7 = some m.cls := findClass_of_methodNamed B.named
  have hlocks := B.notSynchronized
  have hS : va_S (fun q => G.1 ≤ q) s.heap s.heap [] := va_S.rf
  have hl := lv_entry ([.int (p0)]) (n := 1) (Nat.le_of_ble_eq_true rfl)
  rw [lg_entry_eq]
  generalize (lg_sl ([.int (p0)]) ++ List.replicate (1 - (lg_sl ([.int (p0)])).length) Slot.unset).toArray = ls at hl ⊢
  have hl : lv_has ls 1 [(0, .int (p0))] := hl
  refine lv_iload_n hx hb dX7_isUser_0 rfl (lv_at hl 0 rfl) ?_
  refine lv_iconst (v := 0) hx hb dX7_isUser_1 (by decide) ?_
  refine lv_iconst (v := 4) hx hb dX7_isUser_2 (by decide) ?_
  obtain ⟨r1, u2, hc3, hd⟩ := m_b_e hd
  refine m_calli (k := 0) (n := 0) (va_runS (As := [.int (p0), .int (0), .int (4)]) (rest := []) ⟨hx, hb, hml, hown, hts⟩ (c_X7_in l G Z hZ u u2 p0 0 4 r1 hc3) (va_cwS 3 hts gX7_isUser_X7_in rfl rfl rfl (by decide +kernel) ⟨(Nat.le_of_ble_eq_true rfl), (Nat.le_of_ble_eq_true rfl)⟩) (m_preS hM hP hS) rfl rfl hl.1 rfl (lv_room (Nat.le_of_ble_eq_true rfl)) dX7_isUser_3 ⟨(Nat.le_of_ble_eq_true rfl), (Nat.le_of_ble_eq_true rfl)⟩) hS ⟨(Nat.le_of_ble_eq_true rfl), (Nat.le_of_ble_eq_true rfl)⟩ (fun H locs hP hS => ?_)
  obtain ⟨hn4, hd⟩ := m_g_e hd
  obtain ⟨e1, e2⟩ := m_s_e hd
  have e2 := congrArg (x_ov Z) e2
  refine W.widen (k := 0) (n := 0) (Nat.le_of_ble_eq_true rfl) (Nat.le_of_ble_eq_true rfl) ?_
  exact W.zret hx hb hr (m_narZ hn4).1 (fun t ht hW => ⟨⟨_, (x_ov Z u2), rfl, ⟨e1, e2⟩, by show mP _ _ t.heap; rw [ht]; exact hP⟩, hS.F ht⟩) hS.2.2 dX7_isUser_6


noncomputable def f_X7_isOperand_24 (u : xS) (s0 : Int32) : Option (Int32 × xS) := m_g (vp_nar .boolean s0 = s0) <| some (s0, u)
noncomputable def f_X7_isOperand_19 (u : xS)  : Option (Int32 × xS) := f_X7_isOperand_24 u 1
noncomputable def f_X7_isOperand (u : xS) (p0 : Int32) : Option (Int32 × xS) := m_b (f_X7_isName u p0) fun r1 u2 => if r1 = (0 : Int32) then (m_b (f_X7_in u2 p0 100 1100) fun r5 u6 => if r5 = (0 : Int32) then (f_X7_isOperand_24 u6 0) else (f_X7_isOperand_19 u6)) else (f_X7_isOperand_19 u2)
set_option maxHeartbeats 1000000 in
set_option maxRecDepth 100000 in
theorem c_X7_isOperand (l : Launch) (G : m_G) (Z : xB) (hZ : x_ok Z) (u u' : xS) (p0 : Int32) (r : Int32) (hd : f_X7_isOperand u p0 = some (r, u')) : Met l yX7_isOperand wsX7_isOperand ({ frames := 2, cells := 0, slots := 0, locals := 42 } : Room) (m_Pc G (x_ov Z u) [.int (p0)]) (m_Qi G r (x_ov Z u')) 0 0 (fun q => G.1 ≤ q) := by
  refine Met.ofW (cc := cX7_isOperand) (maxL := 1) (ret := (some .boolean)) (by decide +kernel) rfl ?_
  intro p e s m args below meth c s₁ B hml hv
  obtain ⟨rfl, hM, hP⟩ := hv
  have hx := B.exec
  have hb := B.bytes
  have hr := B.returns
  have hts := atoms_spec (ws := wsX7_isOperand) B.pre
  have hown : s.vm.findClass RX7 = some m.cls := findClass_of_methodNamed B.named
  have hlocks := B.notSynchronized
  have hS : va_S (fun q => G.1 ≤ q) s.heap s.heap [] := va_S.rf
  have J24 : ∀ (u : xS) (s0 : Int32) (H : Heap) (locs : List Loc) (ls : Array Slot), f_X7_isOperand_24 u s0 = some (r, u') → mP G (x_ov Z u) H → va_S (fun q => G.1 ≤ q) s.heap H locs → lv_has ls 1 [] → W p l e ({ frames := 2, cells := 0, slots := 0, locals := 42 } : Room) s m ([.int (p0)] : List Value).toArray below meth c H locs 0 0 (MQ below (m_Qi G r (x_ov Z u')) ([.int (p0)] : List Value).toArray s 0 0 (fun q => G.1 ≤ q)) (F0 m 24 ls [.int (s0)]) := by
    intro u s0 H locs ls hd hP hS hl
    obtain ⟨hn209, hd⟩ := m_g_e hd
    obtain ⟨e1, e2⟩ := m_s_e hd
    have e2 := congrArg (x_ov Z) e2
    refine W.widen (k := 0) (n := 0) (Nat.le_of_ble_eq_true rfl) (Nat.le_of_ble_eq_true rfl) ?_
    exact W.zret hx hb hr (m_narZ hn209).1 (fun t ht hW => ⟨⟨_, (x_ov Z u), rfl, ⟨e1, e2⟩, by show mP _ _ t.heap; rw [ht]; exact hP⟩, hS.F ht⟩) hS.2.2 dX7_isOperand_24
  have J19 : ∀ (u : xS) (H : Heap) (locs : List Loc) (ls : Array Slot), f_X7_isOperand_19 u = some (r, u') → mP G (x_ov Z u) H → va_S (fun q => G.1 ≤ q) s.heap H locs → lv_has ls 1 [] → W p l e ({ frames := 2, cells := 0, slots := 0, locals := 42 } : Room) s m ([.int (p0)] : List Value).toArray below meth c H locs 0 0 (MQ below (m_Qi G r (x_ov Z u')) ([.int (p0)] : List Value).toArray s 0 0 (fun q => G.1 ≤ q)) (F0 m 19 ls []) := by
    intro u H locs ls hd hP hS hl
    refine lv_iconst (v := 1) hx hb dX7_isOperand_19 (by decide) ?_
    refine lv_goto (tgt := 24) hx hb dX7_isOperand_20 (by decide) ?_
    refine W.widen (k := 0) (n := 0) (Nat.le_of_ble_eq_true rfl) (Nat.le_of_ble_eq_true rfl) ?_
    exact J24 u 1 _ _ _ hd hP hS (lv_sub hl [] rfl)
  have hl := lv_entry ([.int (p0)]) (n := 1) (Nat.le_of_ble_eq_true rfl)
  rw [lg_entry_eq]
  generalize (lg_sl ([.int (p0)]) ++ List.replicate (1 - (lg_sl ([.int (p0)])).length) Slot.unset).toArray = ls at hl ⊢
  have hl : lv_has ls 1 [(0, .int (p0))] := hl
  refine lv_iload_n hx hb dX7_isOperand_0 rfl (lv_at hl 0 rfl) ?_
  obtain ⟨r1, u2, hc3, hd⟩ := m_b_e hd
  refine m_calli (k := 0) (n := 0) (va_runS (As := [.int (p0)]) (rest := []) ⟨hx, hb, hml, hown, hts⟩ (c_X7_isName l G Z hZ u u2 p0 r1 hc3) (va_cwS 1 hts gX7_isOperand_X7_isName rfl rfl rfl (by decide +kernel) ⟨(Nat.le_of_ble_eq_true rfl), (Nat.le_of_ble_eq_true rfl)⟩) (m_preS hM hP hS) rfl rfl hl.1 rfl (lv_room (Nat.le_of_ble_eq_true rfl)) dX7_isOperand_1 ⟨(Nat.le_of_ble_eq_true rfl), (Nat.le_of_ble_eq_true rfl)⟩) hS ⟨(Nat.le_of_ble_eq_true rfl), (Nat.le_of_ble_eq_true rfl)⟩ (fun H locs hP hS => ?_)
  refine lv_if_ne (tgt := 19) hx hb dX7_isOperand_4 (by decide) (fun c4 => ?_) (fun c4 => ?_)
  · have hd := m_i_f c4 hd
    refine W.widen (k := 0) (n := 0) (Nat.le_of_ble_eq_true rfl) (Nat.le_of_ble_eq_true rfl) ?_
    exact J19 u2 _ _ _ hd hP hS (lv_sub hl [] rfl)
  · have hd := m_i_t c4 hd
    refine lv_iload_n hx hb dX7_isOperand_7 rfl (lv_at hl 0 rfl) ?_
    refine lv_bipush (v := 100) hx hb dX7_isOperand_8 (by decide) ?_
    refine lv_sipush (v := 1100) hx hb dX7_isOperand_10 (by decide) ?_
    obtain ⟨r5, u6, hc7, hd⟩ := m_b_e hd
    refine m_calli (k := 0) (n := 0) (va_runS (As := [.int (p0), .int (100), .int (1100)]) (rest := []) ⟨hx, hb, hml, hown, hts⟩ (c_X7_in l G Z hZ u2 u6 p0 100 1100 r5 hc7) (va_cwS 3 hts gX7_isOperand_X7_in rfl rfl rfl (by decide +kernel) ⟨(Nat.le_of_ble_eq_true rfl), (Nat.le_of_ble_eq_true rfl)⟩) (m_preS hM hP hS) rfl rfl hl.1 rfl (lv_room (Nat.le_of_ble_eq_true rfl)) dX7_isOperand_13 ⟨(Nat.le_of_ble_eq_true rfl), (Nat.le_of_ble_eq_true rfl)⟩) hS ⟨(Nat.le_of_ble_eq_true rfl), (Nat.le_of_ble_eq_true rfl)⟩ (fun H locs hP hS => ?_)
    refine lv_if_eq (tgt := 23) hx hb dX7_isOperand_16 (by decide) (fun c8 => ?_) (fun c8 => ?_)
    · have hd := m_i_t c8 hd
      refine lv_iconst (v := 0) hx hb dX7_isOperand_23 (by decide) ?_
      refine W.widen (k := 0) (n := 0) (Nat.le_of_ble_eq_true rfl) (Nat.le_of_ble_eq_true rfl) ?_
      exact J24 u6 0 _ _ _ hd hP hS (lv_sub hl [] rfl)
    · have hd := m_i_f c8 hd
      refine W.widen (k := 0) (n := 0) (Nat.le_of_ble_eq_true rfl) (Nat.le_of_ble_eq_true rfl) ?_
      exact J19 u6 _ _ _ hd hP hS (lv_sub hl [] rfl)


noncomputable def f_X7_has_14 (u : xS) (s0 : Int32) : Option (Int32 × xS) := m_g (vp_nar .boolean s0 = s0) <| some (s0, u)
noncomputable def f_X7_has (u : xS) (p0 : Int32) (p1 : Int32) : Option (Int32 × xS) := if ((p0 >>> (p1 &&& 31)) &&& 1) = 1 then (f_X7_has_14 u 1) else (f_X7_has_14 u 0)
set_option maxHeartbeats 1000000 in
set_option maxRecDepth 100000 in
theorem c_X7_has (l : Launch) (G : m_G) (Z : xB) (hZ : x_ok Z) (u u' : xS) (p0 : Int32) (p1 : Int32) (r : Int32) (hd : f_X7_has u p0 p1 = some (r, u')) : Met l yX7_has wsX7_has ({ frames := 0, cells := 0, slots := 0, locals := 0 } : Room) (m_Pc G (x_ov Z u) [.int (p0), .int (p1)]) (m_Qi G r (x_ov Z u')) 0 0 (fun q => G.1 ≤ q) := by
  refine Met.ofW (cc := cX7_has) (maxL := 2) (ret := (some .boolean)) (by decide +kernel) rfl ?_
  intro p e s m args below meth c s₁ B hml hv
  obtain ⟨rfl, hM, hP⟩ := hv
  have hx := B.exec
  have hb := B.bytes
  have hr := B.returns
  have hts := atoms_spec (ws := wsX7_has) B.pre
  have hown : s.vm.findClass RX7 = some m.cls := findClass_of_methodNamed B.named
  have hlocks := B.notSynchronized
  have hS : va_S (fun q => G.1 ≤ q) s.heap s.heap [] := va_S.rf
  have J14 : ∀ (u : xS) (s0 : Int32) (H : Heap) (locs : List Loc) (ls : Array Slot), f_X7_has_14 u s0 = some (r, u') → mP G (x_ov Z u) H → va_S (fun q => G.1 ≤ q) s.heap H locs → lv_has ls 2 [] → W p l e ({ frames := 0, cells := 0, slots := 0, locals := 0 } : Room) s m ([.int (p0), .int (p1)] : List Value).toArray below meth c H locs 0 0 (MQ below (m_Qi G r (x_ov Z u')) ([.int (p0), .int (p1)] : List Value).toArray s 0 0 (fun q => G.1 ≤ q)) (F0 m 14 ls [.int (s0)]) := by
    intro u s0 H locs ls hd hP hS hl
    obtain ⟨hn102, hd⟩ := m_g_e hd
    obtain ⟨e1, e2⟩ := m_s_e hd
    have e2 := congrArg (x_ov Z) e2
    refine W.widen (k := 0) (n := 0) (Nat.le_of_ble_eq_true rfl) (Nat.le_of_ble_eq_true rfl) ?_
    exact W.zret hx hb hr (m_narZ hn102).1 (fun t ht hW => ⟨⟨_, (x_ov Z u), rfl, ⟨e1, e2⟩, by show mP _ _ t.heap; rw [ht]; exact hP⟩, hS.F ht⟩) hS.2.2 dX7_has_14
  have hl := lv_entry ([.int (p0), .int (p1)]) (n := 2) (Nat.le_of_ble_eq_true rfl)
  rw [lg_entry_eq]
  generalize (lg_sl ([.int (p0), .int (p1)]) ++ List.replicate (2 - (lg_sl ([.int (p0), .int (p1)])).length) Slot.unset).toArray = ls at hl ⊢
  have hl : lv_has ls 2 [(0, .int (p0)), (1, .int (p1))] := hl
  refine lv_iload_n hx hb dX7_has_0 rfl (lv_at hl 0 rfl) ?_
  refine lv_iload_n hx hb dX7_has_1 rfl (lv_at hl 1 rfl) ?_
  refine lv_ishr hx hb dX7_has_2 ?_
  refine lv_iconst (v := 1) hx hb dX7_has_3 (by decide) ?_
  refine lv_iand hx hb dX7_has_4 ?_
  refine lv_iconst (v := 1) hx hb dX7_has_5 (by decide) ?_
  refine lv_icmp_ne (tgt := 13) hx hb dX7_has_6 (by decide) (fun c1 => ?_) (fun c1 => ?_)
  · have hd := m_i_f c1 hd
    refine lv_iconst (v := 0) hx hb dX7_has_13 (by decide) ?_
    refine W.widen (k := 0) (n := 0) (Nat.le_of_ble_eq_true rfl) (Nat.le_of_ble_eq_true rfl) ?_
    exact J14 u 0 _ _ _ hd hP hS (lv_sub hl [] rfl)
  · have hd := m_i_t c1 hd
    refine lv_iconst (v := 1) hx hb dX7_has_9 (by decide) ?_
    refine lv_goto (tgt := 14) hx hb dX7_has_10 (by decide) ?_
    refine W.widen (k := 0) (n := 0) (Nat.le_of_ble_eq_true rfl) (Nat.le_of_ble_eq_true rfl) ?_
    exact J14 u 1 _ _ _ hd hP hS (lv_sub hl [] rfl)


noncomputable def f_X7_addCell_15 (u : xS) (s0 : Int32) : Option (Int32 × xS) := m_b (f_X7_goes u s0 1 1) fun r102 u103 => if r102 = (0 : Int32) then (some (0, u103)) else (m_g (¬ ((u103.1 0) < 0 ∨ 16 ≤ (u103.1 0).toNatClampNeg)) <| m_l (x_sA u103 1 ((u103.1 0).toNatClampNeg) (u103.1 0)) fun u107 => m_l (x_sI u107 0 ((u107.1 0) + 1)) fun u108 => some ((u108.1 0) - 1, u108))
noncomputable def f_X7_addCell (u : xS)  : Option (Int32 × xS) := if 16 ≤ (u.1 0) then (f_X7_addCell_15 u 0) else (f_X7_addCell_15 u 1)
set_option maxHeartbeats 1000000 in
set_option maxRecDepth 100000 in
theorem c_X7_addCell (l : Launch) (G : m_G) (Z : xB) (hZ : x_ok Z) (u u' : xS)  (r : Int32) (hd : f_X7_addCell u = some (r, u')) : Met l yX7_addCell wsX7_addCell ({ frames := 1, cells := 0, slots := 0, locals := 23 } : Room) (m_Pc G (x_ov Z u) [.ref (Z.2.1)]) (m_Qi G r (x_ov Z u')) 0 0 (fun q => G.1 ≤ q) := by
  refine Met.ofW (cc := cX7_addCell) (maxL := 1) (ret := (some .int)) (by decide +kernel) rfl ?_
  intro p e s m args below meth c s₁ B hml hv
  obtain ⟨rfl, hM, hP⟩ := hv
  have hx := B.exec
  have hb := B.bytes
  have hr := B.returns
  have hts := atoms_spec (ws := wsX7_addCell) B.pre
  have hown : s.vm.findClass RX7 = some m.cls := findClass_of_methodNamed B.named
  have hlocks := B.notSynchronized
  have hin10 : ∀ w ∈ u_ws RX7 TX7 32, w ∈ wsX7_addCell := by decide +kernel
  have hS : va_S (fun q => G.1 ≤ q) s.heap s.heap [] := va_S.rf
  have J15 : ∀ (u : xS) (s0 : Int32) (H : Heap) (locs : List Loc) (ls : Array Slot), f_X7_addCell_15 u s0 = some (r, u') → mP G (x_ov Z u) H → va_S (fun q => G.1 ≤ q) s.heap H locs → lv_has ls 1 [(0, .ref (Z.2.1))] → W p l e ({ frames := 1, cells := 0, slots := 0, locals := 23 } : Room) s m ([.ref (Z.2.1)] : List Value).toArray below meth c H locs 0 0 (MQ below (m_Qi G r (x_ov Z u')) ([.ref (Z.2.1)] : List Value).toArray s 0 0 (fun q => G.1 ≤ q)) (F0 m 15 ls [.int (s0), .ref (Z.2.1)]) := by
    intro u s0 H locs ls hd hP hS hl
    refine lv_iconst (v := 1) hx hb dX7_addCell_15 (by decide) ?_
    refine lv_iconst (v := 1) hx hb dX7_addCell_16 (by decide) ?_
    obtain ⟨r102, u103, hc104, hd⟩ := m_b_e hd
    refine m_calli (k := 0) (n := 0) (va_runV (As := [.int (s0), .int (1), .int (1)]) (rest := []) ⟨hx, hb, hml, hown, hts⟩ (c_X7_goes l G Z hZ u u103 s0 1 1 r102 hc104) (cwV 3 hts gX7_addCell_X7_goes rfl rfl rfl (by decide +kernel) ⟨(Nat.le_of_ble_eq_true rfl), (Nat.le_of_ble_eq_true rfl)⟩) (m_preV (C := RX7) (T := TX7) (N := 32) hM hP hS rfl (by decide) hZ.1) rfl rfl hl.1 rfl (lv_room (Nat.le_of_ble_eq_true rfl)) dX7_addCell_17 ⟨(Nat.le_of_ble_eq_true rfl), (Nat.le_of_ble_eq_true rfl)⟩) hS ⟨(Nat.le_of_ble_eq_true rfl), (Nat.le_of_ble_eq_true rfl)⟩ (fun H locs hP hS => ?_)
    refine lv_if_ne (tgt := 25) hx hb dX7_addCell_20 (by decide) (fun c105 => ?_) (fun c105 => ?_)
    · have hd := m_i_f c105 hd
      refine lv_aload_n hx hb dX7_addCell_25 rfl (lv_at hl 0 rfl) ?_
      refine x_getA (own := RX7) (ref := RX7) hx hb hts hin10 hown hM.1 hZ hP 1 (by decide) (hts (.fieldLink RX7 7 "CellNotebookModel" "order" "[I") (by decide +kernel)) (fun _ h9 => h9) dX7_addCell_26 ?_
      refine lv_aload_n hx hb dX7_addCell_29 rfl (lv_at hl 0 rfl) ?_
      refine x_getI (own := RX7) (ref := RX7) hx hb hts hin10 hown hM.1 hZ hP 0 (by decide) (hts (.fieldLink RX7 87 "CellNotebookModel" "cells" "I") (by decide +kernel)) (fun _ h9 => h9) dX7_addCell_30 ?_
      refine lv_aload_n hx hb dX7_addCell_33 rfl (lv_at hl 0 rfl) ?_
      refine x_getI (own := RX7) (ref := RX7) hx hb hts hin10 hown hM.1 hZ hP 0 (by decide) (hts (.fieldLink RX7 87 "CellNotebookModel" "cells" "I") (by decide +kernel)) (fun _ h9 => h9) dX7_addCell_34 ?_
      obtain ⟨hg106, hd⟩ := m_g_e hd
      refine x_ast hx hb hM.1 hZ hP hS 1 (by decide) hg106 dX7_addCell_37 (fun H locs hP hS => ?_)
      obtain ⟨u107, ew, hd⟩ := m_l_e hd
      have hP : mP G (x_ov Z u107) H := by rw [ew]; exact hP
      refine lv_aload_n hx hb dX7_addCell_38 rfl (lv_at hl 0 rfl) ?_
      refine lv_dup hx hb dX7_addCell_39 rfl ?_
      refine x_getI (own := RX7) (ref := RX7) hx hb hts hin10 hown hM.1 hZ hP 0 (by decide) (hts (.fieldLink RX7 87 "CellNotebookModel" "cells" "I") (by decide +kernel)) (fun _ h9 => h9) dX7_addCell_40 ?_
      refine lv_iconst (v := 1) hx hb dX7_addCell_43 (by decide) ?_
      refine lv_iadd hx hb dX7_addCell_44 ?_
      refine x_putI (own := RX7) (ref := RX7) hx hb hts hin10 hown hM.1 hZ hP hS 0 (by decide) (hts (.fieldLink RX7 87 "CellNotebookModel" "cells" "I") (by decide +kernel)) (fun _ h9 => h9) dX7_addCell_45 (fun H locs hP hS => ?_)
      obtain ⟨u108, ew, hd⟩ := m_l_e hd
      have hP : mP G (x_ov Z u108) H := by rw [ew]; exact hP
      refine lv_aload_n hx hb dX7_addCell_48 rfl (lv_at hl 0 rfl) ?_
      refine x_getI (own := RX7) (ref := RX7) hx hb hts hin10 hown hM.1 hZ hP 0 (by decide) (hts (.fieldLink RX7 87 "CellNotebookModel" "cells" "I") (by decide +kernel)) (fun _ h9 => h9) dX7_addCell_49 ?_
      refine lv_iconst (v := 1) hx hb dX7_addCell_52 (by decide) ?_
      refine lv_isub hx hb dX7_addCell_53 ?_
      obtain ⟨e1, e2⟩ := m_s_e hd
      have e2 := congrArg (x_ov Z) e2
      refine W.widen (k := 0) (n := 0) (Nat.le_of_ble_eq_true rfl) (Nat.le_of_ble_eq_true rfl) ?_
      exact W.iret hx hb hr (fun t ht hW => ⟨⟨_, (x_ov Z u108), rfl, ⟨e1, e2⟩, by show mP _ _ t.heap; rw [ht]; exact hP⟩, hS.F ht⟩) hS.2.2 dX7_addCell_54
    · have hd := m_i_t c105 hd
      refine lv_iconst (v := 0) hx hb dX7_addCell_23 (by decide) ?_
      obtain ⟨e1, e2⟩ := m_s_e hd
      have e2 := congrArg (x_ov Z) e2
      refine W.widen (k := 0) (n := 0) (Nat.le_of_ble_eq_true rfl) (Nat.le_of_ble_eq_true rfl) ?_
      exact W.iret hx hb hr (fun t ht hW => ⟨⟨_, (x_ov Z u103), rfl, ⟨e1, e2⟩, by show mP _ _ t.heap; rw [ht]; exact hP⟩, hS.F ht⟩) hS.2.2 dX7_addCell_24
  have hl := lv_entry ([.ref (Z.2.1)]) (n := 1) (Nat.le_of_ble_eq_true rfl)
  rw [lg_entry_eq]
  generalize (lg_sl ([.ref (Z.2.1)]) ++ List.replicate (1 - (lg_sl ([.ref (Z.2.1)])).length) Slot.unset).toArray = ls at hl ⊢
  have hl : lv_has ls 1 [(0, .ref (Z.2.1))] := hl
  refine lv_aload_n hx hb dX7_addCell_0 rfl (lv_at hl 0 rfl) ?_
  refine lv_aload_n hx hb dX7_addCell_1 rfl (lv_at hl 0 rfl) ?_
  refine x_getI (own := RX7) (ref := RX7) hx hb hts hin10 hown hM.1 hZ hP 0 (by decide) (hts (.fieldLink RX7 87 "CellNotebookModel" "cells" "I") (by decide +kernel)) (fun _ h9 => h9) dX7_addCell_2 ?_
  refine lv_bipush (v := 16) hx hb dX7_addCell_5 (by decide) ?_
  refine lv_icmp_ge (tgt := 14) hx hb dX7_addCell_7 (by decide) (fun c1 => ?_) (fun c1 => ?_)
  · have hd := m_i_t c1 hd
    refine lv_iconst (v := 0) hx hb dX7_addCell_14 (by decide) ?_
    refine W.widen (k := 0) (n := 0) (Nat.le_of_ble_eq_true rfl) (Nat.le_of_ble_eq_true rfl) ?_
    exact J15 u 0 _ _ _ hd hP hS (lv_sub hl [0] rfl)
  · have hd := m_i_f c1 hd
    refine lv_iconst (v := 1) hx hb dX7_addCell_10 (by decide) ?_
    refine lv_goto (tgt := 15) hx hb dX7_addCell_11 (by decide) ?_
    refine W.widen (k := 0) (n := 0) (Nat.le_of_ble_eq_true rfl) (Nat.le_of_ble_eq_true rfl) ?_
    exact J15 u 1 _ _ _ hd hP hS (lv_sub hl [0] rfl)


noncomputable def f_X7_rightOf_19 (u : xS) (s0 : Int32) : Option (Int32 × xS) := some (s0, u)
noncomputable def f_X7_rightOf (u : xS) (p0 : Int32) (p1 : Int32) : Option (Int32 × xS) := if p0 = (0 : Int32) then (f_X7_rightOf_19 u 3) else (m_g (¬ (((16 * p0) + p1) < 0 ∨ 80 ≤ ((16 * p0) + p1).toNatClampNeg)) <| f_X7_rightOf_19 u (u.2 9 ((16 * p0) + p1).toNatClampNeg))
set_option maxHeartbeats 1000000 in
set_option maxRecDepth 100000 in
theorem c_X7_rightOf (l : Launch) (G : m_G) (Z : xB) (hZ : x_ok Z) (u u' : xS) (p0 : Int32) (p1 : Int32) (r : Int32) (hd : f_X7_rightOf u p0 p1 = some (r, u')) : Met l yX7_rightOf wsX7_rightOf ({ frames := 0, cells := 0, slots := 0, locals := 0 } : Room) (m_Pc G (x_ov Z u) [.ref (Z.2.1), .int (p0), .int (p1)]) (m_Qi G r (x_ov Z u')) 0 0 (fun q => G.1 ≤ q) := by
  refine Met.ofW (cc := cX7_rightOf) (maxL := 3) (ret := (some .int)) (by decide +kernel) rfl ?_
  intro p e s m args below meth c s₁ B hml hv
  obtain ⟨rfl, hM, hP⟩ := hv
  have hx := B.exec
  have hb := B.bytes
  have hr := B.returns
  have hts := atoms_spec (ws := wsX7_rightOf) B.pre
  have hown : s.vm.findClass RX7 = some m.cls := findClass_of_methodNamed B.named
  have hlocks := B.notSynchronized
  have hin10 : ∀ w ∈ u_ws RX7 TX7 32, w ∈ wsX7_rightOf := by decide +kernel
  have hS : va_S (fun q => G.1 ≤ q) s.heap s.heap [] := va_S.rf
  have J19 : ∀ (u : xS) (s0 : Int32) (H : Heap) (locs : List Loc) (ls : Array Slot), f_X7_rightOf_19 u s0 = some (r, u') → mP G (x_ov Z u) H → va_S (fun q => G.1 ≤ q) s.heap H locs → lv_has ls 3 [] → W p l e ({ frames := 0, cells := 0, slots := 0, locals := 0 } : Room) s m ([.ref (Z.2.1), .int (p0), .int (p1)] : List Value).toArray below meth c H locs 0 0 (MQ below (m_Qi G r (x_ov Z u')) ([.ref (Z.2.1), .int (p0), .int (p1)] : List Value).toArray s 0 0 (fun q => G.1 ≤ q)) (F0 m 19 ls [.int (s0)]) := by
    intro u s0 H locs ls hd hP hS hl
    obtain ⟨e1, e2⟩ := m_s_e hd
    have e2 := congrArg (x_ov Z) e2
    refine W.widen (k := 0) (n := 0) (Nat.le_of_ble_eq_true rfl) (Nat.le_of_ble_eq_true rfl) ?_
    exact W.iret hx hb hr (fun t ht hW => ⟨⟨_, (x_ov Z u), rfl, ⟨e1, e2⟩, by show mP _ _ t.heap; rw [ht]; exact hP⟩, hS.F ht⟩) hS.2.2 dX7_rightOf_19
  have hl := lv_entry ([.ref (Z.2.1), .int (p0), .int (p1)]) (n := 3) (Nat.le_of_ble_eq_true rfl)
  rw [lg_entry_eq]
  generalize (lg_sl ([.ref (Z.2.1), .int (p0), .int (p1)]) ++ List.replicate (3 - (lg_sl ([.ref (Z.2.1), .int (p0), .int (p1)])).length) Slot.unset).toArray = ls at hl ⊢
  have hl : lv_has ls 3 [(0, .ref (Z.2.1)), (1, .int (p0)), (2, .int (p1))] := hl
  refine lv_iload_n hx hb dX7_rightOf_0 rfl (lv_at hl 1 rfl) ?_
  refine lv_if_ne (tgt := 8) hx hb dX7_rightOf_1 (by decide) (fun c1 => ?_) (fun c1 => ?_)
  · have hd := m_i_f c1 hd
    refine lv_aload_n hx hb dX7_rightOf_8 rfl (lv_at hl 0 rfl) ?_
    refine x_getA (own := RX7) (ref := RX7) hx hb hts hin10 hown hM.1 hZ hP 9 (by decide) (hts (.fieldLink RX7 34 "CellNotebookModel" "rights" "[I") (by decide +kernel)) (fun _ h9 => h9) dX7_rightOf_9 ?_
    refine lv_bipush (v := 16) hx hb dX7_rightOf_12 (by decide) ?_
    refine lv_iload_n hx hb dX7_rightOf_14 rfl (lv_at hl 1 rfl) ?_
    refine lv_imul hx hb dX7_rightOf_15 ?_
    refine lv_iload_n hx hb dX7_rightOf_16 rfl (lv_at hl 2 rfl) ?_
    refine lv_iadd hx hb dX7_rightOf_17 ?_
    obtain ⟨hg2, hd⟩ := m_g_e hd
    refine x_ald hx hb hM.1 hZ hP 9 (by decide) hg2 dX7_rightOf_18 ?_
    refine W.widen (k := 0) (n := 0) (Nat.le_of_ble_eq_true rfl) (Nat.le_of_ble_eq_true rfl) ?_
    exact J19 u (u.2 9 ((16 * p0) + p1).toNatClampNeg) _ _ _ hd hP hS (lv_sub hl [] rfl)
  · have hd := m_i_t c1 hd
    refine lv_iconst (v := 3) hx hb dX7_rightOf_4 (by decide) ?_
    refine lv_goto (tgt := 19) hx hb dX7_rightOf_5 (by decide) ?_
    refine W.widen (k := 0) (n := 0) (Nat.le_of_ble_eq_true rfl) (Nat.le_of_ble_eq_true rfl) ?_
    exact J19 u 3 _ _ _ hd hP hS (lv_sub hl [] rfl)


noncomputable def f_X7_write_98 (u : xS) (x2 : Int32) (x3 : Int32) (x4 : Int32) (x5 : Int32) (x6 : Int32) (s0 : Int32) (s1 : Int32) (s2 : Int32) : Option (Int32 × xS) := m_b (f_X7_goes u s2 s1 s0) fun r632 u633 => if r632 = (0 : Int32) then (some (0, u633)) else (m_g (¬ (x2 < 0 ∨ 16 ≤ x2.toNatClampNeg)) <| m_g (¬ (((6 * x2) + (u633.2 2 x2.toNatClampNeg)) < 0 ∨ 96 ≤ ((6 * x2) + (u633.2 2 x2.toNatClampNeg)).toNatClampNeg)) <| m_l (x_sA u633 3 (((6 * x2) + (u633.2 2 x2.toNatClampNeg)).toNatClampNeg) x3) fun u638 => m_g (¬ (((6 * x2) + (u633.2 2 x2.toNatClampNeg)) < 0 ∨ 96 ≤ ((6 * x2) + (u633.2 2 x2.toNatClampNeg)).toNatClampNeg)) <| m_l (x_sA u638 4 (((6 * x2) + (u633.2 2 x2.toNatClampNeg)).toNatClampNeg) x4) fun u640 => m_g (¬ (((6 * x2) + (u633.2 2 x2.toNatClampNeg)) < 0 ∨ 96 ≤ ((6 * x2) + (u633.2 2 x2.toNatClampNeg)).toNatClampNeg)) <| m_l (x_sA u640 5 (((6 * x2) + (u633.2 2 x2.toNatClampNeg)).toNatClampNeg) x5) fun u642 => m_g (¬ (((6 * x2) + (u633.2 2 x2.toNatClampNeg)) < 0 ∨ 96 ≤ ((6 * x2) + (u633.2 2 x2.toNatClampNeg)).toNatClampNeg)) <| m_l (x_sA u642 6 (((6 * x2) + (u633.2 2 x2.toNatClampNeg)).toNatClampNeg) x6) fun u644 => m_g (¬ (x2 < 0 ∨ 16 ≤ x2.toNatClampNeg)) <| m_g (¬ (x2 < 0 ∨ 16 ≤ x2.toNatClampNeg)) <| m_l (x_sA u644 2 (x2.toNatClampNeg) ((u644.2 2 x2.toNatClampNeg) + 1)) fun u647 => m_g (¬ (x2 < 0 ∨ 16 ≤ x2.toNatClampNeg)) <| m_l (x_sA u647 7 (x2.toNatClampNeg) (u647.1 13)) fun u649 => m_g (¬ (x2 < 0 ∨ 16 ≤ x2.toNatClampNeg)) <| some (u649.2 2 x2.toNatClampNeg, u649))
noncomputable def f_X7_write_97 (u : xS) (x2 : Int32) (x3 : Int32) (x4 : Int32) (x5 : Int32) (x6 : Int32) (s0 : Int32) (s1 : Int32) : Option (Int32 × xS) := f_X7_write_98 u x2 x3 x4 x5 x6 0 s0 s1
noncomputable def f_X7_write_60 (u : xS) (x1 : Int32) (x2 : Int32) (x3 : Int32) (x4 : Int32) (x5 : Int32) (x6 : Int32) (x7 : Int32) (s0 : Int32) : Option (Int32 × xS) := if x7 = (0 : Int32) then (f_X7_write_97 u x2 x3 x4 x5 x6 s0 x7) else (m_b (f_X7_rightOf u x1 x2) fun r426 u427 => if r426 = 3 then (m_g (¬ (x2 < 0 ∨ 16 ≤ x2.toNatClampNeg)) <| if 6 ≤ (u427.2 2 x2.toNatClampNeg) then (f_X7_write_97 u427 x2 x3 x4 x5 x6 s0 x7) else (f_X7_write_98 u427 x2 x3 x4 x5 x6 1 s0 x7)) else (f_X7_write_97 u427 x2 x3 x4 x5 x6 s0 x7))
noncomputable def f_X7_write_59 (u : xS) (x1 : Int32) (x2 : Int32) (x3 : Int32) (x4 : Int32) (x5 : Int32) (x6 : Int32) (x7 : Int32) : Option (Int32 × xS) := f_X7_write_60 u x1 x2 x3 x4 x5 x6 x7 0
noncomputable def f_X7_write_27 (u : xS) (x1 : Int32) (x2 : Int32) (x3 : Int32) (x4 : Int32) (x5 : Int32) (x6 : Int32) (s0 : Int32) : Option (Int32 × xS) := m_b (f_X7_in u x4 0 3) fun r213 u214 => if r213 = (0 : Int32) then (f_X7_write_59 u214 x1 x2 x3 x4 x5 x6 s0) else (m_b (f_X7_isOperand u214 x5) fun r217 u218 => if r217 = (0 : Int32) then (f_X7_write_59 u218 x1 x2 x3 x4 x5 x6 s0) else (m_b (f_X7_isOperand u218 x6) fun r221 u222 => if r221 = (0 : Int32) then (f_X7_write_59 u222 x1 x2 x3 x4 x5 x6 s0) else (f_X7_write_60 u222 x1 x2 x3 x4 x5 x6 s0 1)))
noncomputable def f_X7_write_26 (u : xS) (x1 : Int32) (x2 : Int32) (x3 : Int32) (x4 : Int32) (x5 : Int32) (x6 : Int32) : Option (Int32 × xS) := f_X7_write_27 u x1 x2 x3 x4 x5 x6 0
noncomputable def f_X7_write (u : xS) (p0 : Int32) (p1 : Int32) (p2 : Int32) (p3 : Int32) (p4 : Int32) (p5 : Int32) : Option (Int32 × xS) := m_b (f_X7_isUser u p0) fun r1 u2 => if r1 = (0 : Int32) then (f_X7_write_26 u2 p0 p1 p2 p3 p4 p5) else (m_b (f_X7_isCell u2 p1) fun r5 u6 => if r5 = (0 : Int32) then (f_X7_write_26 u6 p0 p1 p2 p3 p4 p5) else (m_b (f_X7_isName u6 p2) fun r9 u10 => if r9 = (0 : Int32) then (f_X7_write_26 u10 p0 p1 p2 p3 p4 p5) else (f_X7_write_27 u10 p0 p1 p2 p3 p4 p5 1)))
set_option maxHeartbeats 1000000 in
set_option maxRecDepth 100000 in
theorem c_X7_write (l : Launch) (G : m_G) (Z : xB) (hZ : x_ok Z) (u u' : xS) (p0 : Int32) (p1 : Int32) (p2 : Int32) (p3 : Int32) (p4 : Int32) (p5 : Int32) (r : Int32) (hd : f_X7_write u p0 p1 p2 p3 p4 p5 = some (r, u')) : Met l yX7_write wsX7_write ({ frames := 3, cells := 0, slots := 0, locals := 62 } : Room) (m_Pc G (x_ov Z u) [.ref (Z.2.1), .int (p0), .int (p1), .int (p2), .int (p3), .int (p4), .int (p5)]) (m_Qi G r (x_ov Z u')) 0 0 (fun q => G.1 ≤ q) := by
  refine Met.ofW (cc := cX7_write) (maxL := 10) (ret := (some .int)) (by decide +kernel) rfl ?_
  intro p e s m args below meth c s₁ B hml hv
  obtain ⟨rfl, hM, hP⟩ := hv
  have hx := B.exec
  have hb := B.bytes
  have hr := B.returns
  have hts := atoms_spec (ws := wsX7_write) B.pre
  have hown : s.vm.findClass RX7 = some m.cls := findClass_of_methodNamed B.named
  have hlocks := B.notSynchronized
  have hin10 : ∀ w ∈ u_ws RX7 TX7 32, w ∈ wsX7_write := by decide +kernel
  have hS : va_S (fun q => G.1 ≤ q) s.heap s.heap [] := va_S.rf
  have J98 : ∀ (u : xS) (x2 : Int32) (x3 : Int32) (x4 : Int32) (x5 : Int32) (x6 : Int32) (s0 : Int32) (s1 : Int32) (s2 : Int32) (H : Heap) (locs : List Loc) (ls : Array Slot), f_X7_write_98 u x2 x3 x4 x5 x6 s0 s1 s2 = some (r, u') → mP G (x_ov Z u) H → va_S (fun q => G.1 ≤ q) s.heap H locs → lv_has ls 10 [(0, .ref (Z.2.1)), (2, .int (x2)), (3, .int (x3)), (4, .int (x4)), (5, .int (x5)), (6, .int (x6))] → W p l e ({ frames := 3, cells := 0, slots := 0, locals := 62 } : Room) s m ([.ref (Z.2.1), .int (p0), .int (p1), .int (p2), .int (p3), .int (p4), .int (p5)] : List Value).toArray below meth c H locs 0 0 (MQ below (m_Qi G r (x_ov Z u')) ([.ref (Z.2.1), .int (p0), .int (p1), .int (p2), .int (p3), .int (p4), .int (p5)] : List Value).toArray s 0 0 (fun q => G.1 ≤ q)) (F0 m 98 ls [.int (s0), .int (s1), .int (s2), .ref (Z.2.1)]) := by
    intro u x2 x3 x4 x5 x6 s0 s1 s2 H locs ls hd hP hS hl
    obtain ⟨r632, u633, hc634, hd⟩ := m_b_e hd
    refine m_calli (k := 0) (n := 0) (va_runV (As := [.int (s2), .int (s1), .int (s0)]) (rest := []) ⟨hx, hb, hml, hown, hts⟩ (c_X7_goes l G Z hZ u u633 s2 s1 s0 r632 hc634) (cwV 3 hts gX7_write_X7_goes rfl rfl rfl (by decide +kernel) ⟨(Nat.le_of_ble_eq_true rfl), (Nat.le_of_ble_eq_true rfl)⟩) (m_preV (C := RX7) (T := TX7) (N := 32) hM hP hS rfl (by decide) hZ.1) rfl rfl hl.1 rfl (lv_room (Nat.le_of_ble_eq_true rfl)) dX7_write_98 ⟨(Nat.le_of_ble_eq_true rfl), (Nat.le_of_ble_eq_true rfl)⟩) hS ⟨(Nat.le_of_ble_eq_true rfl), (Nat.le_of_ble_eq_true rfl)⟩ (fun H locs hP hS => ?_)
    refine lv_if_ne (tgt := 106) hx hb dX7_write_101 (by decide) (fun c635 => ?_) (fun c635 => ?_)
    · have hd := m_i_f c635 hd
      refine lv_bipush (v := 6) hx hb dX7_write_106 (by decide) ?_
      refine lv_iload_n hx hb dX7_write_108 rfl (lv_at hl 1 rfl) ?_
      refine lv_imul hx hb dX7_write_109 ?_
      refine lv_aload_n hx hb dX7_write_110 rfl (lv_at hl 0 rfl) ?_
      refine x_getA (own := RX7) (ref := RX7) hx hb hts hin10 hown hM.1 hZ hP 2 (by decide) (hts (.fieldLink RX7 13 "CellNotebookModel" "many" "[I") (by decide +kernel)) (fun _ h9 => h9) dX7_write_111 ?_
      refine lv_iload_n hx hb dX7_write_114 rfl (lv_at hl 1 rfl) ?_
      obtain ⟨hg636, hd⟩ := m_g_e hd
      refine x_ald hx hb hM.1 hZ hP 2 (by decide) hg636 dX7_write_115 ?_
      refine lv_iadd hx hb dX7_write_116 ?_
      refine lv_istore (lv' := [(9, .int ((6 * x2) + (u633.2 2 x2.toNatClampNeg))), (0, .ref (Z.2.1)), (2, .int (x2)), (3, .int (x3)), (4, .int (x4)), (5, .int (x5)), (6, .int (x6))]) hx hb dX7_write_117 hl (by decide) rfl (fun ls hl => ?_)
      refine lv_aload_n hx hb dX7_write_119 rfl (lv_at hl 1 rfl) ?_
      refine x_getA (own := RX7) (ref := RX7) hx hb hts hin10 hown hM.1 hZ hP 3 (by decide) (hts (.fieldLink RX7 16 "CellNotebookModel" "name" "[I") (by decide +kernel)) (fun _ h9 => h9) dX7_write_120 ?_
      refine lv_iload hx hb dX7_write_123 (lv_at hl 0 rfl) ?_
      refine lv_iload_n hx hb dX7_write_125 rfl (lv_at hl 3 rfl) ?_
      obtain ⟨hg637, hd⟩ := m_g_e hd
      refine x_ast hx hb hM.1 hZ hP hS 3 (by decide) hg637 dX7_write_126 (fun H locs hP hS => ?_)
      obtain ⟨u638, ew, hd⟩ := m_l_e hd
      have hP : mP G (x_ov Z u638) H := by rw [ew]; exact hP
      refine lv_aload_n hx hb dX7_write_127 rfl (lv_at hl 1 rfl) ?_
      refine x_getA (own := RX7) (ref := RX7) hx hb hts hin10 hown hM.1 hZ hP 4 (by decide) (hts (.fieldLink RX7 19 "CellNotebookModel" "operation" "[I") (by decide +kernel)) (fun _ h9 => h9) dX7_write_128 ?_
      refine lv_iload hx hb dX7_write_131 (lv_at hl 0 rfl) ?_
      refine lv_iload hx hb dX7_write_133 (lv_at hl 4 rfl) ?_
      obtain ⟨hg639, hd⟩ := m_g_e hd
      refine x_ast hx hb hM.1 hZ hP hS 4 (by decide) hg639 dX7_write_135 (fun H locs hP hS => ?_)
      obtain ⟨u640, ew, hd⟩ := m_l_e hd
      have hP : mP G (x_ov Z u640) H := by rw [ew]; exact hP
      refine lv_aload_n hx hb dX7_write_136 rfl (lv_at hl 1 rfl) ?_
      refine x_getA (own := RX7) (ref := RX7) hx hb hts hin10 hown hM.1 hZ hP 5 (by decide) (hts (.fieldLink RX7 22 "CellNotebookModel" "left" "[I") (by decide +kernel)) (fun _ h9 => h9) dX7_write_137 ?_
      refine lv_iload hx hb dX7_write_140 (lv_at hl 0 rfl) ?_
      refine lv_iload hx hb dX7_write_142 (lv_at hl 5 rfl) ?_
      obtain ⟨hg641, hd⟩ := m_g_e hd
      refine x_ast hx hb hM.1 hZ hP hS 5 (by decide) hg641 dX7_write_144 (fun H locs hP hS => ?_)
      obtain ⟨u642, ew, hd⟩ := m_l_e hd
      have hP : mP G (x_ov Z u642) H := by rw [ew]; exact hP
      refine lv_aload_n hx hb dX7_write_145 rfl (lv_at hl 1 rfl) ?_
      refine x_getA (own := RX7) (ref := RX7) hx hb hts hin10 hown hM.1 hZ hP 6 (by decide) (hts (.fieldLink RX7 25 "CellNotebookModel" "right" "[I") (by decide +kernel)) (fun _ h9 => h9) dX7_write_146 ?_
      refine lv_iload hx hb dX7_write_149 (lv_at hl 0 rfl) ?_
      refine lv_iload hx hb dX7_write_151 (lv_at hl 6 rfl) ?_
      obtain ⟨hg643, hd⟩ := m_g_e hd
      refine x_ast hx hb hM.1 hZ hP hS 6 (by decide) hg643 dX7_write_153 (fun H locs hP hS => ?_)
      obtain ⟨u644, ew, hd⟩ := m_l_e hd
      have hP : mP G (x_ov Z u644) H := by rw [ew]; exact hP
      refine lv_aload_n hx hb dX7_write_154 rfl (lv_at hl 1 rfl) ?_
      refine x_getA (own := RX7) (ref := RX7) hx hb hts hin10 hown hM.1 hZ hP 2 (by decide) (hts (.fieldLink RX7 13 "CellNotebookModel" "many" "[I") (by decide +kernel)) (fun _ h9 => h9) dX7_write_155 ?_
      refine lv_iload_n hx hb dX7_write_158 rfl (lv_at hl 2 rfl) ?_
      refine lv_dup2_11 hx hb dX7_write_159 rfl rfl ?_
      obtain ⟨hg645, hd⟩ := m_g_e hd
      refine x_ald hx hb hM.1 hZ hP 2 (by decide) hg645 dX7_write_160 ?_
      refine lv_iconst (v := 1) hx hb dX7_write_161 (by decide) ?_
      refine lv_iadd hx hb dX7_write_162 ?_
      obtain ⟨hg646, hd⟩ := m_g_e hd
      refine x_ast hx hb hM.1 hZ hP hS 2 (by decide) hg646 dX7_write_163 (fun H locs hP hS => ?_)
      obtain ⟨u647, ew, hd⟩ := m_l_e hd
      have hP : mP G (x_ov Z u647) H := by rw [ew]; exact hP
      refine lv_aload_n hx hb dX7_write_164 rfl (lv_at hl 1 rfl) ?_
      refine x_getA (own := RX7) (ref := RX7) hx hb hts hin10 hown hM.1 hZ hP 7 (by decide) (hts (.fieldLink RX7 28 "CellNotebookModel" "changed" "[I") (by decide +kernel)) (fun _ h9 => h9) dX7_write_165 ?_
      refine lv_iload_n hx hb dX7_write_168 rfl (lv_at hl 2 rfl) ?_
      refine lv_aload_n hx hb dX7_write_169 rfl (lv_at hl 1 rfl) ?_
      refine x_getI (own := RX7) (ref := RX7) hx hb hts hin10 hown hM.1 hZ hP 13 (by decide) (hts (.fieldLink RX7 115 "CellNotebookModel" "runs" "I") (by decide +kernel)) (fun _ h9 => h9) dX7_write_170 ?_
      obtain ⟨hg648, hd⟩ := m_g_e hd
      refine x_ast hx hb hM.1 hZ hP hS 7 (by decide) hg648 dX7_write_173 (fun H locs hP hS => ?_)
      obtain ⟨u649, ew, hd⟩ := m_l_e hd
      have hP : mP G (x_ov Z u649) H := by rw [ew]; exact hP
      refine lv_aload_n hx hb dX7_write_174 rfl (lv_at hl 1 rfl) ?_
      refine x_getA (own := RX7) (ref := RX7) hx hb hts hin10 hown hM.1 hZ hP 2 (by decide) (hts (.fieldLink RX7 13 "CellNotebookModel" "many" "[I") (by decide +kernel)) (fun _ h9 => h9) dX7_write_175 ?_
      refine lv_iload_n hx hb dX7_write_178 rfl (lv_at hl 2 rfl) ?_
      obtain ⟨hg650, hd⟩ := m_g_e hd
      refine x_ald hx hb hM.1 hZ hP 2 (by decide) hg650 dX7_write_179 ?_
      obtain ⟨e1, e2⟩ := m_s_e hd
      have e2 := congrArg (x_ov Z) e2
      refine W.widen (k := 0) (n := 0) (Nat.le_of_ble_eq_true rfl) (Nat.le_of_ble_eq_true rfl) ?_
      exact W.iret hx hb hr (fun t ht hW => ⟨⟨_, (x_ov Z u649), rfl, ⟨e1, e2⟩, by show mP _ _ t.heap; rw [ht]; exact hP⟩, hS.F ht⟩) hS.2.2 dX7_write_180
    · have hd := m_i_t c635 hd
      refine lv_iconst (v := 0) hx hb dX7_write_104 (by decide) ?_
      obtain ⟨e1, e2⟩ := m_s_e hd
      have e2 := congrArg (x_ov Z) e2
      refine W.widen (k := 0) (n := 0) (Nat.le_of_ble_eq_true rfl) (Nat.le_of_ble_eq_true rfl) ?_
      exact W.iret hx hb hr (fun t ht hW => ⟨⟨_, (x_ov Z u633), rfl, ⟨e1, e2⟩, by show mP _ _ t.heap; rw [ht]; exact hP⟩, hS.F ht⟩) hS.2.2 dX7_write_105
  have J97 : ∀ (u : xS) (x2 : Int32) (x3 : Int32) (x4 : Int32) (x5 : Int32) (x6 : Int32) (s0 : Int32) (s1 : Int32) (H : Heap) (locs : List Loc) (ls : Array Slot), f_X7_write_97 u x2 x3 x4 x5 x6 s0 s1 = some (r, u') → mP G (x_ov Z u) H → va_S (fun q => G.1 ≤ q) s.heap H locs → lv_has ls 10 [(0, .ref (Z.2.1)), (2, .int (x2)), (3, .int (x3)), (4, .int (x4)), (5, .int (x5)), (6, .int (x6))] → W p l e ({ frames := 3, cells := 0, slots := 0, locals := 62 } : Room) s m ([.ref (Z.2.1), .int (p0), .int (p1), .int (p2), .int (p3), .int (p4), .int (p5)] : List Value).toArray below meth c H locs 0 0 (MQ below (m_Qi G r (x_ov Z u')) ([.ref (Z.2.1), .int (p0), .int (p1), .int (p2), .int (p3), .int (p4), .int (p5)] : List Value).toArray s 0 0 (fun q => G.1 ≤ q)) (F0 m 97 ls [.int (s0), .int (s1), .ref (Z.2.1)]) := by
    intro u x2 x3 x4 x5 x6 s0 s1 H locs ls hd hP hS hl
    refine lv_iconst (v := 0) hx hb dX7_write_97 (by decide) ?_
    refine W.widen (k := 0) (n := 0) (Nat.le_of_ble_eq_true rfl) (Nat.le_of_ble_eq_true rfl) ?_
    exact J98 u x2 x3 x4 x5 x6 0 s0 s1 _ _ _ hd hP hS (lv_sub hl [0, 1, 2, 3, 4, 5] rfl)
  have J60 : ∀ (u : xS) (x1 : Int32) (x2 : Int32) (x3 : Int32) (x4 : Int32) (x5 : Int32) (x6 : Int32) (x7 : Int32) (s0 : Int32) (H : Heap) (locs : List Loc) (ls : Array Slot), f_X7_write_60 u x1 x2 x3 x4 x5 x6 x7 s0 = some (r, u') → mP G (x_ov Z u) H → va_S (fun q => G.1 ≤ q) s.heap H locs → lv_has ls 10 [(0, .ref (Z.2.1)), (1, .int (x1)), (2, .int (x2)), (3, .int (x3)), (4, .int (x4)), (5, .int (x5)), (6, .int (x6)), (7, .int (x7))] → W p l e ({ frames := 3, cells := 0, slots := 0, locals := 62 } : Room) s m ([.ref (Z.2.1), .int (p0), .int (p1), .int (p2), .int (p3), .int (p4), .int (p5)] : List Value).toArray below meth c H locs 0 0 (MQ below (m_Qi G r (x_ov Z u')) ([.ref (Z.2.1), .int (p0), .int (p1), .int (p2), .int (p3), .int (p4), .int (p5)] : List Value).toArray s 0 0 (fun q => G.1 ≤ q)) (F0 m 60 ls [.int (s0)]) := by
    intro u x1 x2 x3 x4 x5 x6 x7 s0 H locs ls hd hP hS hl
    refine lv_istore (lv' := [(8, .int (s0)), (0, .ref (Z.2.1)), (1, .int (x1)), (2, .int (x2)), (3, .int (x3)), (4, .int (x4)), (5, .int (x5)), (6, .int (x6)), (7, .int (x7))]) hx hb dX7_write_60 hl (by decide) rfl (fun ls hl => ?_)
    refine lv_aload_n hx hb dX7_write_62 rfl (lv_at hl 1 rfl) ?_
    refine lv_iload hx hb dX7_write_63 (lv_at hl 8 rfl) ?_
    refine lv_iload hx hb dX7_write_65 (lv_at hl 0 rfl) ?_
    refine lv_iload hx hb dX7_write_67 (lv_at hl 8 rfl) ?_
    refine lv_if_eq (tgt := 97) hx hb dX7_write_69 (by decide) (fun c425 => ?_) (fun c425 => ?_)
    · have hd := m_i_t c425 hd
      refine W.widen (k := 0) (n := 0) (Nat.le_of_ble_eq_true rfl) (Nat.le_of_ble_eq_true rfl) ?_
      exact J97 u x2 x3 x4 x5 x6 s0 x7 _ _ _ hd hP hS (lv_sub hl [1, 3, 4, 5, 6, 7] rfl)
    · have hd := m_i_f c425 hd
      refine lv_aload_n hx hb dX7_write_72 rfl (lv_at hl 1 rfl) ?_
      refine lv_iload_n hx hb dX7_write_73 rfl (lv_at hl 2 rfl) ?_
      refine lv_iload_n hx hb dX7_write_74 rfl (lv_at hl 3 rfl) ?_
      obtain ⟨r426, u427, hc428, hd⟩ := m_b_e hd
      refine m_calli (k := 0) (n := 0) (va_runV (As := [.int (x1), .int (x2)]) (rest := [.int (s0), .int (x7), .ref (Z.2.1)]) ⟨hx, hb, hml, hown, hts⟩ (c_X7_rightOf l G Z hZ u u427 x1 x2 r426 hc428) (cwV 2 hts gX7_write_X7_rightOf rfl rfl rfl (by decide +kernel) ⟨(Nat.le_of_ble_eq_true rfl), (Nat.le_of_ble_eq_true rfl)⟩) (m_preV (C := RX7) (T := TX7) (N := 32) hM hP hS rfl (by decide) hZ.1) rfl rfl hl.1 rfl (lv_room (Nat.le_of_ble_eq_true rfl)) dX7_write_75 ⟨(Nat.le_of_ble_eq_true rfl), (Nat.le_of_ble_eq_true rfl)⟩) hS ⟨(Nat.le_of_ble_eq_true rfl), (Nat.le_of_ble_eq_true rfl)⟩ (fun H locs hP hS => ?_)
      refine lv_iconst (v := 3) hx hb dX7_write_78 (by decide) ?_
      refine lv_icmp_ne (tgt := 97) hx hb dX7_write_79 (by decide) (fun c429 => ?_) (fun c429 => ?_)
      · have hd := m_i_f c429 hd
        refine W.widen (k := 0) (n := 0) (Nat.le_of_ble_eq_true rfl) (Nat.le_of_ble_eq_true rfl) ?_
        exact J97 u427 x2 x3 x4 x5 x6 s0 x7 _ _ _ hd hP hS (lv_sub hl [1, 3, 4, 5, 6, 7] rfl)
      · have hd := m_i_t c429 hd
        refine lv_aload_n hx hb dX7_write_82 rfl (lv_at hl 1 rfl) ?_
        refine x_getA (own := RX7) (ref := RX7) hx hb hts hin10 hown hM.1 hZ hP 2 (by decide) (hts (.fieldLink RX7 13 "CellNotebookModel" "many" "[I") (by decide +kernel)) (fun _ h9 => h9) dX7_write_83 ?_
        refine lv_iload_n hx hb dX7_write_86 rfl (lv_at hl 3 rfl) ?_
        obtain ⟨hg430, hd⟩ := m_g_e hd
        refine x_ald hx hb hM.1 hZ hP 2 (by decide) hg430 dX7_write_87 ?_
        refine lv_bipush (v := 6) hx hb dX7_write_88 (by decide) ?_
        refine lv_icmp_ge (tgt := 97) hx hb dX7_write_90 (by decide) (fun c431 => ?_) (fun c431 => ?_)
        · have hd := m_i_t c431 hd
          refine W.widen (k := 0) (n := 0) (Nat.le_of_ble_eq_true rfl) (Nat.le_of_ble_eq_true rfl) ?_
          exact J97 u427 x2 x3 x4 x5 x6 s0 x7 _ _ _ hd hP hS (lv_sub hl [1, 3, 4, 5, 6, 7] rfl)
        · have hd := m_i_f c431 hd
          refine lv_iconst (v := 1) hx hb dX7_write_93 (by decide) ?_
          refine lv_goto (tgt := 98) hx hb dX7_write_94 (by decide) ?_
          refine W.widen (k := 0) (n := 0) (Nat.le_of_ble_eq_true rfl) (Nat.le_of_ble_eq_true rfl) ?_
          exact J98 u427 x2 x3 x4 x5 x6 1 s0 x7 _ _ _ hd hP hS (lv_sub hl [1, 3, 4, 5, 6, 7] rfl)
  have J59 : ∀ (u : xS) (x1 : Int32) (x2 : Int32) (x3 : Int32) (x4 : Int32) (x5 : Int32) (x6 : Int32) (x7 : Int32) (H : Heap) (locs : List Loc) (ls : Array Slot), f_X7_write_59 u x1 x2 x3 x4 x5 x6 x7 = some (r, u') → mP G (x_ov Z u) H → va_S (fun q => G.1 ≤ q) s.heap H locs → lv_has ls 10 [(0, .ref (Z.2.1)), (1, .int (x1)), (2, .int (x2)), (3, .int (x3)), (4, .int (x4)), (5, .int (x5)), (6, .int (x6)), (7, .int (x7))] → W p l e ({ frames := 3, cells := 0, slots := 0, locals := 62 } : Room) s m ([.ref (Z.2.1), .int (p0), .int (p1), .int (p2), .int (p3), .int (p4), .int (p5)] : List Value).toArray below meth c H locs 0 0 (MQ below (m_Qi G r (x_ov Z u')) ([.ref (Z.2.1), .int (p0), .int (p1), .int (p2), .int (p3), .int (p4), .int (p5)] : List Value).toArray s 0 0 (fun q => G.1 ≤ q)) (F0 m 59 ls []) := by
    intro u x1 x2 x3 x4 x5 x6 x7 H locs ls hd hP hS hl
    refine lv_iconst (v := 0) hx hb dX7_write_59 (by decide) ?_
    refine W.widen (k := 0) (n := 0) (Nat.le_of_ble_eq_true rfl) (Nat.le_of_ble_eq_true rfl) ?_
    exact J60 u x1 x2 x3 x4 x5 x6 x7 0 _ _ _ hd hP hS (lv_sub hl [0, 1, 2, 3, 4, 5, 6, 7] rfl)
  have J27 : ∀ (u : xS) (x1 : Int32) (x2 : Int32) (x3 : Int32) (x4 : Int32) (x5 : Int32) (x6 : Int32) (s0 : Int32) (H : Heap) (locs : List Loc) (ls : Array Slot), f_X7_write_27 u x1 x2 x3 x4 x5 x6 s0 = some (r, u') → mP G (x_ov Z u) H → va_S (fun q => G.1 ≤ q) s.heap H locs → lv_has ls 10 [(0, .ref (Z.2.1)), (1, .int (x1)), (2, .int (x2)), (3, .int (x3)), (4, .int (x4)), (5, .int (x5)), (6, .int (x6))] → W p l e ({ frames := 3, cells := 0, slots := 0, locals := 62 } : Room) s m ([.ref (Z.2.1), .int (p0), .int (p1), .int (p2), .int (p3), .int (p4), .int (p5)] : List Value).toArray below meth c H locs 0 0 (MQ below (m_Qi G r (x_ov Z u')) ([.ref (Z.2.1), .int (p0), .int (p1), .int (p2), .int (p3), .int (p4), .int (p5)] : List Value).toArray s 0 0 (fun q => G.1 ≤ q)) (F0 m 27 ls [.int (s0)]) := by
    intro u x1 x2 x3 x4 x5 x6 s0 H locs ls hd hP hS hl
    refine lv_istore (lv' := [(7, .int (s0)), (0, .ref (Z.2.1)), (1, .int (x1)), (2, .int (x2)), (3, .int (x3)), (4, .int (x4)), (5, .int (x5)), (6, .int (x6))]) hx hb dX7_write_27 hl (by decide) rfl (fun ls hl => ?_)
    refine lv_iload hx hb dX7_write_29 (lv_at hl 5 rfl) ?_
    refine lv_iconst (v := 0) hx hb dX7_write_31 (by decide) ?_
    refine lv_iconst (v := 3) hx hb dX7_write_32 (by decide) ?_
    obtain ⟨r213, u214, hc215, hd⟩ := m_b_e hd
    refine m_calli (k := 0) (n := 0) (va_runS (As := [.int (x4), .int (0), .int (3)]) (rest := []) ⟨hx, hb, hml, hown, hts⟩ (c_X7_in l G Z hZ u u214 x4 0 3 r213 hc215) (va_cwS 3 hts gX7_write_X7_in rfl rfl rfl (by decide +kernel) ⟨(Nat.le_of_ble_eq_true rfl), (Nat.le_of_ble_eq_true rfl)⟩) (m_preS hM hP hS) rfl rfl hl.1 rfl (lv_room (Nat.le_of_ble_eq_true rfl)) dX7_write_33 ⟨(Nat.le_of_ble_eq_true rfl), (Nat.le_of_ble_eq_true rfl)⟩) hS ⟨(Nat.le_of_ble_eq_true rfl), (Nat.le_of_ble_eq_true rfl)⟩ (fun H locs hP hS => ?_)
    refine lv_if_eq (tgt := 59) hx hb dX7_write_36 (by decide) (fun c216 => ?_) (fun c216 => ?_)
    · have hd := m_i_t c216 hd
      refine W.widen (k := 0) (n := 0) (Nat.le_of_ble_eq_true rfl) (Nat.le_of_ble_eq_true rfl) ?_
      exact J59 u214 x1 x2 x3 x4 x5 x6 s0 _ _ _ hd hP hS (lv_sub hl [1, 2, 3, 4, 5, 6, 7, 0] rfl)
    · have hd := m_i_f c216 hd
      refine lv_iload hx hb dX7_write_39 (lv_at hl 6 rfl) ?_
      obtain ⟨r217, u218, hc219, hd⟩ := m_b_e hd
      refine m_calli (k := 0) (n := 0) (va_runS (As := [.int (x5)]) (rest := []) ⟨hx, hb, hml, hown, hts⟩ (c_X7_isOperand l G Z hZ u214 u218 x5 r217 hc219) (va_cwS 1 hts gX7_write_X7_isOperand rfl rfl rfl (by decide +kernel) ⟨(Nat.le_of_ble_eq_true rfl), (Nat.le_of_ble_eq_true rfl)⟩) (m_preS hM hP hS) rfl rfl hl.1 rfl (lv_room (Nat.le_of_ble_eq_true rfl)) dX7_write_41 ⟨(Nat.le_of_ble_eq_true rfl), (Nat.le_of_ble_eq_true rfl)⟩) hS ⟨(Nat.le_of_ble_eq_true rfl), (Nat.le_of_ble_eq_true rfl)⟩ (fun H locs hP hS => ?_)
      refine lv_if_eq (tgt := 59) hx hb dX7_write_44 (by decide) (fun c220 => ?_) (fun c220 => ?_)
      · have hd := m_i_t c220 hd
        refine W.widen (k := 0) (n := 0) (Nat.le_of_ble_eq_true rfl) (Nat.le_of_ble_eq_true rfl) ?_
        exact J59 u218 x1 x2 x3 x4 x5 x6 s0 _ _ _ hd hP hS (lv_sub hl [1, 2, 3, 4, 5, 6, 7, 0] rfl)
      · have hd := m_i_f c220 hd
        refine lv_iload hx hb dX7_write_47 (lv_at hl 7 rfl) ?_
        obtain ⟨r221, u222, hc223, hd⟩ := m_b_e hd
        refine m_calli (k := 0) (n := 0) (va_runS (As := [.int (x6)]) (rest := []) ⟨hx, hb, hml, hown, hts⟩ (c_X7_isOperand l G Z hZ u218 u222 x6 r221 hc223) (va_cwS 1 hts gX7_write_X7_isOperand rfl rfl rfl (by decide +kernel) ⟨(Nat.le_of_ble_eq_true rfl), (Nat.le_of_ble_eq_true rfl)⟩) (m_preS hM hP hS) rfl rfl hl.1 rfl (lv_room (Nat.le_of_ble_eq_true rfl)) dX7_write_49 ⟨(Nat.le_of_ble_eq_true rfl), (Nat.le_of_ble_eq_true rfl)⟩) hS ⟨(Nat.le_of_ble_eq_true rfl), (Nat.le_of_ble_eq_true rfl)⟩ (fun H locs hP hS => ?_)
        refine lv_if_eq (tgt := 59) hx hb dX7_write_52 (by decide) (fun c224 => ?_) (fun c224 => ?_)
        · have hd := m_i_t c224 hd
          refine W.widen (k := 0) (n := 0) (Nat.le_of_ble_eq_true rfl) (Nat.le_of_ble_eq_true rfl) ?_
          exact J59 u222 x1 x2 x3 x4 x5 x6 s0 _ _ _ hd hP hS (lv_sub hl [1, 2, 3, 4, 5, 6, 7, 0] rfl)
        · have hd := m_i_f c224 hd
          refine lv_iconst (v := 1) hx hb dX7_write_55 (by decide) ?_
          refine lv_goto (tgt := 60) hx hb dX7_write_56 (by decide) ?_
          refine W.widen (k := 0) (n := 0) (Nat.le_of_ble_eq_true rfl) (Nat.le_of_ble_eq_true rfl) ?_
          exact J60 u222 x1 x2 x3 x4 x5 x6 s0 1 _ _ _ hd hP hS (lv_sub hl [1, 2, 3, 4, 5, 6, 7, 0] rfl)
  have J26 : ∀ (u : xS) (x1 : Int32) (x2 : Int32) (x3 : Int32) (x4 : Int32) (x5 : Int32) (x6 : Int32) (H : Heap) (locs : List Loc) (ls : Array Slot), f_X7_write_26 u x1 x2 x3 x4 x5 x6 = some (r, u') → mP G (x_ov Z u) H → va_S (fun q => G.1 ≤ q) s.heap H locs → lv_has ls 10 [(0, .ref (Z.2.1)), (1, .int (x1)), (2, .int (x2)), (3, .int (x3)), (4, .int (x4)), (5, .int (x5)), (6, .int (x6))] → W p l e ({ frames := 3, cells := 0, slots := 0, locals := 62 } : Room) s m ([.ref (Z.2.1), .int (p0), .int (p1), .int (p2), .int (p3), .int (p4), .int (p5)] : List Value).toArray below meth c H locs 0 0 (MQ below (m_Qi G r (x_ov Z u')) ([.ref (Z.2.1), .int (p0), .int (p1), .int (p2), .int (p3), .int (p4), .int (p5)] : List Value).toArray s 0 0 (fun q => G.1 ≤ q)) (F0 m 26 ls []) := by
    intro u x1 x2 x3 x4 x5 x6 H locs ls hd hP hS hl
    refine lv_iconst (v := 0) hx hb dX7_write_26 (by decide) ?_
    refine W.widen (k := 0) (n := 0) (Nat.le_of_ble_eq_true rfl) (Nat.le_of_ble_eq_true rfl) ?_
    exact J27 u x1 x2 x3 x4 x5 x6 0 _ _ _ hd hP hS (lv_sub hl [0, 1, 2, 3, 4, 5, 6] rfl)
  have hl := lv_entry ([.ref (Z.2.1), .int (p0), .int (p1), .int (p2), .int (p3), .int (p4), .int (p5)]) (n := 10) (Nat.le_of_ble_eq_true rfl)
  rw [lg_entry_eq]
  generalize (lg_sl ([.ref (Z.2.1), .int (p0), .int (p1), .int (p2), .int (p3), .int (p4), .int (p5)]) ++ List.replicate (10 - (lg_sl ([.ref (Z.2.1), .int (p0), .int (p1), .int (p2), .int (p3), .int (p4), .int (p5)])).length) Slot.unset).toArray = ls at hl ⊢
  have hl : lv_has ls 10 [(0, .ref (Z.2.1)), (1, .int (p0)), (2, .int (p1)), (3, .int (p2)), (4, .int (p3)), (5, .int (p4)), (6, .int (p5))] := hl
  refine lv_iload_n hx hb dX7_write_0 rfl (lv_at hl 1 rfl) ?_
  obtain ⟨r1, u2, hc3, hd⟩ := m_b_e hd
  refine m_calli (k := 0) (n := 0) (va_runS (As := [.int (p0)]) (rest := []) ⟨hx, hb, hml, hown, hts⟩ (c_X7_isUser l G Z hZ u u2 p0 r1 hc3) (va_cwS 1 hts gX7_write_X7_isUser rfl rfl rfl (by decide +kernel) ⟨(Nat.le_of_ble_eq_true rfl), (Nat.le_of_ble_eq_true rfl)⟩) (m_preS hM hP hS) rfl rfl hl.1 rfl (lv_room (Nat.le_of_ble_eq_true rfl)) dX7_write_1 ⟨(Nat.le_of_ble_eq_true rfl), (Nat.le_of_ble_eq_true rfl)⟩) hS ⟨(Nat.le_of_ble_eq_true rfl), (Nat.le_of_ble_eq_true rfl)⟩ (fun H locs hP hS => ?_)
  refine lv_if_eq (tgt := 26) hx hb dX7_write_4 (by decide) (fun c4 => ?_) (fun c4 => ?_)
  · have hd := m_i_t c4 hd
    refine W.widen (k := 0) (n := 0) (Nat.le_of_ble_eq_true rfl) (Nat.le_of_ble_eq_true rfl) ?_
    exact J26 u2 p0 p1 p2 p3 p4 p5 _ _ _ hd hP hS (lv_sub hl [0, 1, 2, 3, 4, 5, 6] rfl)
  · have hd := m_i_f c4 hd
    refine lv_aload_n hx hb dX7_write_7 rfl (lv_at hl 0 rfl) ?_
    refine lv_iload_n hx hb dX7_write_8 rfl (lv_at hl 2 rfl) ?_
    obtain ⟨r5, u6, hc7, hd⟩ := m_b_e hd
    refine m_calli (k := 0) (n := 0) (va_runV (As := [.int (p1)]) (rest := []) ⟨hx, hb, hml, hown, hts⟩ (c_X7_isCell l G Z hZ u2 u6 p1 r5 hc7) (cwV 1 hts gX7_write_X7_isCell rfl rfl rfl (by decide +kernel) ⟨(Nat.le_of_ble_eq_true rfl), (Nat.le_of_ble_eq_true rfl)⟩) (m_preV (C := RX7) (T := TX7) (N := 32) hM hP hS rfl (by decide) hZ.1) rfl rfl hl.1 rfl (lv_room (Nat.le_of_ble_eq_true rfl)) dX7_write_9 ⟨(Nat.le_of_ble_eq_true rfl), (Nat.le_of_ble_eq_true rfl)⟩) hS ⟨(Nat.le_of_ble_eq_true rfl), (Nat.le_of_ble_eq_true rfl)⟩ (fun H locs hP hS => ?_)
    refine lv_if_eq (tgt := 26) hx hb dX7_write_12 (by decide) (fun c8 => ?_) (fun c8 => ?_)
    · have hd := m_i_t c8 hd
      refine W.widen (k := 0) (n := 0) (Nat.le_of_ble_eq_true rfl) (Nat.le_of_ble_eq_true rfl) ?_
      exact J26 u6 p0 p1 p2 p3 p4 p5 _ _ _ hd hP hS (lv_sub hl [0, 1, 2, 3, 4, 5, 6] rfl)
    · have hd := m_i_f c8 hd
      refine lv_iload_n hx hb dX7_write_15 rfl (lv_at hl 3 rfl) ?_
      obtain ⟨r9, u10, hc11, hd⟩ := m_b_e hd
      refine m_calli (k := 0) (n := 0) (va_runS (As := [.int (p2)]) (rest := []) ⟨hx, hb, hml, hown, hts⟩ (c_X7_isName l G Z hZ u6 u10 p2 r9 hc11) (va_cwS 1 hts gX7_write_X7_isName rfl rfl rfl (by decide +kernel) ⟨(Nat.le_of_ble_eq_true rfl), (Nat.le_of_ble_eq_true rfl)⟩) (m_preS hM hP hS) rfl rfl hl.1 rfl (lv_room (Nat.le_of_ble_eq_true rfl)) dX7_write_16 ⟨(Nat.le_of_ble_eq_true rfl), (Nat.le_of_ble_eq_true rfl)⟩) hS ⟨(Nat.le_of_ble_eq_true rfl), (Nat.le_of_ble_eq_true rfl)⟩ (fun H locs hP hS => ?_)
      refine lv_if_eq (tgt := 26) hx hb dX7_write_19 (by decide) (fun c12 => ?_) (fun c12 => ?_)
      · have hd := m_i_t c12 hd
        refine W.widen (k := 0) (n := 0) (Nat.le_of_ble_eq_true rfl) (Nat.le_of_ble_eq_true rfl) ?_
        exact J26 u10 p0 p1 p2 p3 p4 p5 _ _ _ hd hP hS (lv_sub hl [0, 1, 2, 3, 4, 5, 6] rfl)
      · have hd := m_i_f c12 hd
        refine lv_iconst (v := 1) hx hb dX7_write_22 (by decide) ?_
        refine lv_goto (tgt := 27) hx hb dX7_write_23 (by decide) ?_
        refine W.widen (k := 0) (n := 0) (Nat.le_of_ble_eq_true rfl) (Nat.le_of_ble_eq_true rfl) ?_
        exact J27 u10 p0 p1 p2 p3 p4 p5 1 _ _ _ hd hP hS (lv_sub hl [0, 1, 2, 3, 4, 5, 6] rfl)


noncomputable def f_X7_clear_89 (u : xS) (x4 : Int32) (s0 : Int32) (s1 : Int32) : Option (Int32 × xS) := m_g (¬ (s1 < 0 ∨ 16 ≤ s1.toNatClampNeg)) <| m_l (x_sA u 7 (s1.toNatClampNeg) s0) fun u524 => some (x4, u524)
noncomputable def f_X7_clear_42 (u : xS) (x2 : Int32) (s0 : Int32) (s1 : Int32) : Option (Int32 × xS) := m_b (f_X7_goes u s1 s0 1) fun r414 u415 => if r414 = (0 : Int32) then (some (0, u415)) else (m_g (¬ (x2 < 0 ∨ 16 ≤ x2.toNatClampNeg)) <| m_g (¬ (x2 < 0 ∨ 16 ≤ x2.toNatClampNeg)) <| m_l (x_sA u415 2 (x2.toNatClampNeg) 0) fun u420 => if (u415.2 2 x2.toNatClampNeg) ≤ (0 : Int32) then (m_g (¬ (x2 < 0 ∨ 16 ≤ x2.toNatClampNeg)) <| f_X7_clear_89 u420 (u415.2 2 x2.toNatClampNeg) (u420.2 7 x2.toNatClampNeg) x2) else (f_X7_clear_89 u420 (u415.2 2 x2.toNatClampNeg) (u420.1 13) x2))
noncomputable def f_X7_clear_41 (u : xS) (x2 : Int32) (s0 : Int32) : Option (Int32 × xS) := f_X7_clear_42 u x2 0 s0
noncomputable def f_X7_clear_20 (u : xS) (x1 : Int32) (x2 : Int32) (s0 : Int32) : Option (Int32 × xS) := if s0 = (0 : Int32) then (f_X7_clear_41 u x2 s0) else (m_b (f_X7_rightOf u x1 x2) fun r210 u211 => if r210 = 3 then (f_X7_clear_42 u211 x2 1 s0) else (f_X7_clear_41 u211 x2 s0))
noncomputable def f_X7_clear_19 (u : xS) (x1 : Int32) (x2 : Int32) : Option (Int32 × xS) := f_X7_clear_20 u x1 x2 0
noncomputable def f_X7_clear (u : xS) (p0 : Int32) (p1 : Int32) : Option (Int32 × xS) := m_b (f_X7_isUser u p0) fun r1 u2 => if r1 = (0 : Int32) then (f_X7_clear_19 u2 p0 p1) else (m_b (f_X7_isCell u2 p1) fun r5 u6 => if r5 = (0 : Int32) then (f_X7_clear_19 u6 p0 p1) else (f_X7_clear_20 u6 p0 p1 1))
set_option maxHeartbeats 1000000 in
set_option maxRecDepth 100000 in
theorem c_X7_clear (l : Launch) (G : m_G) (Z : xB) (hZ : x_ok Z) (u u' : xS) (p0 : Int32) (p1 : Int32) (r : Int32) (hd : f_X7_clear u p0 p1 = some (r, u')) : Met l yX7_clear wsX7_clear ({ frames := 2, cells := 0, slots := 0, locals := 43 } : Room) (m_Pc G (x_ov Z u) [.ref (Z.2.1), .int (p0), .int (p1)]) (m_Qi G r (x_ov Z u')) 0 0 (fun q => G.1 ≤ q) := by
  refine Met.ofW (cc := cX7_clear) (maxL := 5) (ret := (some .int)) (by decide +kernel) rfl ?_
  intro p e s m args below meth c s₁ B hml hv
  obtain ⟨rfl, hM, hP⟩ := hv
  have hx := B.exec
  have hb := B.bytes
  have hr := B.returns
  have hts := atoms_spec (ws := wsX7_clear) B.pre
  have hown : s.vm.findClass RX7 = some m.cls := findClass_of_methodNamed B.named
  have hlocks := B.notSynchronized
  have hin10 : ∀ w ∈ u_ws RX7 TX7 32, w ∈ wsX7_clear := by decide +kernel
  have hS : va_S (fun q => G.1 ≤ q) s.heap s.heap [] := va_S.rf
  have J89 : ∀ (u : xS) (x4 : Int32) (s0 : Int32) (s1 : Int32) (H : Heap) (locs : List Loc) (ls : Array Slot), f_X7_clear_89 u x4 s0 s1 = some (r, u') → mP G (x_ov Z u) H → va_S (fun q => G.1 ≤ q) s.heap H locs → lv_has ls 5 [(4, .int (x4))] → W p l e ({ frames := 2, cells := 0, slots := 0, locals := 43 } : Room) s m ([.ref (Z.2.1), .int (p0), .int (p1)] : List Value).toArray below meth c H locs 0 0 (MQ below (m_Qi G r (x_ov Z u')) ([.ref (Z.2.1), .int (p0), .int (p1)] : List Value).toArray s 0 0 (fun q => G.1 ≤ q)) (F0 m 89 ls [.int (s0), .int (s1), .ref (Z.2.2.1 7)]) := by
    intro u x4 s0 s1 H locs ls hd hP hS hl
    obtain ⟨hg523, hd⟩ := m_g_e hd
    refine x_ast hx hb hM.1 hZ hP hS 7 (by decide) hg523 dX7_clear_89 (fun H locs hP hS => ?_)
    obtain ⟨u524, ew, hd⟩ := m_l_e hd
    have hP : mP G (x_ov Z u524) H := by rw [ew]; exact hP
    refine lv_iload hx hb dX7_clear_90 (lv_at hl 0 rfl) ?_
    obtain ⟨e1, e2⟩ := m_s_e hd
    have e2 := congrArg (x_ov Z) e2
    refine W.widen (k := 0) (n := 0) (Nat.le_of_ble_eq_true rfl) (Nat.le_of_ble_eq_true rfl) ?_
    exact W.iret hx hb hr (fun t ht hW => ⟨⟨_, (x_ov Z u524), rfl, ⟨e1, e2⟩, by show mP _ _ t.heap; rw [ht]; exact hP⟩, hS.F ht⟩) hS.2.2 dX7_clear_92
  have J42 : ∀ (u : xS) (x2 : Int32) (s0 : Int32) (s1 : Int32) (H : Heap) (locs : List Loc) (ls : Array Slot), f_X7_clear_42 u x2 s0 s1 = some (r, u') → mP G (x_ov Z u) H → va_S (fun q => G.1 ≤ q) s.heap H locs → lv_has ls 5 [(0, .ref (Z.2.1)), (2, .int (x2))] → W p l e ({ frames := 2, cells := 0, slots := 0, locals := 43 } : Room) s m ([.ref (Z.2.1), .int (p0), .int (p1)] : List Value).toArray below meth c H locs 0 0 (MQ below (m_Qi G r (x_ov Z u')) ([.ref (Z.2.1), .int (p0), .int (p1)] : List Value).toArray s 0 0 (fun q => G.1 ≤ q)) (F0 m 42 ls [.int (s0), .int (s1), .ref (Z.2.1)]) := by
    intro u x2 s0 s1 H locs ls hd hP hS hl
    refine lv_iconst (v := 1) hx hb dX7_clear_42 (by decide) ?_
    obtain ⟨r414, u415, hc416, hd⟩ := m_b_e hd
    refine m_calli (k := 0) (n := 0) (va_runV (As := [.int (s1), .int (s0), .int (1)]) (rest := []) ⟨hx, hb, hml, hown, hts⟩ (c_X7_goes l G Z hZ u u415 s1 s0 1 r414 hc416) (cwV 3 hts gX7_clear_X7_goes rfl rfl rfl (by decide +kernel) ⟨(Nat.le_of_ble_eq_true rfl), (Nat.le_of_ble_eq_true rfl)⟩) (m_preV (C := RX7) (T := TX7) (N := 32) hM hP hS rfl (by decide) hZ.1) rfl rfl hl.1 rfl (lv_room (Nat.le_of_ble_eq_true rfl)) dX7_clear_43 ⟨(Nat.le_of_ble_eq_true rfl), (Nat.le_of_ble_eq_true rfl)⟩) hS ⟨(Nat.le_of_ble_eq_true rfl), (Nat.le_of_ble_eq_true rfl)⟩ (fun H locs hP hS => ?_)
    refine lv_if_ne (tgt := 51) hx hb dX7_clear_46 (by decide) (fun c417 => ?_) (fun c417 => ?_)
    · have hd := m_i_f c417 hd
      refine lv_aload_n hx hb dX7_clear_51 rfl (lv_at hl 0 rfl) ?_
      refine x_getA (own := RX7) (ref := RX7) hx hb hts hin10 hown hM.1 hZ hP 2 (by decide) (hts (.fieldLink RX7 13 "CellNotebookModel" "many" "[I") (by decide +kernel)) (fun _ h9 => h9) dX7_clear_52 ?_
      refine lv_iload_n hx hb dX7_clear_55 rfl (lv_at hl 1 rfl) ?_
      obtain ⟨hg418, hd⟩ := m_g_e hd
      refine x_ald hx hb hM.1 hZ hP 2 (by decide) hg418 dX7_clear_56 ?_
      refine lv_istore (lv' := [(4, .int (u415.2 2 x2.toNatClampNeg)), (0, .ref (Z.2.1)), (2, .int (x2))]) hx hb dX7_clear_57 hl (by decide) rfl (fun ls hl => ?_)
      refine lv_aload_n hx hb dX7_clear_59 rfl (lv_at hl 1 rfl) ?_
      refine x_getA (own := RX7) (ref := RX7) hx hb hts hin10 hown hM.1 hZ hP 2 (by decide) (hts (.fieldLink RX7 13 "CellNotebookModel" "many" "[I") (by decide +kernel)) (fun _ h9 => h9) dX7_clear_60 ?_
      refine lv_iload_n hx hb dX7_clear_63 rfl (lv_at hl 2 rfl) ?_
      refine lv_iconst (v := 0) hx hb dX7_clear_64 (by decide) ?_
      obtain ⟨hg419, hd⟩ := m_g_e hd
      refine x_ast hx hb hM.1 hZ hP hS 2 (by decide) hg419 dX7_clear_65 (fun H locs hP hS => ?_)
      obtain ⟨u420, ew, hd⟩ := m_l_e hd
      have hP : mP G (x_ov Z u420) H := by rw [ew]; exact hP
      refine lv_aload_n hx hb dX7_clear_66 rfl (lv_at hl 1 rfl) ?_
      refine x_getA (own := RX7) (ref := RX7) hx hb hts hin10 hown hM.1 hZ hP 7 (by decide) (hts (.fieldLink RX7 28 "CellNotebookModel" "changed" "[I") (by decide +kernel)) (fun _ h9 => h9) dX7_clear_67 ?_
      refine lv_iload_n hx hb dX7_clear_70 rfl (lv_at hl 2 rfl) ?_
      refine lv_iload hx hb dX7_clear_71 (lv_at hl 0 rfl) ?_
      refine lv_if_le (tgt := 83) hx hb dX7_clear_73 (by decide) (fun c421 => ?_) (fun c421 => ?_)
      · have hd := m_i_t c421 hd
        refine lv_aload_n hx hb dX7_clear_83 rfl (lv_at hl 1 rfl) ?_
        refine x_getA (own := RX7) (ref := RX7) hx hb hts hin10 hown hM.1 hZ hP 7 (by decide) (hts (.fieldLink RX7 28 "CellNotebookModel" "changed" "[I") (by decide +kernel)) (fun _ h9 => h9) dX7_clear_84 ?_
        refine lv_iload_n hx hb dX7_clear_87 rfl (lv_at hl 2 rfl) ?_
        obtain ⟨hg422, hd⟩ := m_g_e hd
        refine x_ald hx hb hM.1 hZ hP 7 (by decide) hg422 dX7_clear_88 ?_
        refine W.widen (k := 0) (n := 0) (Nat.le_of_ble_eq_true rfl) (Nat.le_of_ble_eq_true rfl) ?_
        exact J89 u420 (u415.2 2 x2.toNatClampNeg) (u420.2 7 x2.toNatClampNeg) x2 _ _ _ hd hP hS (lv_sub hl [0] rfl)
      · have hd := m_i_f c421 hd
        refine lv_aload_n hx hb dX7_clear_76 rfl (lv_at hl 1 rfl) ?_
        refine x_getI (own := RX7) (ref := RX7) hx hb hts hin10 hown hM.1 hZ hP 13 (by decide) (hts (.fieldLink RX7 115 "CellNotebookModel" "runs" "I") (by decide +kernel)) (fun _ h9 => h9) dX7_clear_77 ?_
        refine lv_goto (tgt := 89) hx hb dX7_clear_80 (by decide) ?_
        refine W.widen (k := 0) (n := 0) (Nat.le_of_ble_eq_true rfl) (Nat.le_of_ble_eq_true rfl) ?_
        exact J89 u420 (u415.2 2 x2.toNatClampNeg) (u420.1 13) x2 _ _ _ hd hP hS (lv_sub hl [0] rfl)
    · have hd := m_i_t c417 hd
      refine lv_iconst (v := 0) hx hb dX7_clear_49 (by decide) ?_
      obtain ⟨e1, e2⟩ := m_s_e hd
      have e2 := congrArg (x_ov Z) e2
      refine W.widen (k := 0) (n := 0) (Nat.le_of_ble_eq_true rfl) (Nat.le_of_ble_eq_true rfl) ?_
      exact W.iret hx hb hr (fun t ht hW => ⟨⟨_, (x_ov Z u415), rfl, ⟨e1, e2⟩, by show mP _ _ t.heap; rw [ht]; exact hP⟩, hS.F ht⟩) hS.2.2 dX7_clear_50
  have J41 : ∀ (u : xS) (x2 : Int32) (s0 : Int32) (H : Heap) (locs : List Loc) (ls : Array Slot), f_X7_clear_41 u x2 s0 = some (r, u') → mP G (x_ov Z u) H → va_S (fun q => G.1 ≤ q) s.heap H locs → lv_has ls 5 [(0, .ref (Z.2.1)), (2, .int (x2))] → W p l e ({ frames := 2, cells := 0, slots := 0, locals := 43 } : Room) s m ([.ref (Z.2.1), .int (p0), .int (p1)] : List Value).toArray below meth c H locs 0 0 (MQ below (m_Qi G r (x_ov Z u')) ([.ref (Z.2.1), .int (p0), .int (p1)] : List Value).toArray s 0 0 (fun q => G.1 ≤ q)) (F0 m 41 ls [.int (s0), .ref (Z.2.1)]) := by
    intro u x2 s0 H locs ls hd hP hS hl
    refine lv_iconst (v := 0) hx hb dX7_clear_41 (by decide) ?_
    refine W.widen (k := 0) (n := 0) (Nat.le_of_ble_eq_true rfl) (Nat.le_of_ble_eq_true rfl) ?_
    exact J42 u x2 0 s0 _ _ _ hd hP hS (lv_sub hl [0, 1] rfl)
  have J20 : ∀ (u : xS) (x1 : Int32) (x2 : Int32) (s0 : Int32) (H : Heap) (locs : List Loc) (ls : Array Slot), f_X7_clear_20 u x1 x2 s0 = some (r, u') → mP G (x_ov Z u) H → va_S (fun q => G.1 ≤ q) s.heap H locs → lv_has ls 5 [(0, .ref (Z.2.1)), (1, .int (x1)), (2, .int (x2))] → W p l e ({ frames := 2, cells := 0, slots := 0, locals := 43 } : Room) s m ([.ref (Z.2.1), .int (p0), .int (p1)] : List Value).toArray below meth c H locs 0 0 (MQ below (m_Qi G r (x_ov Z u')) ([.ref (Z.2.1), .int (p0), .int (p1)] : List Value).toArray s 0 0 (fun q => G.1 ≤ q)) (F0 m 20 ls [.int (s0)]) := by
    intro u x1 x2 s0 H locs ls hd hP hS hl
    refine lv_istore_n (lv' := [(3, .int (s0)), (0, .ref (Z.2.1)), (1, .int (x1)), (2, .int (x2))]) hx hb dX7_clear_20 rfl hl (by decide) rfl (fun ls hl => ?_)
    refine lv_aload_n hx hb dX7_clear_21 rfl (lv_at hl 1 rfl) ?_
    refine lv_iload_n hx hb dX7_clear_22 rfl (lv_at hl 0 rfl) ?_
    refine lv_iload_n hx hb dX7_clear_23 rfl (lv_at hl 0 rfl) ?_
    refine lv_if_eq (tgt := 41) hx hb dX7_clear_24 (by decide) (fun c209 => ?_) (fun c209 => ?_)
    · have hd := m_i_t c209 hd
      refine W.widen (k := 0) (n := 0) (Nat.le_of_ble_eq_true rfl) (Nat.le_of_ble_eq_true rfl) ?_
      exact J41 u x2 s0 _ _ _ hd hP hS (lv_sub hl [1, 3] rfl)
    · have hd := m_i_f c209 hd
      refine lv_aload_n hx hb dX7_clear_27 rfl (lv_at hl 1 rfl) ?_
      refine lv_iload_n hx hb dX7_clear_28 rfl (lv_at hl 2 rfl) ?_
      refine lv_iload_n hx hb dX7_clear_29 rfl (lv_at hl 3 rfl) ?_
      obtain ⟨r210, u211, hc212, hd⟩ := m_b_e hd
      refine m_calli (k := 0) (n := 0) (va_runV (As := [.int (x1), .int (x2)]) (rest := [.int (s0), .ref (Z.2.1)]) ⟨hx, hb, hml, hown, hts⟩ (c_X7_rightOf l G Z hZ u u211 x1 x2 r210 hc212) (cwV 2 hts gX7_clear_X7_rightOf rfl rfl rfl (by decide +kernel) ⟨(Nat.le_of_ble_eq_true rfl), (Nat.le_of_ble_eq_true rfl)⟩) (m_preV (C := RX7) (T := TX7) (N := 32) hM hP hS rfl (by decide) hZ.1) rfl rfl hl.1 rfl (lv_room (Nat.le_of_ble_eq_true rfl)) dX7_clear_30 ⟨(Nat.le_of_ble_eq_true rfl), (Nat.le_of_ble_eq_true rfl)⟩) hS ⟨(Nat.le_of_ble_eq_true rfl), (Nat.le_of_ble_eq_true rfl)⟩ (fun H locs hP hS => ?_)
      refine lv_iconst (v := 3) hx hb dX7_clear_33 (by decide) ?_
      refine lv_icmp_ne (tgt := 41) hx hb dX7_clear_34 (by decide) (fun c213 => ?_) (fun c213 => ?_)
      · have hd := m_i_f c213 hd
        refine W.widen (k := 0) (n := 0) (Nat.le_of_ble_eq_true rfl) (Nat.le_of_ble_eq_true rfl) ?_
        exact J41 u211 x2 s0 _ _ _ hd hP hS (lv_sub hl [1, 3] rfl)
      · have hd := m_i_t c213 hd
        refine lv_iconst (v := 1) hx hb dX7_clear_37 (by decide) ?_
        refine lv_goto (tgt := 42) hx hb dX7_clear_38 (by decide) ?_
        refine W.widen (k := 0) (n := 0) (Nat.le_of_ble_eq_true rfl) (Nat.le_of_ble_eq_true rfl) ?_
        exact J42 u211 x2 1 s0 _ _ _ hd hP hS (lv_sub hl [1, 3] rfl)
  have J19 : ∀ (u : xS) (x1 : Int32) (x2 : Int32) (H : Heap) (locs : List Loc) (ls : Array Slot), f_X7_clear_19 u x1 x2 = some (r, u') → mP G (x_ov Z u) H → va_S (fun q => G.1 ≤ q) s.heap H locs → lv_has ls 5 [(0, .ref (Z.2.1)), (1, .int (x1)), (2, .int (x2))] → W p l e ({ frames := 2, cells := 0, slots := 0, locals := 43 } : Room) s m ([.ref (Z.2.1), .int (p0), .int (p1)] : List Value).toArray below meth c H locs 0 0 (MQ below (m_Qi G r (x_ov Z u')) ([.ref (Z.2.1), .int (p0), .int (p1)] : List Value).toArray s 0 0 (fun q => G.1 ≤ q)) (F0 m 19 ls []) := by
    intro u x1 x2 H locs ls hd hP hS hl
    refine lv_iconst (v := 0) hx hb dX7_clear_19 (by decide) ?_
    refine W.widen (k := 0) (n := 0) (Nat.le_of_ble_eq_true rfl) (Nat.le_of_ble_eq_true rfl) ?_
    exact J20 u x1 x2 0 _ _ _ hd hP hS (lv_sub hl [0, 1, 2] rfl)
  have hl := lv_entry ([.ref (Z.2.1), .int (p0), .int (p1)]) (n := 5) (Nat.le_of_ble_eq_true rfl)
  rw [lg_entry_eq]
  generalize (lg_sl ([.ref (Z.2.1), .int (p0), .int (p1)]) ++ List.replicate (5 - (lg_sl ([.ref (Z.2.1), .int (p0), .int (p1)])).length) Slot.unset).toArray = ls at hl ⊢
  have hl : lv_has ls 5 [(0, .ref (Z.2.1)), (1, .int (p0)), (2, .int (p1))] := hl
  refine lv_iload_n hx hb dX7_clear_0 rfl (lv_at hl 1 rfl) ?_
  obtain ⟨r1, u2, hc3, hd⟩ := m_b_e hd
  refine m_calli (k := 0) (n := 0) (va_runS (As := [.int (p0)]) (rest := []) ⟨hx, hb, hml, hown, hts⟩ (c_X7_isUser l G Z hZ u u2 p0 r1 hc3) (va_cwS 1 hts gX7_clear_X7_isUser rfl rfl rfl (by decide +kernel) ⟨(Nat.le_of_ble_eq_true rfl), (Nat.le_of_ble_eq_true rfl)⟩) (m_preS hM hP hS) rfl rfl hl.1 rfl (lv_room (Nat.le_of_ble_eq_true rfl)) dX7_clear_1 ⟨(Nat.le_of_ble_eq_true rfl), (Nat.le_of_ble_eq_true rfl)⟩) hS ⟨(Nat.le_of_ble_eq_true rfl), (Nat.le_of_ble_eq_true rfl)⟩ (fun H locs hP hS => ?_)
  refine lv_if_eq (tgt := 19) hx hb dX7_clear_4 (by decide) (fun c4 => ?_) (fun c4 => ?_)
  · have hd := m_i_t c4 hd
    refine W.widen (k := 0) (n := 0) (Nat.le_of_ble_eq_true rfl) (Nat.le_of_ble_eq_true rfl) ?_
    exact J19 u2 p0 p1 _ _ _ hd hP hS (lv_sub hl [0, 1, 2] rfl)
  · have hd := m_i_f c4 hd
    refine lv_aload_n hx hb dX7_clear_7 rfl (lv_at hl 0 rfl) ?_
    refine lv_iload_n hx hb dX7_clear_8 rfl (lv_at hl 2 rfl) ?_
    obtain ⟨r5, u6, hc7, hd⟩ := m_b_e hd
    refine m_calli (k := 0) (n := 0) (va_runV (As := [.int (p1)]) (rest := []) ⟨hx, hb, hml, hown, hts⟩ (c_X7_isCell l G Z hZ u2 u6 p1 r5 hc7) (cwV 1 hts gX7_clear_X7_isCell rfl rfl rfl (by decide +kernel) ⟨(Nat.le_of_ble_eq_true rfl), (Nat.le_of_ble_eq_true rfl)⟩) (m_preV (C := RX7) (T := TX7) (N := 32) hM hP hS rfl (by decide) hZ.1) rfl rfl hl.1 rfl (lv_room (Nat.le_of_ble_eq_true rfl)) dX7_clear_9 ⟨(Nat.le_of_ble_eq_true rfl), (Nat.le_of_ble_eq_true rfl)⟩) hS ⟨(Nat.le_of_ble_eq_true rfl), (Nat.le_of_ble_eq_true rfl)⟩ (fun H locs hP hS => ?_)
    refine lv_if_eq (tgt := 19) hx hb dX7_clear_12 (by decide) (fun c8 => ?_) (fun c8 => ?_)
    · have hd := m_i_t c8 hd
      refine W.widen (k := 0) (n := 0) (Nat.le_of_ble_eq_true rfl) (Nat.le_of_ble_eq_true rfl) ?_
      exact J19 u6 p0 p1 _ _ _ hd hP hS (lv_sub hl [0, 1, 2] rfl)
    · have hd := m_i_f c8 hd
      refine lv_iconst (v := 1) hx hb dX7_clear_15 (by decide) ?_
      refine lv_goto (tgt := 20) hx hb dX7_clear_16 (by decide) ?_
      refine W.widen (k := 0) (n := 0) (Nat.le_of_ble_eq_true rfl) (Nat.le_of_ble_eq_true rfl) ?_
      exact J20 u6 p0 p1 1 _ _ _ hd hP hS (lv_sub hl [0, 1, 2] rfl)


noncomputable def f_X7_move_90_b (k90 : xS → Int32 → Int32 → Int32 → Int32 → Option (Int32 × xS)) (u : xS) (x1 : Int32) (x2 : Int32) (x3 : Int32) (x4 : Int32) : Option (Int32 × xS) := if x4 ≤ x2 then (m_g (¬ (x2 < 0 ∨ 16 ≤ x2.toNatClampNeg)) <| m_l (x_sA u 1 (x2.toNatClampNeg) x1) fun u521 => some (x3, u521)) else (m_g (¬ ((x4 - 1) < 0 ∨ 16 ≤ (x4 - 1).toNatClampNeg)) <| m_g (¬ (x4 < 0 ∨ 16 ≤ x4.toNatClampNeg)) <| m_l (x_sA u 1 (x4.toNatClampNeg) (u.2 1 (x4 - 1).toNatClampNeg)) fun u524 => k90 u524 x1 x2 x3 (x4 + (-1)))
noncomputable def f_X7_move_90 (n : Nat) : xS → Int32 → Int32 → Int32 → Int32 → Option (Int32 × xS) := Nat.rec (motive := fun _ => xS → Int32 → Int32 → Int32 → Int32 → Option (Int32 × xS)) (fun _ _ _ _ _ => none) (fun _ k => f_X7_move_90_b  k) n
noncomputable def f_X7_move_59_b (k59 : xS → Int32 → Int32 → Int32 → Int32 → Option (Int32 × xS)) (u : xS) (x1 : Int32) (x2 : Int32) (x3 : Int32) (x4 : Int32) : Option (Int32 × xS) := if x2 ≤ x4 then (f_X7_move_90 m_N u x1 x2 x3 x3) else (m_g (¬ ((x4 + 1) < 0 ∨ 16 ≤ (x4 + 1).toNatClampNeg)) <| m_g (¬ (x4 < 0 ∨ 16 ≤ x4.toNatClampNeg)) <| m_l (x_sA u 1 (x4.toNatClampNeg) (u.2 1 (x4 + 1).toNatClampNeg)) fun u418 => k59 u418 x1 x2 x3 (x4 + 1))
noncomputable def f_X7_move_59 (n : Nat) : xS → Int32 → Int32 → Int32 → Int32 → Option (Int32 × xS) := Nat.rec (motive := fun _ => xS → Int32 → Int32 → Int32 → Int32 → Option (Int32 × xS)) (fun _ _ _ _ _ => none) (fun _ k => f_X7_move_59_b  k) n
noncomputable def f_X7_move_40_b (k40 : xS → Int32 → Int32 → Int32 → Option (Int32 × xS)) (u : xS) (x1 : Int32) (x2 : Int32) (x3 : Int32) : Option (Int32 × xS) := m_g (¬ (x3 < 0 ∨ 16 ≤ x3.toNatClampNeg)) <| if (u.2 1 x3.toNatClampNeg) = x1 then (f_X7_move_59 m_N u x1 x2 x3 x3) else (k40 u x1 x2 (x3 + 1))
noncomputable def f_X7_move_40 (n : Nat) : xS → Int32 → Int32 → Int32 → Option (Int32 × xS) := Nat.rec (motive := fun _ => xS → Int32 → Int32 → Int32 → Option (Int32 × xS)) (fun _ _ _ _ => none) (fun _ k => f_X7_move_40_b  k) n
noncomputable def f_X7_move_28 (u : xS) (x1 : Int32) (x2 : Int32) (s0 : Int32) : Option (Int32 × xS) := m_b (f_X7_goes u s0 1 1) fun r209 u210 => if r209 = (0 : Int32) then (some (0, u210)) else (f_X7_move_40 m_N u210 x1 x2 0)
noncomputable def f_X7_move_27 (u : xS) (x1 : Int32) (x2 : Int32) : Option (Int32 × xS) := f_X7_move_28 u x1 x2 0
noncomputable def f_X7_move (u : xS) (p0 : Int32) (p1 : Int32) : Option (Int32 × xS) := m_b (f_X7_isCell u p0) fun r1 u2 => if r1 = (0 : Int32) then (f_X7_move_27 u2 p0 p1) else (m_b (f_X7_in u2 p1 0 ((u2.1 0) - 1)) fun r5 u6 => if r5 = (0 : Int32) then (f_X7_move_27 u6 p0 p1) else (f_X7_move_28 u6 p0 p1 1))
set_option maxHeartbeats 1000000 in
set_option maxRecDepth 100000 in
theorem c_X7_move (l : Launch) (G : m_G) (Z : xB) (hZ : x_ok Z) (u u' : xS) (p0 : Int32) (p1 : Int32) (r : Int32) (hd : f_X7_move u p0 p1 = some (r, u')) : Met l yX7_move wsX7_move ({ frames := 2, cells := 0, slots := 0, locals := 43 } : Room) (m_Pc G (x_ov Z u) [.ref (Z.2.1), .int (p0), .int (p1)]) (m_Qi G r (x_ov Z u')) 0 0 (fun q => G.1 ≤ q) := by
  refine Met.ofW (cc := cX7_move) (maxL := 5) (ret := (some .int)) (by decide +kernel) rfl ?_
  intro p e s m args below meth c s₁ B hml hv
  obtain ⟨rfl, hM, hP⟩ := hv
  have hx := B.exec
  have hb := B.bytes
  have hr := B.returns
  have hts := atoms_spec (ws := wsX7_move) B.pre
  have hown : s.vm.findClass RX7 = some m.cls := findClass_of_methodNamed B.named
  have hlocks := B.notSynchronized
  have hin10 : ∀ w ∈ u_ws RX7 TX7 32, w ∈ wsX7_move := by decide +kernel
  have hS : va_S (fun q => G.1 ≤ q) s.heap s.heap [] := va_S.rf
  have J90 : ∀ (n90 : Nat) (u : xS) (x1 : Int32) (x2 : Int32) (x3 : Int32) (x4 : Int32) (H : Heap) (locs : List Loc) (ls : Array Slot), f_X7_move_90 n90 u x1 x2 x3 x4 = some (r, u') → mP G (x_ov Z u) H → va_S (fun q => G.1 ≤ q) s.heap H locs → lv_has ls 5 [(0, .ref (Z.2.1)), (1, .int (x1)), (2, .int (x2)), (3, .int (x3)), (4, .int (x4))] → W p l e ({ frames := 2, cells := 0, slots := 0, locals := 43 } : Room) s m ([.ref (Z.2.1), .int (p0), .int (p1)] : List Value).toArray below meth c H locs 0 0 (MQ below (m_Qi G r (x_ov Z u')) ([.ref (Z.2.1), .int (p0), .int (p1)] : List Value).toArray s 0 0 (fun q => G.1 ≤ q)) (F0 m 90 ls []) := by
    intro n90
    induction n90 with
    | zero => intro u x1 x2 x3 x4 H locs ls hd; exact absurd (show (none : Option (Int32 × xS)) = some _ from hd) (fun h => nomatch h)
    | succ n90 ih90 =>
      intro u x1 x2 x3 x4 H locs ls hd hP hS hl
      have hd : f_X7_move_90_b (f_X7_move_90 n90) u x1 x2 x3 x4 = some (r, u') := hd
      refine lv_iload hx hb dX7_move_90 (lv_at hl 4 rfl) ?_
      refine lv_iload_n hx hb dX7_move_92 rfl (lv_at hl 2 rfl) ?_
      refine lv_icmp_le (tgt := 118) hx hb dX7_move_93 (by decide) (fun c519 => ?_) (fun c519 => ?_)
      · have hd := m_i_t c519 hd
        refine lv_aload_n hx hb dX7_move_118 rfl (lv_at hl 0 rfl) ?_
        refine x_getA (own := RX7) (ref := RX7) hx hb hts hin10 hown hM.1 hZ hP 1 (by decide) (hts (.fieldLink RX7 7 "CellNotebookModel" "order" "[I") (by decide +kernel)) (fun _ h9 => h9) dX7_move_119 ?_
        refine lv_iload_n hx hb dX7_move_122 rfl (lv_at hl 2 rfl) ?_
        refine lv_iload_n hx hb dX7_move_123 rfl (lv_at hl 1 rfl) ?_
        obtain ⟨hg520, hd⟩ := m_g_e hd
        refine x_ast hx hb hM.1 hZ hP hS 1 (by decide) hg520 dX7_move_124 (fun H locs hP hS => ?_)
        obtain ⟨u521, ew, hd⟩ := m_l_e hd
        have hP : mP G (x_ov Z u521) H := by rw [ew]; exact hP
        refine lv_iload_n hx hb dX7_move_125 rfl (lv_at hl 3 rfl) ?_
        obtain ⟨e1, e2⟩ := m_s_e hd
        have e2 := congrArg (x_ov Z) e2
        refine W.widen (k := 0) (n := 0) (Nat.le_of_ble_eq_true rfl) (Nat.le_of_ble_eq_true rfl) ?_
        exact W.iret hx hb hr (fun t ht hW => ⟨⟨_, (x_ov Z u521), rfl, ⟨e1, e2⟩, by show mP _ _ t.heap; rw [ht]; exact hP⟩, hS.F ht⟩) hS.2.2 dX7_move_126
      · have hd := m_i_f c519 hd
        refine lv_aload_n hx hb dX7_move_96 rfl (lv_at hl 0 rfl) ?_
        refine x_getA (own := RX7) (ref := RX7) hx hb hts hin10 hown hM.1 hZ hP 1 (by decide) (hts (.fieldLink RX7 7 "CellNotebookModel" "order" "[I") (by decide +kernel)) (fun _ h9 => h9) dX7_move_97 ?_
        refine lv_iload hx hb dX7_move_100 (lv_at hl 4 rfl) ?_
        refine lv_aload_n hx hb dX7_move_102 rfl (lv_at hl 0 rfl) ?_
        refine x_getA (own := RX7) (ref := RX7) hx hb hts hin10 hown hM.1 hZ hP 1 (by decide) (hts (.fieldLink RX7 7 "CellNotebookModel" "order" "[I") (by decide +kernel)) (fun _ h9 => h9) dX7_move_103 ?_
        refine lv_iload hx hb dX7_move_106 (lv_at hl 4 rfl) ?_
        refine lv_iconst (v := 1) hx hb dX7_move_108 (by decide) ?_
        refine lv_isub hx hb dX7_move_109 ?_
        obtain ⟨hg522, hd⟩ := m_g_e hd
        refine x_ald hx hb hM.1 hZ hP 1 (by decide) hg522 dX7_move_110 ?_
        obtain ⟨hg523, hd⟩ := m_g_e hd
        refine x_ast hx hb hM.1 hZ hP hS 1 (by decide) hg523 dX7_move_111 (fun H locs hP hS => ?_)
        obtain ⟨u524, ew, hd⟩ := m_l_e hd
        have hP : mP G (x_ov Z u524) H := by rw [ew]; exact hP
        refine lv_iinc (v := x4 + (-1)) (lv' := [(4, .int (x4 + (-1))), (0, .ref (Z.2.1)), (1, .int (x1)), (2, .int (x2)), (3, .int (x3))]) hx hb dX7_move_112 hl (k := 4) rfl rfl (by decide) rfl (fun ls hl => ?_)
        refine lv_goto (tgt := 90) hx hb dX7_move_115 (by decide) ?_
        refine W.widen (k := 0) (n := 0) (Nat.le_of_ble_eq_true rfl) (Nat.le_of_ble_eq_true rfl) ?_
        exact ih90 u524 x1 x2 x3 (x4 + (-1)) _ _ _ hd hP hS (lv_sub hl [1, 2, 3, 4, 0] rfl)
  have J59 : ∀ (n59 : Nat) (u : xS) (x1 : Int32) (x2 : Int32) (x3 : Int32) (x4 : Int32) (H : Heap) (locs : List Loc) (ls : Array Slot), f_X7_move_59 n59 u x1 x2 x3 x4 = some (r, u') → mP G (x_ov Z u) H → va_S (fun q => G.1 ≤ q) s.heap H locs → lv_has ls 5 [(0, .ref (Z.2.1)), (1, .int (x1)), (2, .int (x2)), (3, .int (x3)), (4, .int (x4))] → W p l e ({ frames := 2, cells := 0, slots := 0, locals := 43 } : Room) s m ([.ref (Z.2.1), .int (p0), .int (p1)] : List Value).toArray below meth c H locs 0 0 (MQ below (m_Qi G r (x_ov Z u')) ([.ref (Z.2.1), .int (p0), .int (p1)] : List Value).toArray s 0 0 (fun q => G.1 ≤ q)) (F0 m 59 ls []) := by
    intro n59
    induction n59 with
    | zero => intro u x1 x2 x3 x4 H locs ls hd; exact absurd (show (none : Option (Int32 × xS)) = some _ from hd) (fun h => nomatch h)
    | succ n59 ih59 =>
      intro u x1 x2 x3 x4 H locs ls hd hP hS hl
      have hd : f_X7_move_59_b (f_X7_move_59 n59) u x1 x2 x3 x4 = some (r, u') := hd
      refine lv_iload hx hb dX7_move_59 (lv_at hl 4 rfl) ?_
      refine lv_iload_n hx hb dX7_move_61 rfl (lv_at hl 2 rfl) ?_
      refine lv_icmp_ge (tgt := 87) hx hb dX7_move_62 (by decide) (fun c415 => ?_) (fun c415 => ?_)
      · have hd := m_i_t c415 hd
        refine lv_iload_n hx hb dX7_move_87 rfl (lv_at hl 3 rfl) ?_
        refine lv_istore (lv' := [(4, .int (x3)), (0, .ref (Z.2.1)), (1, .int (x1)), (2, .int (x2)), (3, .int (x3))]) hx hb dX7_move_88 hl (by decide) rfl (fun ls hl => ?_)
        refine W.widen (k := 0) (n := 0) (Nat.le_of_ble_eq_true rfl) (Nat.le_of_ble_eq_true rfl) ?_
        exact J90 m_N u x1 x2 x3 x3 _ _ _ hd hP hS (lv_sub hl [1, 2, 3, 4, 0] rfl)
      · have hd := m_i_f c415 hd
        refine lv_aload_n hx hb dX7_move_65 rfl (lv_at hl 0 rfl) ?_
        refine x_getA (own := RX7) (ref := RX7) hx hb hts hin10 hown hM.1 hZ hP 1 (by decide) (hts (.fieldLink RX7 7 "CellNotebookModel" "order" "[I") (by decide +kernel)) (fun _ h9 => h9) dX7_move_66 ?_
        refine lv_iload hx hb dX7_move_69 (lv_at hl 4 rfl) ?_
        refine lv_aload_n hx hb dX7_move_71 rfl (lv_at hl 0 rfl) ?_
        refine x_getA (own := RX7) (ref := RX7) hx hb hts hin10 hown hM.1 hZ hP 1 (by decide) (hts (.fieldLink RX7 7 "CellNotebookModel" "order" "[I") (by decide +kernel)) (fun _ h9 => h9) dX7_move_72 ?_
        refine lv_iload hx hb dX7_move_75 (lv_at hl 4 rfl) ?_
        refine lv_iconst (v := 1) hx hb dX7_move_77 (by decide) ?_
        refine lv_iadd hx hb dX7_move_78 ?_
        obtain ⟨hg416, hd⟩ := m_g_e hd
        refine x_ald hx hb hM.1 hZ hP 1 (by decide) hg416 dX7_move_79 ?_
        obtain ⟨hg417, hd⟩ := m_g_e hd
        refine x_ast hx hb hM.1 hZ hP hS 1 (by decide) hg417 dX7_move_80 (fun H locs hP hS => ?_)
        obtain ⟨u418, ew, hd⟩ := m_l_e hd
        have hP : mP G (x_ov Z u418) H := by rw [ew]; exact hP
        refine lv_iinc (v := x4 + 1) (lv' := [(4, .int (x4 + 1)), (0, .ref (Z.2.1)), (1, .int (x1)), (2, .int (x2)), (3, .int (x3))]) hx hb dX7_move_81 hl (k := 4) rfl rfl (by decide) rfl (fun ls hl => ?_)
        refine lv_goto (tgt := 59) hx hb dX7_move_84 (by decide) ?_
        refine W.widen (k := 0) (n := 0) (Nat.le_of_ble_eq_true rfl) (Nat.le_of_ble_eq_true rfl) ?_
        exact ih59 u418 x1 x2 x3 (x4 + 1) _ _ _ hd hP hS (lv_sub hl [1, 2, 3, 4, 0] rfl)
  have J40 : ∀ (n40 : Nat) (u : xS) (x1 : Int32) (x2 : Int32) (x3 : Int32) (H : Heap) (locs : List Loc) (ls : Array Slot), f_X7_move_40 n40 u x1 x2 x3 = some (r, u') → mP G (x_ov Z u) H → va_S (fun q => G.1 ≤ q) s.heap H locs → lv_has ls 5 [(0, .ref (Z.2.1)), (1, .int (x1)), (2, .int (x2)), (3, .int (x3))] → W p l e ({ frames := 2, cells := 0, slots := 0, locals := 43 } : Room) s m ([.ref (Z.2.1), .int (p0), .int (p1)] : List Value).toArray below meth c H locs 0 0 (MQ below (m_Qi G r (x_ov Z u')) ([.ref (Z.2.1), .int (p0), .int (p1)] : List Value).toArray s 0 0 (fun q => G.1 ≤ q)) (F0 m 40 ls []) := by
    intro n40
    induction n40 with
    | zero => intro u x1 x2 x3 H locs ls hd; exact absurd (show (none : Option (Int32 × xS)) = some _ from hd) (fun h => nomatch h)
    | succ n40 ih40 =>
      intro u x1 x2 x3 H locs ls hd hP hS hl
      have hd : f_X7_move_40_b (f_X7_move_40 n40) u x1 x2 x3 = some (r, u') := hd
      refine lv_aload_n hx hb dX7_move_40 rfl (lv_at hl 0 rfl) ?_
      refine x_getA (own := RX7) (ref := RX7) hx hb hts hin10 hown hM.1 hZ hP 1 (by decide) (hts (.fieldLink RX7 7 "CellNotebookModel" "order" "[I") (by decide +kernel)) (fun _ h9 => h9) dX7_move_41 ?_
      refine lv_iload_n hx hb dX7_move_44 rfl (lv_at hl 3 rfl) ?_
      obtain ⟨hg313, hd⟩ := m_g_e hd
      refine x_ald hx hb hM.1 hZ hP 1 (by decide) hg313 dX7_move_45 ?_
      refine lv_iload_n hx hb dX7_move_46 rfl (lv_at hl 1 rfl) ?_
      refine lv_icmp_eq (tgt := 56) hx hb dX7_move_47 (by decide) (fun c314 => ?_) (fun c314 => ?_)
      · have hd := m_i_t c314 hd
        refine lv_iload_n hx hb dX7_move_56 rfl (lv_at hl 3 rfl) ?_
        refine lv_istore (lv' := [(4, .int (x3)), (0, .ref (Z.2.1)), (1, .int (x1)), (2, .int (x2)), (3, .int (x3))]) hx hb dX7_move_57 hl (by decide) rfl (fun ls hl => ?_)
        refine W.widen (k := 0) (n := 0) (Nat.le_of_ble_eq_true rfl) (Nat.le_of_ble_eq_true rfl) ?_
        exact J59 m_N u x1 x2 x3 x3 _ _ _ hd hP hS (lv_sub hl [1, 2, 3, 4, 0] rfl)
      · have hd := m_i_f c314 hd
        refine lv_iinc (v := x3 + 1) (lv' := [(3, .int (x3 + 1)), (0, .ref (Z.2.1)), (1, .int (x1)), (2, .int (x2))]) hx hb dX7_move_50 hl (k := 3) rfl rfl (by decide) rfl (fun ls hl => ?_)
        refine lv_goto (tgt := 40) hx hb dX7_move_53 (by decide) ?_
        refine W.widen (k := 0) (n := 0) (Nat.le_of_ble_eq_true rfl) (Nat.le_of_ble_eq_true rfl) ?_
        exact ih40 u x1 x2 (x3 + 1) _ _ _ hd hP hS (lv_sub hl [1, 2, 3, 0] rfl)
  have J28 : ∀ (u : xS) (x1 : Int32) (x2 : Int32) (s0 : Int32) (H : Heap) (locs : List Loc) (ls : Array Slot), f_X7_move_28 u x1 x2 s0 = some (r, u') → mP G (x_ov Z u) H → va_S (fun q => G.1 ≤ q) s.heap H locs → lv_has ls 5 [(0, .ref (Z.2.1)), (1, .int (x1)), (2, .int (x2))] → W p l e ({ frames := 2, cells := 0, slots := 0, locals := 43 } : Room) s m ([.ref (Z.2.1), .int (p0), .int (p1)] : List Value).toArray below meth c H locs 0 0 (MQ below (m_Qi G r (x_ov Z u')) ([.ref (Z.2.1), .int (p0), .int (p1)] : List Value).toArray s 0 0 (fun q => G.1 ≤ q)) (F0 m 28 ls [.int (s0), .ref (Z.2.1)]) := by
    intro u x1 x2 s0 H locs ls hd hP hS hl
    refine lv_iconst (v := 1) hx hb dX7_move_28 (by decide) ?_
    refine lv_iconst (v := 1) hx hb dX7_move_29 (by decide) ?_
    obtain ⟨r209, u210, hc211, hd⟩ := m_b_e hd
    refine m_calli (k := 0) (n := 0) (va_runV (As := [.int (s0), .int (1), .int (1)]) (rest := []) ⟨hx, hb, hml, hown, hts⟩ (c_X7_goes l G Z hZ u u210 s0 1 1 r209 hc211) (cwV 3 hts gX7_move_X7_goes rfl rfl rfl (by decide +kernel) ⟨(Nat.le_of_ble_eq_true rfl), (Nat.le_of_ble_eq_true rfl)⟩) (m_preV (C := RX7) (T := TX7) (N := 32) hM hP hS rfl (by decide) hZ.1) rfl rfl hl.1 rfl (lv_room (Nat.le_of_ble_eq_true rfl)) dX7_move_30 ⟨(Nat.le_of_ble_eq_true rfl), (Nat.le_of_ble_eq_true rfl)⟩) hS ⟨(Nat.le_of_ble_eq_true rfl), (Nat.le_of_ble_eq_true rfl)⟩ (fun H locs hP hS => ?_)
    refine lv_if_ne (tgt := 38) hx hb dX7_move_33 (by decide) (fun c212 => ?_) (fun c212 => ?_)
    · have hd := m_i_f c212 hd
      refine lv_iconst (v := 0) hx hb dX7_move_38 (by decide) ?_
      refine lv_istore_n (lv' := [(3, .int (0)), (0, .ref (Z.2.1)), (1, .int (x1)), (2, .int (x2))]) hx hb dX7_move_39 rfl hl (by decide) rfl (fun ls hl => ?_)
      refine W.widen (k := 0) (n := 0) (Nat.le_of_ble_eq_true rfl) (Nat.le_of_ble_eq_true rfl) ?_
      exact J40 m_N u210 x1 x2 0 _ _ _ hd hP hS (lv_sub hl [1, 2, 3, 0] rfl)
    · have hd := m_i_t c212 hd
      refine lv_iconst (v := 0) hx hb dX7_move_36 (by decide) ?_
      obtain ⟨e1, e2⟩ := m_s_e hd
      have e2 := congrArg (x_ov Z) e2
      refine W.widen (k := 0) (n := 0) (Nat.le_of_ble_eq_true rfl) (Nat.le_of_ble_eq_true rfl) ?_
      exact W.iret hx hb hr (fun t ht hW => ⟨⟨_, (x_ov Z u210), rfl, ⟨e1, e2⟩, by show mP _ _ t.heap; rw [ht]; exact hP⟩, hS.F ht⟩) hS.2.2 dX7_move_37
  have J27 : ∀ (u : xS) (x1 : Int32) (x2 : Int32) (H : Heap) (locs : List Loc) (ls : Array Slot), f_X7_move_27 u x1 x2 = some (r, u') → mP G (x_ov Z u) H → va_S (fun q => G.1 ≤ q) s.heap H locs → lv_has ls 5 [(0, .ref (Z.2.1)), (1, .int (x1)), (2, .int (x2))] → W p l e ({ frames := 2, cells := 0, slots := 0, locals := 43 } : Room) s m ([.ref (Z.2.1), .int (p0), .int (p1)] : List Value).toArray below meth c H locs 0 0 (MQ below (m_Qi G r (x_ov Z u')) ([.ref (Z.2.1), .int (p0), .int (p1)] : List Value).toArray s 0 0 (fun q => G.1 ≤ q)) (F0 m 27 ls [.ref (Z.2.1)]) := by
    intro u x1 x2 H locs ls hd hP hS hl
    refine lv_iconst (v := 0) hx hb dX7_move_27 (by decide) ?_
    refine W.widen (k := 0) (n := 0) (Nat.le_of_ble_eq_true rfl) (Nat.le_of_ble_eq_true rfl) ?_
    exact J28 u x1 x2 0 _ _ _ hd hP hS (lv_sub hl [0, 1, 2] rfl)
  have hl := lv_entry ([.ref (Z.2.1), .int (p0), .int (p1)]) (n := 5) (Nat.le_of_ble_eq_true rfl)
  rw [lg_entry_eq]
  generalize (lg_sl ([.ref (Z.2.1), .int (p0), .int (p1)]) ++ List.replicate (5 - (lg_sl ([.ref (Z.2.1), .int (p0), .int (p1)])).length) Slot.unset).toArray = ls at hl ⊢
  have hl : lv_has ls 5 [(0, .ref (Z.2.1)), (1, .int (p0)), (2, .int (p1))] := hl
  refine lv_aload_n hx hb dX7_move_0 rfl (lv_at hl 0 rfl) ?_
  refine lv_aload_n hx hb dX7_move_1 rfl (lv_at hl 0 rfl) ?_
  refine lv_iload_n hx hb dX7_move_2 rfl (lv_at hl 1 rfl) ?_
  obtain ⟨r1, u2, hc3, hd⟩ := m_b_e hd
  refine m_calli (k := 0) (n := 0) (va_runV (As := [.int (p0)]) (rest := [.ref (Z.2.1)]) ⟨hx, hb, hml, hown, hts⟩ (c_X7_isCell l G Z hZ u u2 p0 r1 hc3) (cwV 1 hts gX7_move_X7_isCell rfl rfl rfl (by decide +kernel) ⟨(Nat.le_of_ble_eq_true rfl), (Nat.le_of_ble_eq_true rfl)⟩) (m_preV (C := RX7) (T := TX7) (N := 32) hM hP hS rfl (by decide) hZ.1) rfl rfl hl.1 rfl (lv_room (Nat.le_of_ble_eq_true rfl)) dX7_move_3 ⟨(Nat.le_of_ble_eq_true rfl), (Nat.le_of_ble_eq_true rfl)⟩) hS ⟨(Nat.le_of_ble_eq_true rfl), (Nat.le_of_ble_eq_true rfl)⟩ (fun H locs hP hS => ?_)
  refine lv_if_eq (tgt := 27) hx hb dX7_move_6 (by decide) (fun c4 => ?_) (fun c4 => ?_)
  · have hd := m_i_t c4 hd
    refine W.widen (k := 0) (n := 0) (Nat.le_of_ble_eq_true rfl) (Nat.le_of_ble_eq_true rfl) ?_
    exact J27 u2 p0 p1 _ _ _ hd hP hS (lv_sub hl [0, 1, 2] rfl)
  · have hd := m_i_f c4 hd
    refine lv_iload_n hx hb dX7_move_9 rfl (lv_at hl 2 rfl) ?_
    refine lv_iconst (v := 0) hx hb dX7_move_10 (by decide) ?_
    refine lv_aload_n hx hb dX7_move_11 rfl (lv_at hl 0 rfl) ?_
    refine x_getI (own := RX7) (ref := RX7) hx hb hts hin10 hown hM.1 hZ hP 0 (by decide) (hts (.fieldLink RX7 87 "CellNotebookModel" "cells" "I") (by decide +kernel)) (fun _ h9 => h9) dX7_move_12 ?_
    refine lv_iconst (v := 1) hx hb dX7_move_15 (by decide) ?_
    refine lv_isub hx hb dX7_move_16 ?_
    obtain ⟨r5, u6, hc7, hd⟩ := m_b_e hd
    refine m_calli (k := 0) (n := 0) (va_runS (As := [.int (p1), .int (0), .int ((u2.1 0) - 1)]) (rest := [.ref (Z.2.1)]) ⟨hx, hb, hml, hown, hts⟩ (c_X7_in l G Z hZ u2 u6 p1 0 ((u2.1 0) - 1) r5 hc7) (va_cwS 3 hts gX7_move_X7_in rfl rfl rfl (by decide +kernel) ⟨(Nat.le_of_ble_eq_true rfl), (Nat.le_of_ble_eq_true rfl)⟩) (m_preS hM hP hS) rfl rfl hl.1 rfl (lv_room (Nat.le_of_ble_eq_true rfl)) dX7_move_17 ⟨(Nat.le_of_ble_eq_true rfl), (Nat.le_of_ble_eq_true rfl)⟩) hS ⟨(Nat.le_of_ble_eq_true rfl), (Nat.le_of_ble_eq_true rfl)⟩ (fun H locs hP hS => ?_)
    refine lv_if_eq (tgt := 27) hx hb dX7_move_20 (by decide) (fun c8 => ?_) (fun c8 => ?_)
    · have hd := m_i_t c8 hd
      refine W.widen (k := 0) (n := 0) (Nat.le_of_ble_eq_true rfl) (Nat.le_of_ble_eq_true rfl) ?_
      exact J27 u6 p0 p1 _ _ _ hd hP hS (lv_sub hl [0, 1, 2] rfl)
    · have hd := m_i_f c8 hd
      refine lv_iconst (v := 1) hx hb dX7_move_23 (by decide) ?_
      refine lv_goto (tgt := 28) hx hb dX7_move_24 (by decide) ?_
      refine W.widen (k := 0) (n := 0) (Nat.le_of_ble_eq_true rfl) (Nat.le_of_ble_eq_true rfl) ?_
      exact J28 u6 p0 p1 1 _ _ _ hd hP hS (lv_sub hl [0, 1, 2] rfl)


noncomputable def f_X7_cellCount (u : xS)  : Option (Int32 × xS) := m_b (f_X7_told u (u.1 0)) fun r1 u2 => some (r1, u2)
set_option maxHeartbeats 1000000 in
set_option maxRecDepth 100000 in
theorem c_X7_cellCount (l : Launch) (G : m_G) (Z : xB) (hZ : x_ok Z) (u u' : xS)  (r : Int32) (hd : f_X7_cellCount u = some (r, u')) : Met l yX7_cellCount wsX7_cellCount ({ frames := 1, cells := 0, slots := 0, locals := 21 } : Room) (m_Pc G (x_ov Z u) [.ref (Z.2.1)]) (m_Qi G r (x_ov Z u')) 0 0 (fun q => G.1 ≤ q) := by
  refine Met.ofW (cc := cX7_cellCount) (maxL := 1) (ret := (some .int)) (by decide +kernel) rfl ?_
  intro p e s m args below meth c s₁ B hml hv
  obtain ⟨rfl, hM, hP⟩ := hv
  have hx := B.exec
  have hb := B.bytes
  have hr := B.returns
  have hts := atoms_spec (ws := wsX7_cellCount) B.pre
  have hown : s.vm.findClass RX7 = some m.cls := findClass_of_methodNamed B.named
  have hlocks := B.notSynchronized
  have hin10 : ∀ w ∈ u_ws RX7 TX7 32, w ∈ wsX7_cellCount := by decide +kernel
  have hS : va_S (fun q => G.1 ≤ q) s.heap s.heap [] := va_S.rf
  have hl := lv_entry ([.ref (Z.2.1)]) (n := 1) (Nat.le_of_ble_eq_true rfl)
  rw [lg_entry_eq]
  generalize (lg_sl ([.ref (Z.2.1)]) ++ List.replicate (1 - (lg_sl ([.ref (Z.2.1)])).length) Slot.unset).toArray = ls at hl ⊢
  have hl : lv_has ls 1 [(0, .ref (Z.2.1))] := hl
  refine lv_aload_n hx hb dX7_cellCount_0 rfl (lv_at hl 0 rfl) ?_
  refine lv_aload_n hx hb dX7_cellCount_1 rfl (lv_at hl 0 rfl) ?_
  refine x_getI (own := RX7) (ref := RX7) hx hb hts hin10 hown hM.1 hZ hP 0 (by decide) (hts (.fieldLink RX7 87 "CellNotebookModel" "cells" "I") (by decide +kernel)) (fun _ h9 => h9) dX7_cellCount_2 ?_
  obtain ⟨r1, u2, hc3, hd⟩ := m_b_e hd
  refine m_calli (k := 0) (n := 0) (va_runV (As := [.int (u.1 0)]) (rest := []) ⟨hx, hb, hml, hown, hts⟩ (c_X7_told l G Z hZ u u2 (u.1 0) r1 hc3) (cwV 1 hts gX7_cellCount_X7_told rfl rfl rfl (by decide +kernel) ⟨(Nat.le_of_ble_eq_true rfl), (Nat.le_of_ble_eq_true rfl)⟩) (m_preV (C := RX7) (T := TX7) (N := 32) hM hP hS rfl (by decide) hZ.1) rfl rfl hl.1 rfl (lv_room (Nat.le_of_ble_eq_true rfl)) dX7_cellCount_5 ⟨(Nat.le_of_ble_eq_true rfl), (Nat.le_of_ble_eq_true rfl)⟩) hS ⟨(Nat.le_of_ble_eq_true rfl), (Nat.le_of_ble_eq_true rfl)⟩ (fun H locs hP hS => ?_)
  obtain ⟨e1, e2⟩ := m_s_e hd
  have e2 := congrArg (x_ov Z) e2
  refine W.widen (k := 0) (n := 0) (Nat.le_of_ble_eq_true rfl) (Nat.le_of_ble_eq_true rfl) ?_
  exact W.iret hx hb hr (fun t ht hW => ⟨⟨_, (x_ov Z u2), rfl, ⟨e1, e2⟩, by show mP _ _ t.heap; rw [ht]; exact hP⟩, hS.F ht⟩) hS.2.2 dX7_cellCount_8


noncomputable def f_X7_cellAt_30 (u : xS) (s0 : Int32) : Option (Int32 × xS) := some (s0, u)
noncomputable def f_X7_cellAt (u : xS) (p0 : Int32) : Option (Int32 × xS) := m_b (f_X7_in u p0 0 ((u.1 0) - 1)) fun r1 u2 => m_b (f_X7_goes u2 r1 1 1) fun r4 u5 => if r4 = (0 : Int32) then (f_X7_cellAt_30 u5 0) else (m_g (¬ (p0 < 0 ∨ 16 ≤ p0.toNatClampNeg)) <| f_X7_cellAt_30 u5 (u5.2 1 p0.toNatClampNeg))
set_option maxHeartbeats 1000000 in
set_option maxRecDepth 100000 in
theorem c_X7_cellAt (l : Launch) (G : m_G) (Z : xB) (hZ : x_ok Z) (u u' : xS) (p0 : Int32) (r : Int32) (hd : f_X7_cellAt u p0 = some (r, u')) : Met l yX7_cellAt wsX7_cellAt ({ frames := 1, cells := 0, slots := 0, locals := 23 } : Room) (m_Pc G (x_ov Z u) [.ref (Z.2.1), .int (p0)]) (m_Qi G r (x_ov Z u')) 0 0 (fun q => G.1 ≤ q) := by
  refine Met.ofW (cc := cX7_cellAt) (maxL := 2) (ret := (some .int)) (by decide +kernel) rfl ?_
  intro p e s m args below meth c s₁ B hml hv
  obtain ⟨rfl, hM, hP⟩ := hv
  have hx := B.exec
  have hb := B.bytes
  have hr := B.returns
  have hts := atoms_spec (ws := wsX7_cellAt) B.pre
  have hown : s.vm.findClass RX7 = some m.cls := findClass_of_methodNamed B.named
  have hlocks := B.notSynchronized
  have hin10 : ∀ w ∈ u_ws RX7 TX7 32, w ∈ wsX7_cellAt := by decide +kernel
  have hS : va_S (fun q => G.1 ≤ q) s.heap s.heap [] := va_S.rf
  have J30 : ∀ (u : xS) (s0 : Int32) (H : Heap) (locs : List Loc) (ls : Array Slot), f_X7_cellAt_30 u s0 = some (r, u') → mP G (x_ov Z u) H → va_S (fun q => G.1 ≤ q) s.heap H locs → lv_has ls 2 [] → W p l e ({ frames := 1, cells := 0, slots := 0, locals := 23 } : Room) s m ([.ref (Z.2.1), .int (p0)] : List Value).toArray below meth c H locs 0 0 (MQ below (m_Qi G r (x_ov Z u')) ([.ref (Z.2.1), .int (p0)] : List Value).toArray s 0 0 (fun q => G.1 ≤ q)) (F0 m 30 ls [.int (s0)]) := by
    intro u s0 H locs ls hd hP hS hl
    obtain ⟨e1, e2⟩ := m_s_e hd
    have e2 := congrArg (x_ov Z) e2
    refine W.widen (k := 0) (n := 0) (Nat.le_of_ble_eq_true rfl) (Nat.le_of_ble_eq_true rfl) ?_
    exact W.iret hx hb hr (fun t ht hW => ⟨⟨_, (x_ov Z u), rfl, ⟨e1, e2⟩, by show mP _ _ t.heap; rw [ht]; exact hP⟩, hS.F ht⟩) hS.2.2 dX7_cellAt_30
  have hl := lv_entry ([.ref (Z.2.1), .int (p0)]) (n := 2) (Nat.le_of_ble_eq_true rfl)
  rw [lg_entry_eq]
  generalize (lg_sl ([.ref (Z.2.1), .int (p0)]) ++ List.replicate (2 - (lg_sl ([.ref (Z.2.1), .int (p0)])).length) Slot.unset).toArray = ls at hl ⊢
  have hl : lv_has ls 2 [(0, .ref (Z.2.1)), (1, .int (p0))] := hl
  refine lv_aload_n hx hb dX7_cellAt_0 rfl (lv_at hl 0 rfl) ?_
  refine lv_iload_n hx hb dX7_cellAt_1 rfl (lv_at hl 1 rfl) ?_
  refine lv_iconst (v := 0) hx hb dX7_cellAt_2 (by decide) ?_
  refine lv_aload_n hx hb dX7_cellAt_3 rfl (lv_at hl 0 rfl) ?_
  refine x_getI (own := RX7) (ref := RX7) hx hb hts hin10 hown hM.1 hZ hP 0 (by decide) (hts (.fieldLink RX7 87 "CellNotebookModel" "cells" "I") (by decide +kernel)) (fun _ h9 => h9) dX7_cellAt_4 ?_
  refine lv_iconst (v := 1) hx hb dX7_cellAt_7 (by decide) ?_
  refine lv_isub hx hb dX7_cellAt_8 ?_
  obtain ⟨r1, u2, hc3, hd⟩ := m_b_e hd
  refine m_calli (k := 0) (n := 0) (va_runS (As := [.int (p0), .int (0), .int ((u.1 0) - 1)]) (rest := [.ref (Z.2.1)]) ⟨hx, hb, hml, hown, hts⟩ (c_X7_in l G Z hZ u u2 p0 0 ((u.1 0) - 1) r1 hc3) (va_cwS 3 hts gX7_cellAt_X7_in rfl rfl rfl (by decide +kernel) ⟨(Nat.le_of_ble_eq_true rfl), (Nat.le_of_ble_eq_true rfl)⟩) (m_preS hM hP hS) rfl rfl hl.1 rfl (lv_room (Nat.le_of_ble_eq_true rfl)) dX7_cellAt_9 ⟨(Nat.le_of_ble_eq_true rfl), (Nat.le_of_ble_eq_true rfl)⟩) hS ⟨(Nat.le_of_ble_eq_true rfl), (Nat.le_of_ble_eq_true rfl)⟩ (fun H locs hP hS => ?_)
  refine lv_iconst (v := 1) hx hb dX7_cellAt_12 (by decide) ?_
  refine lv_iconst (v := 1) hx hb dX7_cellAt_13 (by decide) ?_
  obtain ⟨r4, u5, hc6, hd⟩ := m_b_e hd
  refine m_calli (k := 0) (n := 0) (va_runV (As := [.int (r1), .int (1), .int (1)]) (rest := []) ⟨hx, hb, hml, hown, hts⟩ (c_X7_goes l G Z hZ u2 u5 r1 1 1 r4 hc6) (cwV 3 hts gX7_cellAt_X7_goes rfl rfl rfl (by decide +kernel) ⟨(Nat.le_of_ble_eq_true rfl), (Nat.le_of_ble_eq_true rfl)⟩) (m_preV (C := RX7) (T := TX7) (N := 32) hM hP hS rfl (by decide) hZ.1) rfl rfl hl.1 rfl (lv_room (Nat.le_of_ble_eq_true rfl)) dX7_cellAt_14 ⟨(Nat.le_of_ble_eq_true rfl), (Nat.le_of_ble_eq_true rfl)⟩) hS ⟨(Nat.le_of_ble_eq_true rfl), (Nat.le_of_ble_eq_true rfl)⟩ (fun H locs hP hS => ?_)
  refine lv_if_eq (tgt := 29) hx hb dX7_cellAt_17 (by decide) (fun c7 => ?_) (fun c7 => ?_)
  · have hd := m_i_t c7 hd
    refine lv_iconst (v := 0) hx hb dX7_cellAt_29 (by decide) ?_
    refine W.widen (k := 0) (n := 0) (Nat.le_of_ble_eq_true rfl) (Nat.le_of_ble_eq_true rfl) ?_
    exact J30 u5 0 _ _ _ hd hP hS (lv_sub hl [] rfl)
  · have hd := m_i_f c7 hd
    refine lv_aload_n hx hb dX7_cellAt_20 rfl (lv_at hl 0 rfl) ?_
    refine x_getA (own := RX7) (ref := RX7) hx hb hts hin10 hown hM.1 hZ hP 1 (by decide) (hts (.fieldLink RX7 7 "CellNotebookModel" "order" "[I") (by decide +kernel)) (fun _ h9 => h9) dX7_cellAt_21 ?_
    refine lv_iload_n hx hb dX7_cellAt_24 rfl (lv_at hl 1 rfl) ?_
    obtain ⟨hg8, hd⟩ := m_g_e hd
    refine x_ald hx hb hM.1 hZ hP 1 (by decide) hg8 dX7_cellAt_25 ?_
    refine lv_goto (tgt := 30) hx hb dX7_cellAt_26 (by decide) ?_
    refine W.widen (k := 0) (n := 0) (Nat.le_of_ble_eq_true rfl) (Nat.le_of_ble_eq_true rfl) ?_
    exact J30 u5 (u5.2 1 p0.toNatClampNeg) _ _ _ hd hP hS (lv_sub hl [] rfl)


noncomputable def f_X7_sized_59 (u : xS) (s0 : Int32) : Option (Int32 × xS) := some (s0, u)
noncomputable def f_X7_sized_58 (u : xS) (s0 : Int32) (s1 : Int32) : Option (Int32 × xS) := f_X7_sized_59 u (s1 + s0)
noncomputable def f_X7_sized_37 (u : xS) (x2 : Int32) (s0 : Int32) : Option (Int32 × xS) := if 10 ≤ x2 then (if 100 ≤ x2 then (f_X7_sized_58 u 3 s0) else (f_X7_sized_58 u 2 s0)) else (f_X7_sized_58 u 1 s0)
noncomputable def f_X7_sized_16 (u : xS) (x0 : Int32) (x1 : Int32) (s0 : Int32) : Option (Int32 × xS) := m_b (f_X7_isName u x0) fun r102 u103 => if r102 = (0 : Int32) then (if (0 : Int32) ≤ x1 then (f_X7_sized_37 u103 s0 0) else (f_X7_sized_37 u103 s0 1)) else (f_X7_sized_59 u103 1)
noncomputable def f_X7_sized (u : xS) (p0 : Int32) : Option (Int32 × xS) := if (0 : Int32) ≤ (p0 - 600) then (f_X7_sized_16 u p0 (p0 - 600) (p0 - 600)) else (f_X7_sized_16 u p0 (p0 - 600) (-(p0 - 600)))
set_option maxHeartbeats 1000000 in
set_option maxRecDepth 100000 in
theorem c_X7_sized (l : Launch) (G : m_G) (Z : xB) (hZ : x_ok Z) (u u' : xS) (p0 : Int32) (r : Int32) (hd : f_X7_sized u p0 = some (r, u')) : Met l yX7_sized wsX7_sized ({ frames := 2, cells := 0, slots := 0, locals := 42 } : Room) (m_Pc G (x_ov Z u) [.int (p0)]) (m_Qi G r (x_ov Z u')) 0 0 (fun q => G.1 ≤ q) := by
  refine Met.ofW (cc := cX7_sized) (maxL := 3) (ret := (some .int)) (by decide +kernel) rfl ?_
  intro p e s m args below meth c s₁ B hml hv
  obtain ⟨rfl, hM, hP⟩ := hv
  have hx := B.exec
  have hb := B.bytes
  have hr := B.returns
  have hts := atoms_spec (ws := wsX7_sized) B.pre
  have hown : s.vm.findClass RX7 = some m.cls := findClass_of_methodNamed B.named
  have hlocks := B.notSynchronized
  have hS : va_S (fun q => G.1 ≤ q) s.heap s.heap [] := va_S.rf
  have J59 : ∀ (u : xS) (s0 : Int32) (H : Heap) (locs : List Loc) (ls : Array Slot), f_X7_sized_59 u s0 = some (r, u') → mP G (x_ov Z u) H → va_S (fun q => G.1 ≤ q) s.heap H locs → lv_has ls 3 [] → W p l e ({ frames := 2, cells := 0, slots := 0, locals := 42 } : Room) s m ([.int (p0)] : List Value).toArray below meth c H locs 0 0 (MQ below (m_Qi G r (x_ov Z u')) ([.int (p0)] : List Value).toArray s 0 0 (fun q => G.1 ≤ q)) (F0 m 59 ls [.int (s0)]) := by
    intro u s0 H locs ls hd hP hS hl
    obtain ⟨e1, e2⟩ := m_s_e hd
    have e2 := congrArg (x_ov Z) e2
    refine W.widen (k := 0) (n := 0) (Nat.le_of_ble_eq_true rfl) (Nat.le_of_ble_eq_true rfl) ?_
    exact W.iret hx hb hr (fun t ht hW => ⟨⟨_, (x_ov Z u), rfl, ⟨e1, e2⟩, by show mP _ _ t.heap; rw [ht]; exact hP⟩, hS.F ht⟩) hS.2.2 dX7_sized_59
  have J58 : ∀ (u : xS) (s0 : Int32) (s1 : Int32) (H : Heap) (locs : List Loc) (ls : Array Slot), f_X7_sized_58 u s0 s1 = some (r, u') → mP G (x_ov Z u) H → va_S (fun q => G.1 ≤ q) s.heap H locs → lv_has ls 3 [] → W p l e ({ frames := 2, cells := 0, slots := 0, locals := 42 } : Room) s m ([.int (p0)] : List Value).toArray below meth c H locs 0 0 (MQ below (m_Qi G r (x_ov Z u')) ([.int (p0)] : List Value).toArray s 0 0 (fun q => G.1 ≤ q)) (F0 m 58 ls [.int (s0), .int (s1)]) := by
    intro u s0 s1 H locs ls hd hP hS hl
    refine lv_iadd hx hb dX7_sized_58 ?_
    refine W.widen (k := 0) (n := 0) (Nat.le_of_ble_eq_true rfl) (Nat.le_of_ble_eq_true rfl) ?_
    exact J59 u (s1 + s0) _ _ _ hd hP hS (lv_sub hl [] rfl)
  have J37 : ∀ (u : xS) (x2 : Int32) (s0 : Int32) (H : Heap) (locs : List Loc) (ls : Array Slot), f_X7_sized_37 u x2 s0 = some (r, u') → mP G (x_ov Z u) H → va_S (fun q => G.1 ≤ q) s.heap H locs → lv_has ls 3 [(2, .int (x2))] → W p l e ({ frames := 2, cells := 0, slots := 0, locals := 42 } : Room) s m ([.int (p0)] : List Value).toArray below meth c H locs 0 0 (MQ below (m_Qi G r (x_ov Z u')) ([.int (p0)] : List Value).toArray s 0 0 (fun q => G.1 ≤ q)) (F0 m 37 ls [.int (s0)]) := by
    intro u x2 s0 H locs ls hd hP hS hl
    refine lv_iload_n hx hb dX7_sized_37 rfl (lv_at hl 0 rfl) ?_
    refine lv_bipush (v := 10) hx hb dX7_sized_38 (by decide) ?_
    refine lv_icmp_ge (tgt := 47) hx hb dX7_sized_40 (by decide) (fun c207 => ?_) (fun c207 => ?_)
    · have hd := m_i_t c207 hd
      refine lv_iload_n hx hb dX7_sized_47 rfl (lv_at hl 0 rfl) ?_
      refine lv_bipush (v := 100) hx hb dX7_sized_48 (by decide) ?_
      refine lv_icmp_ge (tgt := 57) hx hb dX7_sized_50 (by decide) (fun c208 => ?_) (fun c208 => ?_)
      · have hd := m_i_t c208 hd
        refine lv_iconst (v := 3) hx hb dX7_sized_57 (by decide) ?_
        refine W.widen (k := 0) (n := 0) (Nat.le_of_ble_eq_true rfl) (Nat.le_of_ble_eq_true rfl) ?_
        exact J58 u 3 s0 _ _ _ hd hP hS (lv_sub hl [] rfl)
      · have hd := m_i_f c208 hd
        refine lv_iconst (v := 2) hx hb dX7_sized_53 (by decide) ?_
        refine lv_goto (tgt := 58) hx hb dX7_sized_54 (by decide) ?_
        refine W.widen (k := 0) (n := 0) (Nat.le_of_ble_eq_true rfl) (Nat.le_of_ble_eq_true rfl) ?_
        exact J58 u 2 s0 _ _ _ hd hP hS (lv_sub hl [] rfl)
    · have hd := m_i_f c207 hd
      refine lv_iconst (v := 1) hx hb dX7_sized_43 (by decide) ?_
      refine lv_goto (tgt := 58) hx hb dX7_sized_44 (by decide) ?_
      refine W.widen (k := 0) (n := 0) (Nat.le_of_ble_eq_true rfl) (Nat.le_of_ble_eq_true rfl) ?_
      exact J58 u 1 s0 _ _ _ hd hP hS (lv_sub hl [] rfl)
  have J16 : ∀ (u : xS) (x0 : Int32) (x1 : Int32) (s0 : Int32) (H : Heap) (locs : List Loc) (ls : Array Slot), f_X7_sized_16 u x0 x1 s0 = some (r, u') → mP G (x_ov Z u) H → va_S (fun q => G.1 ≤ q) s.heap H locs → lv_has ls 3 [(0, .int (x0)), (1, .int (x1))] → W p l e ({ frames := 2, cells := 0, slots := 0, locals := 42 } : Room) s m ([.int (p0)] : List Value).toArray below meth c H locs 0 0 (MQ below (m_Qi G r (x_ov Z u')) ([.int (p0)] : List Value).toArray s 0 0 (fun q => G.1 ≤ q)) (F0 m 16 ls [.int (s0)]) := by
    intro u x0 x1 s0 H locs ls hd hP hS hl
    refine lv_istore_n (lv' := [(2, .int (s0)), (0, .int (x0)), (1, .int (x1))]) hx hb dX7_sized_16 rfl hl (by decide) rfl (fun ls hl => ?_)
    refine lv_iload_n hx hb dX7_sized_17 rfl (lv_at hl 1 rfl) ?_
    obtain ⟨r102, u103, hc104, hd⟩ := m_b_e hd
    refine m_calli (k := 0) (n := 0) (va_runS (As := [.int (x0)]) (rest := []) ⟨hx, hb, hml, hown, hts⟩ (c_X7_isName l G Z hZ u u103 x0 r102 hc104) (va_cwS 1 hts gX7_sized_X7_isName rfl rfl rfl (by decide +kernel) ⟨(Nat.le_of_ble_eq_true rfl), (Nat.le_of_ble_eq_true rfl)⟩) (m_preS hM hP hS) rfl rfl hl.1 rfl (lv_room (Nat.le_of_ble_eq_true rfl)) dX7_sized_18 ⟨(Nat.le_of_ble_eq_true rfl), (Nat.le_of_ble_eq_true rfl)⟩) hS ⟨(Nat.le_of_ble_eq_true rfl), (Nat.le_of_ble_eq_true rfl)⟩ (fun H locs hP hS => ?_)
    refine lv_if_eq (tgt := 28) hx hb dX7_sized_21 (by decide) (fun c105 => ?_) (fun c105 => ?_)
    · have hd := m_i_t c105 hd
      refine lv_iload_n hx hb dX7_sized_28 rfl (lv_at hl 2 rfl) ?_
      refine lv_if_ge (tgt := 36) hx hb dX7_sized_29 (by decide) (fun c106 => ?_) (fun c106 => ?_)
      · have hd := m_i_t c106 hd
        refine lv_iconst (v := 0) hx hb dX7_sized_36 (by decide) ?_
        refine W.widen (k := 0) (n := 0) (Nat.le_of_ble_eq_true rfl) (Nat.le_of_ble_eq_true rfl) ?_
        exact J37 u103 s0 0 _ _ _ hd hP hS (lv_sub hl [0] rfl)
      · have hd := m_i_f c106 hd
        refine lv_iconst (v := 1) hx hb dX7_sized_32 (by decide) ?_
        refine lv_goto (tgt := 37) hx hb dX7_sized_33 (by decide) ?_
        refine W.widen (k := 0) (n := 0) (Nat.le_of_ble_eq_true rfl) (Nat.le_of_ble_eq_true rfl) ?_
        exact J37 u103 s0 1 _ _ _ hd hP hS (lv_sub hl [0] rfl)
    · have hd := m_i_f c105 hd
      refine lv_iconst (v := 1) hx hb dX7_sized_24 (by decide) ?_
      refine lv_goto (tgt := 59) hx hb dX7_sized_25 (by decide) ?_
      refine W.widen (k := 0) (n := 0) (Nat.le_of_ble_eq_true rfl) (Nat.le_of_ble_eq_true rfl) ?_
      exact J59 u103 1 _ _ _ hd hP hS (lv_sub hl [] rfl)
  have hl := lv_entry ([.int (p0)]) (n := 3) (Nat.le_of_ble_eq_true rfl)
  rw [lg_entry_eq]
  generalize (lg_sl ([.int (p0)]) ++ List.replicate (3 - (lg_sl ([.int (p0)])).length) Slot.unset).toArray = ls at hl ⊢
  have hl : lv_has ls 3 [(0, .int (p0))] := hl
  refine lv_iload_n hx hb dX7_sized_0 rfl (lv_at hl 0 rfl) ?_
  refine lv_sipush (v := 600) hx hb dX7_sized_1 (by decide) ?_
  refine lv_isub hx hb dX7_sized_4 ?_
  refine lv_istore_n (lv' := [(1, .int (p0 - 600)), (0, .int (p0))]) hx hb dX7_sized_5 rfl hl (by decide) rfl (fun ls hl => ?_)
  refine lv_iload_n hx hb dX7_sized_6 rfl (lv_at hl 0 rfl) ?_
  refine lv_if_ge (tgt := 15) hx hb dX7_sized_7 (by decide) (fun c1 => ?_) (fun c1 => ?_)
  · have hd := m_i_t c1 hd
    refine lv_iload_n hx hb dX7_sized_15 rfl (lv_at hl 0 rfl) ?_
    refine W.widen (k := 0) (n := 0) (Nat.le_of_ble_eq_true rfl) (Nat.le_of_ble_eq_true rfl) ?_
    exact J16 u p0 (p0 - 600) (p0 - 600) _ _ _ hd hP hS (lv_sub hl [1, 0] rfl)
  · have hd := m_i_f c1 hd
    refine lv_iload_n hx hb dX7_sized_10 rfl (lv_at hl 0 rfl) ?_
    refine lv_ineg hx hb dX7_sized_11 ?_
    refine lv_goto (tgt := 16) hx hb dX7_sized_12 (by decide) ?_
    refine W.widen (k := 0) (n := 0) (Nat.le_of_ble_eq_true rfl) (Nat.le_of_ble_eq_true rfl) ?_
    exact J16 u p0 (p0 - 600) (-(p0 - 600)) _ _ _ hd hP hS (lv_sub hl [1, 0] rfl)


noncomputable def f_X7_written_49_b (k49 : xS → Int32 → Int32 → Int32 → Option (Int32 × xS)) (u : xS) (x1 : Int32) (x3 : Int32) (x4 : Int32) : Option (Int32 × xS) := if x4 ≤ x1 then (m_g (¬ 10 = (0 : Int32)) <| m_g (vp_nar .char (((48 + (x3 - x3 / 10 * 10)).toUInt32 % 65536).toInt32) = ((48 + (x3 - x3 / 10 * 10)).toUInt32 % 65536).toInt32) <| some (((48 + (x3 - x3 / 10 * 10)).toUInt32 % 65536).toInt32, u)) else (m_g (¬ 10 = (0 : Int32)) <| k49 u x1 (x3 / 10) (x4 + (-1)))
noncomputable def f_X7_written_49 (n : Nat) : xS → Int32 → Int32 → Int32 → Option (Int32 × xS) := Nat.rec (motive := fun _ => xS → Int32 → Int32 → Int32 → Option (Int32 × xS)) (fun _ _ _ _ => none) (fun _ k => f_X7_written_49_b  k) n
noncomputable def f_X7_written_40 (u : xS) (x0 : Int32) (x1 : Int32) (s0 : Int32) : Option (Int32 × xS) := m_b (f_X7_sized u x0) fun r210 u211 => f_X7_written_49 m_N u211 x1 s0 (r210 - 1)
noncomputable def f_X7_written_30 (u : xS) (x0 : Int32) (x1 : Int32) (x2 : Int32) : Option (Int32 × xS) := if (0 : Int32) ≤ x2 then (f_X7_written_40 u x0 x1 x2) else (f_X7_written_40 u x0 x1 (-x2))
noncomputable def f_X7_written (u : xS) (p0 : Int32) (p1 : Int32) : Option (Int32 × xS) := m_b (f_X7_isName u p0) fun r1 u2 => if r1 = (0 : Int32) then (if (0 : Int32) ≤ (p0 - 600) then (f_X7_written_30 u2 p0 p1 (p0 - 600)) else (if p1 = (0 : Int32) then (m_g (vp_nar .char 45 = 45) <| some (45, u2)) else (f_X7_written_30 u2 p0 p1 (p0 - 600)))) else (m_g (vp_nar .char (((97 + p0).toUInt32 % 65536).toInt32) = ((97 + p0).toUInt32 % 65536).toInt32) <| some (((97 + p0).toUInt32 % 65536).toInt32, u2))
set_option maxHeartbeats 1000000 in
set_option maxRecDepth 100000 in
theorem c_X7_written (l : Launch) (G : m_G) (Z : xB) (hZ : x_ok Z) (u u' : xS) (p0 : Int32) (p1 : Int32) (r : Int32) (hd : f_X7_written u p0 p1 = some (r, u')) : Met l yX7_written wsX7_written ({ frames := 3, cells := 0, slots := 0, locals := 64 } : Room) (m_Pc G (x_ov Z u) [.int (p0), .int (p1)]) (m_Qi G r (x_ov Z u')) 0 0 (fun q => G.1 ≤ q) := by
  refine Met.ofW (cc := cX7_written) (maxL := 5) (ret := (some .char)) (by decide +kernel) rfl ?_
  intro p e s m args below meth c s₁ B hml hv
  obtain ⟨rfl, hM, hP⟩ := hv
  have hx := B.exec
  have hb := B.bytes
  have hr := B.returns
  have hts := atoms_spec (ws := wsX7_written) B.pre
  have hown : s.vm.findClass RX7 = some m.cls := findClass_of_methodNamed B.named
  have hlocks := B.notSynchronized
  have hS : va_S (fun q => G.1 ≤ q) s.heap s.heap [] := va_S.rf
  have J49 : ∀ (n49 : Nat) (u : xS) (x1 : Int32) (x3 : Int32) (x4 : Int32) (H : Heap) (locs : List Loc) (ls : Array Slot), f_X7_written_49 n49 u x1 x3 x4 = some (r, u') → mP G (x_ov Z u) H → va_S (fun q => G.1 ≤ q) s.heap H locs → lv_has ls 5 [(1, .int (x1)), (3, .int (x3)), (4, .int (x4))] → W p l e ({ frames := 3, cells := 0, slots := 0, locals := 64 } : Room) s m ([.int (p0), .int (p1)] : List Value).toArray below meth c H locs 0 0 (MQ below (m_Qi G r (x_ov Z u')) ([.int (p0), .int (p1)] : List Value).toArray s 0 0 (fun q => G.1 ≤ q)) (F0 m 49 ls []) := by
    intro n49
    induction n49 with
    | zero => intro u x1 x3 x4 H locs ls hd; exact absurd (show (none : Option (Int32 × xS)) = some _ from hd) (fun h => nomatch h)
    | succ n49 ih49 =>
      intro u x1 x3 x4 H locs ls hd hP hS hl
      have hd : f_X7_written_49_b (f_X7_written_49 n49) u x1 x3 x4 = some (r, u') := hd
      refine lv_iload hx hb dX7_written_49 (lv_at hl 2 rfl) ?_
      refine lv_iload_n hx hb dX7_written_51 rfl (lv_at hl 0 rfl) ?_
      refine lv_icmp_le (tgt := 66) hx hb dX7_written_52 (by decide) (fun c313 => ?_) (fun c313 => ?_)
      · have hd := m_i_t c313 hd
        refine lv_bipush (v := 48) hx hb dX7_written_66 (by decide) ?_
        refine lv_iload_n hx hb dX7_written_68 rfl (lv_at hl 1 rfl) ?_
        refine lv_bipush (v := 10) hx hb dX7_written_69 (by decide) ?_
        obtain ⟨hz314, hd⟩ := m_g_e hd
        refine lv_irem hx hb dX7_written_71 hz314 ?_
        refine lv_iadd hx hb dX7_written_72 ?_
        refine lv_i2c (v := ((48 + (x3 - x3 / 10 * 10)).toUInt32 % 65536).toInt32) hx hb dX7_written_73 rfl ?_
        obtain ⟨hn315, hd⟩ := m_g_e hd
        obtain ⟨e1, e2⟩ := m_s_e hd
        have e2 := congrArg (x_ov Z) e2
        refine W.widen (k := 0) (n := 0) (Nat.le_of_ble_eq_true rfl) (Nat.le_of_ble_eq_true rfl) ?_
        exact W.zret hx hb hr (m_narC hn315).1 (fun t ht hW => ⟨⟨_, (x_ov Z u), rfl, ⟨e1, e2⟩, by show mP _ _ t.heap; rw [ht]; exact hP⟩, hS.F ht⟩) hS.2.2 dX7_written_74
      · have hd := m_i_f c313 hd
        refine lv_iload_n hx hb dX7_written_55 rfl (lv_at hl 1 rfl) ?_
        refine lv_bipush (v := 10) hx hb dX7_written_56 (by decide) ?_
        obtain ⟨hz316, hd⟩ := m_g_e hd
        refine lv_idiv hx hb dX7_written_58 hz316 ?_
        refine lv_istore_n (lv' := [(3, .int (x3 / 10)), (1, .int (x1)), (4, .int (x4))]) hx hb dX7_written_59 rfl hl (by decide) rfl (fun ls hl => ?_)
        refine lv_iinc (v := x4 + (-1)) (lv' := [(4, .int (x4 + (-1))), (3, .int (x3 / 10)), (1, .int (x1))]) hx hb dX7_written_60 hl (k := 2) rfl rfl (by decide) rfl (fun ls hl => ?_)
        refine lv_goto (tgt := 49) hx hb dX7_written_63 (by decide) ?_
        refine W.widen (k := 0) (n := 0) (Nat.le_of_ble_eq_true rfl) (Nat.le_of_ble_eq_true rfl) ?_
        exact ih49 u x1 (x3 / 10) (x4 + (-1)) _ _ _ hd hP hS (lv_sub hl [2, 1, 0] rfl)
  have J40 : ∀ (u : xS) (x0 : Int32) (x1 : Int32) (s0 : Int32) (H : Heap) (locs : List Loc) (ls : Array Slot), f_X7_written_40 u x0 x1 s0 = some (r, u') → mP G (x_ov Z u) H → va_S (fun q => G.1 ≤ q) s.heap H locs → lv_has ls 5 [(0, .int (x0)), (1, .int (x1))] → W p l e ({ frames := 3, cells := 0, slots := 0, locals := 64 } : Room) s m ([.int (p0), .int (p1)] : List Value).toArray below meth c H locs 0 0 (MQ below (m_Qi G r (x_ov Z u')) ([.int (p0), .int (p1)] : List Value).toArray s 0 0 (fun q => G.1 ≤ q)) (F0 m 40 ls [.int (s0)]) := by
    intro u x0 x1 s0 H locs ls hd hP hS hl
    refine lv_istore_n (lv' := [(3, .int (s0)), (0, .int (x0)), (1, .int (x1))]) hx hb dX7_written_40 rfl hl (by decide) rfl (fun ls hl => ?_)
    refine lv_iload_n hx hb dX7_written_41 rfl (lv_at hl 1 rfl) ?_
    obtain ⟨r210, u211, hc212, hd⟩ := m_b_e hd
    refine m_calli (k := 0) (n := 0) (va_runS (As := [.int (x0)]) (rest := []) ⟨hx, hb, hml, hown, hts⟩ (c_X7_sized l G Z hZ u u211 x0 r210 hc212) (va_cwS 1 hts gX7_written_X7_sized rfl rfl rfl (by decide +kernel) ⟨(Nat.le_of_ble_eq_true rfl), (Nat.le_of_ble_eq_true rfl)⟩) (m_preS hM hP hS) rfl rfl hl.1 rfl (lv_room (Nat.le_of_ble_eq_true rfl)) dX7_written_42 ⟨(Nat.le_of_ble_eq_true rfl), (Nat.le_of_ble_eq_true rfl)⟩) hS ⟨(Nat.le_of_ble_eq_true rfl), (Nat.le_of_ble_eq_true rfl)⟩ (fun H locs hP hS => ?_)
    refine lv_iconst (v := 1) hx hb dX7_written_45 (by decide) ?_
    refine lv_isub hx hb dX7_written_46 ?_
    refine lv_istore (lv' := [(4, .int (r210 - 1)), (3, .int (s0)), (0, .int (x0)), (1, .int (x1))]) hx hb dX7_written_47 hl (by decide) rfl (fun ls hl => ?_)
    refine W.widen (k := 0) (n := 0) (Nat.le_of_ble_eq_true rfl) (Nat.le_of_ble_eq_true rfl) ?_
    exact J49 m_N u211 x1 s0 (r210 - 1) _ _ _ hd hP hS (lv_sub hl [3, 1, 0] rfl)
  have J30 : ∀ (u : xS) (x0 : Int32) (x1 : Int32) (x2 : Int32) (H : Heap) (locs : List Loc) (ls : Array Slot), f_X7_written_30 u x0 x1 x2 = some (r, u') → mP G (x_ov Z u) H → va_S (fun q => G.1 ≤ q) s.heap H locs → lv_has ls 5 [(0, .int (x0)), (1, .int (x1)), (2, .int (x2))] → W p l e ({ frames := 3, cells := 0, slots := 0, locals := 64 } : Room) s m ([.int (p0), .int (p1)] : List Value).toArray below meth c H locs 0 0 (MQ below (m_Qi G r (x_ov Z u')) ([.int (p0), .int (p1)] : List Value).toArray s 0 0 (fun q => G.1 ≤ q)) (F0 m 30 ls []) := by
    intro u x0 x1 x2 H locs ls hd hP hS hl
    refine lv_iload_n hx hb dX7_written_30 rfl (lv_at hl 2 rfl) ?_
    refine lv_if_ge (tgt := 39) hx hb dX7_written_31 (by decide) (fun c109 => ?_) (fun c109 => ?_)
    · have hd := m_i_t c109 hd
      refine lv_iload_n hx hb dX7_written_39 rfl (lv_at hl 2 rfl) ?_
      refine W.widen (k := 0) (n := 0) (Nat.le_of_ble_eq_true rfl) (Nat.le_of_ble_eq_true rfl) ?_
      exact J40 u x0 x1 x2 _ _ _ hd hP hS (lv_sub hl [0, 1] rfl)
    · have hd := m_i_f c109 hd
      refine lv_iload_n hx hb dX7_written_34 rfl (lv_at hl 2 rfl) ?_
      refine lv_ineg hx hb dX7_written_35 ?_
      refine lv_goto (tgt := 40) hx hb dX7_written_36 (by decide) ?_
      refine W.widen (k := 0) (n := 0) (Nat.le_of_ble_eq_true rfl) (Nat.le_of_ble_eq_true rfl) ?_
      exact J40 u x0 x1 (-x2) _ _ _ hd hP hS (lv_sub hl [0, 1] rfl)
  have hl := lv_entry ([.int (p0), .int (p1)]) (n := 5) (Nat.le_of_ble_eq_true rfl)
  rw [lg_entry_eq]
  generalize (lg_sl ([.int (p0), .int (p1)]) ++ List.replicate (5 - (lg_sl ([.int (p0), .int (p1)])).length) Slot.unset).toArray = ls at hl ⊢
  have hl : lv_has ls 5 [(0, .int (p0)), (1, .int (p1))] := hl
  refine lv_iload_n hx hb dX7_written_0 rfl (lv_at hl 0 rfl) ?_
  obtain ⟨r1, u2, hc3, hd⟩ := m_b_e hd
  refine m_calli (k := 0) (n := 0) (va_runS (As := [.int (p0)]) (rest := []) ⟨hx, hb, hml, hown, hts⟩ (c_X7_isName l G Z hZ u u2 p0 r1 hc3) (va_cwS 1 hts gX7_written_X7_isName rfl rfl rfl (by decide +kernel) ⟨(Nat.le_of_ble_eq_true rfl), (Nat.le_of_ble_eq_true rfl)⟩) (m_preS hM hP hS) rfl rfl hl.1 rfl (lv_room (Nat.le_of_ble_eq_true rfl)) dX7_written_1 ⟨(Nat.le_of_ble_eq_true rfl), (Nat.le_of_ble_eq_true rfl)⟩) hS ⟨(Nat.le_of_ble_eq_true rfl), (Nat.le_of_ble_eq_true rfl)⟩ (fun H locs hP hS => ?_)
  refine lv_if_eq (tgt := 13) hx hb dX7_written_4 (by decide) (fun c4 => ?_) (fun c4 => ?_)
  · have hd := m_i_t c4 hd
    refine lv_iload_n hx hb dX7_written_13 rfl (lv_at hl 0 rfl) ?_
    refine lv_sipush (v := 600) hx hb dX7_written_14 (by decide) ?_
    refine lv_isub hx hb dX7_written_17 ?_
    refine lv_istore_n (lv' := [(2, .int (p0 - 600)), (0, .int (p0)), (1, .int (p1))]) hx hb dX7_written_18 rfl hl (by decide) rfl (fun ls hl => ?_)
    refine lv_iload_n hx hb dX7_written_19 rfl (lv_at hl 0 rfl) ?_
    refine lv_if_ge (tgt := 30) hx hb dX7_written_20 (by decide) (fun c5 => ?_) (fun c5 => ?_)
    · have hd := m_i_t c5 hd
      refine W.widen (k := 0) (n := 0) (Nat.le_of_ble_eq_true rfl) (Nat.le_of_ble_eq_true rfl) ?_
      exact J30 u2 p0 p1 (p0 - 600) _ _ _ hd hP hS (lv_sub hl [1, 2, 0] rfl)
    · have hd := m_i_f c5 hd
      refine lv_iload_n hx hb dX7_written_23 rfl (lv_at hl 2 rfl) ?_
      refine lv_if_ne (tgt := 30) hx hb dX7_written_24 (by decide) (fun c6 => ?_) (fun c6 => ?_)
      · have hd := m_i_f c6 hd
        refine W.widen (k := 0) (n := 0) (Nat.le_of_ble_eq_true rfl) (Nat.le_of_ble_eq_true rfl) ?_
        exact J30 u2 p0 p1 (p0 - 600) _ _ _ hd hP hS (lv_sub hl [1, 2, 0] rfl)
      · have hd := m_i_t c6 hd
        refine lv_bipush (v := 45) hx hb dX7_written_27 (by decide) ?_
        obtain ⟨hn7, hd⟩ := m_g_e hd
        obtain ⟨e1, e2⟩ := m_s_e hd
        have e2 := congrArg (x_ov Z) e2
        refine W.widen (k := 0) (n := 0) (Nat.le_of_ble_eq_true rfl) (Nat.le_of_ble_eq_true rfl) ?_
        exact W.zret hx hb hr (m_narC hn7).1 (fun t ht hW => ⟨⟨_, (x_ov Z u2), rfl, ⟨e1, e2⟩, by show mP _ _ t.heap; rw [ht]; exact hP⟩, hS.F ht⟩) hS.2.2 dX7_written_29
  · have hd := m_i_f c4 hd
    refine lv_bipush (v := 97) hx hb dX7_written_7 (by decide) ?_
    refine lv_iload_n hx hb dX7_written_9 rfl (lv_at hl 0 rfl) ?_
    refine lv_iadd hx hb dX7_written_10 ?_
    refine lv_i2c (v := ((97 + p0).toUInt32 % 65536).toInt32) hx hb dX7_written_11 rfl ?_
    obtain ⟨hn8, hd⟩ := m_g_e hd
    obtain ⟨e1, e2⟩ := m_s_e hd
    have e2 := congrArg (x_ov Z) e2
    refine W.widen (k := 0) (n := 0) (Nat.le_of_ble_eq_true rfl) (Nat.le_of_ble_eq_true rfl) ?_
    exact W.zret hx hb hr (m_narC hn8).1 (fun t ht hW => ⟨⟨_, (x_ov Z u2), rfl, ⟨e1, e2⟩, by show mP _ _ t.heap; rw [ht]; exact hP⟩, hS.F ht⟩) hS.2.2 dX7_written_12


noncomputable def f_X7_length (u : xS) (p0 : Int32) : Option (Int32 × xS) := m_g (¬ (p0 < 0 ∨ 96 ≤ p0.toNatClampNeg)) <| m_b (f_X7_sized u (u.2 5 p0.toNatClampNeg)) fun r2 u3 => m_g (¬ (p0 < 0 ∨ 96 ≤ p0.toNatClampNeg)) <| m_b (f_X7_sized u3 (u3.2 6 p0.toNatClampNeg)) fun r6 u7 => some ((4 + r2) + r6, u7)
set_option maxHeartbeats 1000000 in
set_option maxRecDepth 100000 in
theorem c_X7_length (l : Launch) (G : m_G) (Z : xB) (hZ : x_ok Z) (u u' : xS) (p0 : Int32) (r : Int32) (hd : f_X7_length u p0 = some (r, u')) : Met l yX7_length wsX7_length ({ frames := 3, cells := 0, slots := 0, locals := 64 } : Room) (m_Pc G (x_ov Z u) [.ref (Z.2.1), .int (p0)]) (m_Qi G r (x_ov Z u')) 0 0 (fun q => G.1 ≤ q) := by
  refine Met.ofW (cc := cX7_length) (maxL := 2) (ret := (some .int)) (by decide +kernel) rfl ?_
  intro p e s m args below meth c s₁ B hml hv
  obtain ⟨rfl, hM, hP⟩ := hv
  have hx := B.exec
  have hb := B.bytes
  have hr := B.returns
  have hts := atoms_spec (ws := wsX7_length) B.pre
  have hown : s.vm.findClass RX7 = some m.cls := findClass_of_methodNamed B.named
  have hlocks := B.notSynchronized
  have hin10 : ∀ w ∈ u_ws RX7 TX7 32, w ∈ wsX7_length := by decide +kernel
  have hS : va_S (fun q => G.1 ≤ q) s.heap s.heap [] := va_S.rf
  have hl := lv_entry ([.ref (Z.2.1), .int (p0)]) (n := 2) (Nat.le_of_ble_eq_true rfl)
  rw [lg_entry_eq]
  generalize (lg_sl ([.ref (Z.2.1), .int (p0)]) ++ List.replicate (2 - (lg_sl ([.ref (Z.2.1), .int (p0)])).length) Slot.unset).toArray = ls at hl ⊢
  have hl : lv_has ls 2 [(0, .ref (Z.2.1)), (1, .int (p0))] := hl
  refine lv_iconst (v := 4) hx hb dX7_length_0 (by decide) ?_
  refine lv_aload_n hx hb dX7_length_1 rfl (lv_at hl 0 rfl) ?_
  refine x_getA (own := RX7) (ref := RX7) hx hb hts hin10 hown hM.1 hZ hP 5 (by decide) (hts (.fieldLink RX7 22 "CellNotebookModel" "left" "[I") (by decide +kernel)) (fun _ h9 => h9) dX7_length_2 ?_
  refine lv_iload_n hx hb dX7_length_5 rfl (lv_at hl 1 rfl) ?_
  obtain ⟨hg1, hd⟩ := m_g_e hd
  refine x_ald hx hb hM.1 hZ hP 5 (by decide) hg1 dX7_length_6 ?_
  obtain ⟨r2, u3, hc4, hd⟩ := m_b_e hd
  refine m_calli (k := 0) (n := 0) (va_runS (As := [.int (u.2 5 p0.toNatClampNeg)]) (rest := [.int (4)]) ⟨hx, hb, hml, hown, hts⟩ (c_X7_sized l G Z hZ u u3 (u.2 5 p0.toNatClampNeg) r2 hc4) (va_cwS 1 hts gX7_length_X7_sized rfl rfl rfl (by decide +kernel) ⟨(Nat.le_of_ble_eq_true rfl), (Nat.le_of_ble_eq_true rfl)⟩) (m_preS hM hP hS) rfl rfl hl.1 rfl (lv_room (Nat.le_of_ble_eq_true rfl)) dX7_length_7 ⟨(Nat.le_of_ble_eq_true rfl), (Nat.le_of_ble_eq_true rfl)⟩) hS ⟨(Nat.le_of_ble_eq_true rfl), (Nat.le_of_ble_eq_true rfl)⟩ (fun H locs hP hS => ?_)
  refine lv_iadd hx hb dX7_length_10 ?_
  refine lv_aload_n hx hb dX7_length_11 rfl (lv_at hl 0 rfl) ?_
  refine x_getA (own := RX7) (ref := RX7) hx hb hts hin10 hown hM.1 hZ hP 6 (by decide) (hts (.fieldLink RX7 25 "CellNotebookModel" "right" "[I") (by decide +kernel)) (fun _ h9 => h9) dX7_length_12 ?_
  refine lv_iload_n hx hb dX7_length_15 rfl (lv_at hl 1 rfl) ?_
  obtain ⟨hg5, hd⟩ := m_g_e hd
  refine x_ald hx hb hM.1 hZ hP 6 (by decide) hg5 dX7_length_16 ?_
  obtain ⟨r6, u7, hc8, hd⟩ := m_b_e hd
  refine m_calli (k := 0) (n := 0) (va_runS (As := [.int (u3.2 6 p0.toNatClampNeg)]) (rest := [.int (4 + r2)]) ⟨hx, hb, hml, hown, hts⟩ (c_X7_sized l G Z hZ u3 u7 (u3.2 6 p0.toNatClampNeg) r6 hc8) (va_cwS 1 hts gX7_length_X7_sized rfl rfl rfl (by decide +kernel) ⟨(Nat.le_of_ble_eq_true rfl), (Nat.le_of_ble_eq_true rfl)⟩) (m_preS hM hP hS) rfl rfl hl.1 rfl (lv_room (Nat.le_of_ble_eq_true rfl)) dX7_length_17 ⟨(Nat.le_of_ble_eq_true rfl), (Nat.le_of_ble_eq_true rfl)⟩) hS ⟨(Nat.le_of_ble_eq_true rfl), (Nat.le_of_ble_eq_true rfl)⟩ (fun H locs hP hS => ?_)
  refine lv_iadd hx hb dX7_length_20 ?_
  obtain ⟨e1, e2⟩ := m_s_e hd
  have e2 := congrArg (x_ov Z) e2
  refine W.widen (k := 0) (n := 0) (Nat.le_of_ble_eq_true rfl) (Nat.le_of_ble_eq_true rfl) ?_
  exact W.iret hx hb hr (fun t ht hW => ⟨⟨_, (x_ov Z u7), rfl, ⟨e1, e2⟩, by show mP _ _ t.heap; rw [ht]; exact hP⟩, hS.F ht⟩) hS.2.2 dX7_length_21


noncomputable def f_X7_lengthOf_4_b (k4 : xS → Int32 → Int32 → Int32 → Option (Int32 × xS)) (u : xS) (x1 : Int32) (x2 : Int32) (x3 : Int32) : Option (Int32 × xS) := m_g (¬ (x1 < 0 ∨ 16 ≤ x1.toNatClampNeg)) <| if (u.2 2 x1.toNatClampNeg) ≤ x3 then (some (x2, u)) else (m_b (f_X7_length u ((6 * x1) + x3)) fun r103 u104 => k4 u104 x1 (x2 + r103) (x3 + 1))
noncomputable def f_X7_lengthOf_4 (n : Nat) : xS → Int32 → Int32 → Int32 → Option (Int32 × xS) := Nat.rec (motive := fun _ => xS → Int32 → Int32 → Int32 → Option (Int32 × xS)) (fun _ _ _ _ => none) (fun _ k => f_X7_lengthOf_4_b  k) n
noncomputable def f_X7_lengthOf (u : xS) (p0 : Int32) : Option (Int32 × xS) := f_X7_lengthOf_4 m_N u p0 0 0
set_option maxHeartbeats 1000000 in
set_option maxRecDepth 100000 in
theorem c_X7_lengthOf (l : Launch) (G : m_G) (Z : xB) (hZ : x_ok Z) (u u' : xS) (p0 : Int32) (r : Int32) (hd : f_X7_lengthOf u p0 = some (r, u')) : Met l yX7_lengthOf wsX7_lengthOf ({ frames := 4, cells := 0, slots := 0, locals := 85 } : Room) (m_Pc G (x_ov Z u) [.ref (Z.2.1), .int (p0)]) (m_Qi G r (x_ov Z u')) 0 0 (fun q => G.1 ≤ q) := by
  refine Met.ofW (cc := cX7_lengthOf) (maxL := 4) (ret := (some .int)) (by decide +kernel) rfl ?_
  intro p e s m args below meth c s₁ B hml hv
  obtain ⟨rfl, hM, hP⟩ := hv
  have hx := B.exec
  have hb := B.bytes
  have hr := B.returns
  have hts := atoms_spec (ws := wsX7_lengthOf) B.pre
  have hown : s.vm.findClass RX7 = some m.cls := findClass_of_methodNamed B.named
  have hlocks := B.notSynchronized
  have hin10 : ∀ w ∈ u_ws RX7 TX7 32, w ∈ wsX7_lengthOf := by decide +kernel
  have hS : va_S (fun q => G.1 ≤ q) s.heap s.heap [] := va_S.rf
  have J4 : ∀ (n4 : Nat) (u : xS) (x1 : Int32) (x2 : Int32) (x3 : Int32) (H : Heap) (locs : List Loc) (ls : Array Slot), f_X7_lengthOf_4 n4 u x1 x2 x3 = some (r, u') → mP G (x_ov Z u) H → va_S (fun q => G.1 ≤ q) s.heap H locs → lv_has ls 4 [(0, .ref (Z.2.1)), (1, .int (x1)), (2, .int (x2)), (3, .int (x3))] → W p l e ({ frames := 4, cells := 0, slots := 0, locals := 85 } : Room) s m ([.ref (Z.2.1), .int (p0)] : List Value).toArray below meth c H locs 0 0 (MQ below (m_Qi G r (x_ov Z u')) ([.ref (Z.2.1), .int (p0)] : List Value).toArray s 0 0 (fun q => G.1 ≤ q)) (F0 m 4 ls []) := by
    intro n4
    induction n4 with
    | zero => intro u x1 x2 x3 H locs ls hd; exact absurd (show (none : Option (Int32 × xS)) = some _ from hd) (fun h => nomatch h)
    | succ n4 ih4 =>
      intro u x1 x2 x3 H locs ls hd hP hS hl
      have hd : f_X7_lengthOf_4_b (f_X7_lengthOf_4 n4) u x1 x2 x3 = some (r, u') := hd
      refine lv_iload_n hx hb dX7_lengthOf_4 rfl (lv_at hl 3 rfl) ?_
      refine lv_aload_n hx hb dX7_lengthOf_5 rfl (lv_at hl 0 rfl) ?_
      refine x_getA (own := RX7) (ref := RX7) hx hb hts hin10 hown hM.1 hZ hP 2 (by decide) (hts (.fieldLink RX7 13 "CellNotebookModel" "many" "[I") (by decide +kernel)) (fun _ h9 => h9) dX7_lengthOf_6 ?_
      refine lv_iload_n hx hb dX7_lengthOf_9 rfl (lv_at hl 1 rfl) ?_
      obtain ⟨hg101, hd⟩ := m_g_e hd
      refine x_ald hx hb hM.1 hZ hP 2 (by decide) hg101 dX7_lengthOf_10 ?_
      refine lv_icmp_ge (tgt := 33) hx hb dX7_lengthOf_11 (by decide) (fun c102 => ?_) (fun c102 => ?_)
      · have hd := m_i_t c102 hd
        refine lv_iload_n hx hb dX7_lengthOf_33 rfl (lv_at hl 2 rfl) ?_
        obtain ⟨e1, e2⟩ := m_s_e hd
        have e2 := congrArg (x_ov Z) e2
        refine W.widen (k := 0) (n := 0) (Nat.le_of_ble_eq_true rfl) (Nat.le_of_ble_eq_true rfl) ?_
        exact W.iret hx hb hr (fun t ht hW => ⟨⟨_, (x_ov Z u), rfl, ⟨e1, e2⟩, by show mP _ _ t.heap; rw [ht]; exact hP⟩, hS.F ht⟩) hS.2.2 dX7_lengthOf_34
      · have hd := m_i_f c102 hd
        refine lv_iload_n hx hb dX7_lengthOf_14 rfl (lv_at hl 2 rfl) ?_
        refine lv_aload_n hx hb dX7_lengthOf_15 rfl (lv_at hl 0 rfl) ?_
        refine lv_bipush (v := 6) hx hb dX7_lengthOf_16 (by decide) ?_
        refine lv_iload_n hx hb dX7_lengthOf_18 rfl (lv_at hl 1 rfl) ?_
        refine lv_imul hx hb dX7_lengthOf_19 ?_
        refine lv_iload_n hx hb dX7_lengthOf_20 rfl (lv_at hl 3 rfl) ?_
        refine lv_iadd hx hb dX7_lengthOf_21 ?_
        obtain ⟨r103, u104, hc105, hd⟩ := m_b_e hd
        refine m_calli (k := 0) (n := 0) (va_runV (As := [.int ((6 * x1) + x3)]) (rest := [.int (x2)]) ⟨hx, hb, hml, hown, hts⟩ (c_X7_length l G Z hZ u u104 ((6 * x1) + x3) r103 hc105) (cwV 1 hts gX7_lengthOf_X7_length rfl rfl rfl (by decide +kernel) ⟨(Nat.le_of_ble_eq_true rfl), (Nat.le_of_ble_eq_true rfl)⟩) (m_preV (C := RX7) (T := TX7) (N := 32) hM hP hS rfl (by decide) hZ.1) rfl rfl hl.1 rfl (lv_room (Nat.le_of_ble_eq_true rfl)) dX7_lengthOf_22 ⟨(Nat.le_of_ble_eq_true rfl), (Nat.le_of_ble_eq_true rfl)⟩) hS ⟨(Nat.le_of_ble_eq_true rfl), (Nat.le_of_ble_eq_true rfl)⟩ (fun H locs hP hS => ?_)
        refine lv_iadd hx hb dX7_lengthOf_25 ?_
        refine lv_istore_n (lv' := [(2, .int (x2 + r103)), (0, .ref (Z.2.1)), (1, .int (x1)), (3, .int (x3))]) hx hb dX7_lengthOf_26 rfl hl (by decide) rfl (fun ls hl => ?_)
        refine lv_iinc (v := x3 + 1) (lv' := [(3, .int (x3 + 1)), (2, .int (x2 + r103)), (0, .ref (Z.2.1)), (1, .int (x1))]) hx hb dX7_lengthOf_27 hl (k := 3) rfl rfl (by decide) rfl (fun ls hl => ?_)
        refine lv_goto (tgt := 4) hx hb dX7_lengthOf_30 (by decide) ?_
        refine W.widen (k := 0) (n := 0) (Nat.le_of_ble_eq_true rfl) (Nat.le_of_ble_eq_true rfl) ?_
        exact ih4 u104 x1 (x2 + r103) (x3 + 1) _ _ _ hd hP hS (lv_sub hl [2, 3, 1, 0] rfl)
  have hl := lv_entry ([.ref (Z.2.1), .int (p0)]) (n := 4) (Nat.le_of_ble_eq_true rfl)
  rw [lg_entry_eq]
  generalize (lg_sl ([.ref (Z.2.1), .int (p0)]) ++ List.replicate (4 - (lg_sl ([.ref (Z.2.1), .int (p0)])).length) Slot.unset).toArray = ls at hl ⊢
  have hl : lv_has ls 4 [(0, .ref (Z.2.1)), (1, .int (p0))] := hl
  refine lv_iconst (v := 0) hx hb dX7_lengthOf_0 (by decide) ?_
  refine lv_istore_n (lv' := [(2, .int (0)), (0, .ref (Z.2.1)), (1, .int (p0))]) hx hb dX7_lengthOf_1 rfl hl (by decide) rfl (fun ls hl => ?_)
  refine lv_iconst (v := 0) hx hb dX7_lengthOf_2 (by decide) ?_
  refine lv_istore_n (lv' := [(3, .int (0)), (2, .int (0)), (0, .ref (Z.2.1)), (1, .int (p0))]) hx hb dX7_lengthOf_3 rfl hl (by decide) rfl (fun ls hl => ?_)
  refine W.widen (k := 0) (n := 0) (Nat.le_of_ble_eq_true rfl) (Nat.le_of_ble_eq_true rfl) ?_
  exact J4 m_N u p0 0 0 _ _ _ hd hP hS (lv_sub hl [2, 3, 1, 0] rfl)


noncomputable def f_X7_source_23 (u : xS) (s0 : Int32) : Option (Int32 × xS) := some (s0, u)
noncomputable def f_X7_source (u : xS) (p0 : Int32) : Option (Int32 × xS) := m_b (f_X7_isCell u p0) fun r1 u2 => m_b (f_X7_goes u2 r1 1 1) fun r4 u5 => if r4 = (0 : Int32) then (f_X7_source_23 u5 0) else (m_b (f_X7_lengthOf u5 p0) fun r8 u9 => f_X7_source_23 u9 r8)
set_option maxHeartbeats 1000000 in
set_option maxRecDepth 100000 in
theorem c_X7_source (l : Launch) (G : m_G) (Z : xB) (hZ : x_ok Z) (u u' : xS) (p0 : Int32) (r : Int32) (hd : f_X7_source u p0 = some (r, u')) : Met l yX7_source wsX7_source ({ frames := 5, cells := 0, slots := 0, locals := 108 } : Room) (m_Pc G (x_ov Z u) [.ref (Z.2.1), .int (p0)]) (m_Qi G r (x_ov Z u')) 0 0 (fun q => G.1 ≤ q) := by
  refine Met.ofW (cc := cX7_source) (maxL := 2) (ret := (some .int)) (by decide +kernel) rfl ?_
  intro p e s m args below meth c s₁ B hml hv
  obtain ⟨rfl, hM, hP⟩ := hv
  have hx := B.exec
  have hb := B.bytes
  have hr := B.returns
  have hts := atoms_spec (ws := wsX7_source) B.pre
  have hown : s.vm.findClass RX7 = some m.cls := findClass_of_methodNamed B.named
  have hlocks := B.notSynchronized
  have hS : va_S (fun q => G.1 ≤ q) s.heap s.heap [] := va_S.rf
  have J23 : ∀ (u : xS) (s0 : Int32) (H : Heap) (locs : List Loc) (ls : Array Slot), f_X7_source_23 u s0 = some (r, u') → mP G (x_ov Z u) H → va_S (fun q => G.1 ≤ q) s.heap H locs → lv_has ls 2 [] → W p l e ({ frames := 5, cells := 0, slots := 0, locals := 108 } : Room) s m ([.ref (Z.2.1), .int (p0)] : List Value).toArray below meth c H locs 0 0 (MQ below (m_Qi G r (x_ov Z u')) ([.ref (Z.2.1), .int (p0)] : List Value).toArray s 0 0 (fun q => G.1 ≤ q)) (F0 m 23 ls [.int (s0)]) := by
    intro u s0 H locs ls hd hP hS hl
    obtain ⟨e1, e2⟩ := m_s_e hd
    have e2 := congrArg (x_ov Z) e2
    refine W.widen (k := 0) (n := 0) (Nat.le_of_ble_eq_true rfl) (Nat.le_of_ble_eq_true rfl) ?_
    exact W.iret hx hb hr (fun t ht hW => ⟨⟨_, (x_ov Z u), rfl, ⟨e1, e2⟩, by show mP _ _ t.heap; rw [ht]; exact hP⟩, hS.F ht⟩) hS.2.2 dX7_source_23
  have hl := lv_entry ([.ref (Z.2.1), .int (p0)]) (n := 2) (Nat.le_of_ble_eq_true rfl)
  rw [lg_entry_eq]
  generalize (lg_sl ([.ref (Z.2.1), .int (p0)]) ++ List.replicate (2 - (lg_sl ([.ref (Z.2.1), .int (p0)])).length) Slot.unset).toArray = ls at hl ⊢
  have hl : lv_has ls 2 [(0, .ref (Z.2.1)), (1, .int (p0))] := hl
  refine lv_aload_n hx hb dX7_source_0 rfl (lv_at hl 0 rfl) ?_
  refine lv_aload_n hx hb dX7_source_1 rfl (lv_at hl 0 rfl) ?_
  refine lv_iload_n hx hb dX7_source_2 rfl (lv_at hl 1 rfl) ?_
  obtain ⟨r1, u2, hc3, hd⟩ := m_b_e hd
  refine m_calli (k := 0) (n := 0) (va_runV (As := [.int (p0)]) (rest := [.ref (Z.2.1)]) ⟨hx, hb, hml, hown, hts⟩ (c_X7_isCell l G Z hZ u u2 p0 r1 hc3) (cwV 1 hts gX7_source_X7_isCell rfl rfl rfl (by decide +kernel) ⟨(Nat.le_of_ble_eq_true rfl), (Nat.le_of_ble_eq_true rfl)⟩) (m_preV (C := RX7) (T := TX7) (N := 32) hM hP hS rfl (by decide) hZ.1) rfl rfl hl.1 rfl (lv_room (Nat.le_of_ble_eq_true rfl)) dX7_source_3 ⟨(Nat.le_of_ble_eq_true rfl), (Nat.le_of_ble_eq_true rfl)⟩) hS ⟨(Nat.le_of_ble_eq_true rfl), (Nat.le_of_ble_eq_true rfl)⟩ (fun H locs hP hS => ?_)
  refine lv_iconst (v := 1) hx hb dX7_source_6 (by decide) ?_
  refine lv_iconst (v := 1) hx hb dX7_source_7 (by decide) ?_
  obtain ⟨r4, u5, hc6, hd⟩ := m_b_e hd
  refine m_calli (k := 0) (n := 0) (va_runV (As := [.int (r1), .int (1), .int (1)]) (rest := []) ⟨hx, hb, hml, hown, hts⟩ (c_X7_goes l G Z hZ u2 u5 r1 1 1 r4 hc6) (cwV 3 hts gX7_source_X7_goes rfl rfl rfl (by decide +kernel) ⟨(Nat.le_of_ble_eq_true rfl), (Nat.le_of_ble_eq_true rfl)⟩) (m_preV (C := RX7) (T := TX7) (N := 32) hM hP hS rfl (by decide) hZ.1) rfl rfl hl.1 rfl (lv_room (Nat.le_of_ble_eq_true rfl)) dX7_source_8 ⟨(Nat.le_of_ble_eq_true rfl), (Nat.le_of_ble_eq_true rfl)⟩) hS ⟨(Nat.le_of_ble_eq_true rfl), (Nat.le_of_ble_eq_true rfl)⟩ (fun H locs hP hS => ?_)
  refine lv_if_eq (tgt := 22) hx hb dX7_source_11 (by decide) (fun c7 => ?_) (fun c7 => ?_)
  · have hd := m_i_t c7 hd
    refine lv_iconst (v := 0) hx hb dX7_source_22 (by decide) ?_
    refine W.widen (k := 0) (n := 0) (Nat.le_of_ble_eq_true rfl) (Nat.le_of_ble_eq_true rfl) ?_
    exact J23 u5 0 _ _ _ hd hP hS (lv_sub hl [] rfl)
  · have hd := m_i_f c7 hd
    refine lv_aload_n hx hb dX7_source_14 rfl (lv_at hl 0 rfl) ?_
    refine lv_iload_n hx hb dX7_source_15 rfl (lv_at hl 1 rfl) ?_
    obtain ⟨r8, u9, hc10, hd⟩ := m_b_e hd
    refine m_calli (k := 0) (n := 0) (va_runV (As := [.int (p0)]) (rest := []) ⟨hx, hb, hml, hown, hts⟩ (c_X7_lengthOf l G Z hZ u5 u9 p0 r8 hc10) (cwV 1 hts gX7_source_X7_lengthOf rfl rfl rfl (by decide +kernel) ⟨(Nat.le_of_ble_eq_true rfl), (Nat.le_of_ble_eq_true rfl)⟩) (m_preV (C := RX7) (T := TX7) (N := 32) hM hP hS rfl (by decide) hZ.1) rfl rfl hl.1 rfl (lv_room (Nat.le_of_ble_eq_true rfl)) dX7_source_16 ⟨(Nat.le_of_ble_eq_true rfl), (Nat.le_of_ble_eq_true rfl)⟩) hS ⟨(Nat.le_of_ble_eq_true rfl), (Nat.le_of_ble_eq_true rfl)⟩ (fun H locs hP hS => ?_)
    refine lv_goto (tgt := 23) hx hb dX7_source_19 (by decide) ?_
    refine W.widen (k := 0) (n := 0) (Nat.le_of_ble_eq_true rfl) (Nat.le_of_ble_eq_true rfl) ?_
    exact J23 u9 r8 _ _ _ hd hP hS (lv_sub hl [] rfl)


noncomputable def f_X7_sign_31 (u : xS) (s0 : Int32) : Option (Int32 × xS) := m_g (vp_nar .char s0 = s0) <| some (s0, u)
noncomputable def f_X7_sign (u : xS) (p0 : Int32) : Option (Int32 × xS) := if p0 = (0 : Int32) then (f_X7_sign_31 u 43) else (if p0 = 1 then (f_X7_sign_31 u 45) else (if p0 = 2 then (f_X7_sign_31 u 42) else (f_X7_sign_31 u 47)))
set_option maxHeartbeats 1000000 in
set_option maxRecDepth 100000 in
theorem c_X7_sign (l : Launch) (G : m_G) (Z : xB) (hZ : x_ok Z) (u u' : xS) (p0 : Int32) (r : Int32) (hd : f_X7_sign u p0 = some (r, u')) : Met l yX7_sign wsX7_sign ({ frames := 0, cells := 0, slots := 0, locals := 0 } : Room) (m_Pc G (x_ov Z u) [.int (p0)]) (m_Qi G r (x_ov Z u')) 0 0 (fun q => G.1 ≤ q) := by
  refine Met.ofW (cc := cX7_sign) (maxL := 1) (ret := (some .char)) (by decide +kernel) rfl ?_
  intro p e s m args below meth c s₁ B hml hv
  obtain ⟨rfl, hM, hP⟩ := hv
  have hx := B.exec
  have hb := B.bytes
  have hr := B.returns
  have hts := atoms_spec (ws := wsX7_sign) B.pre
  have hown : s.vm.findClass RX7 = some m.cls := findClass_of_methodNamed B.named
  have hlocks := B.notSynchronized
  have hS : va_S (fun q => G.1 ≤ q) s.heap s.heap [] := va_S.rf
  have J31 : ∀ (u : xS) (s0 : Int32) (H : Heap) (locs : List Loc) (ls : Array Slot), f_X7_sign_31 u s0 = some (r, u') → mP G (x_ov Z u) H → va_S (fun q => G.1 ≤ q) s.heap H locs → lv_has ls 1 [] → W p l e ({ frames := 0, cells := 0, slots := 0, locals := 0 } : Room) s m ([.int (p0)] : List Value).toArray below meth c H locs 0 0 (MQ below (m_Qi G r (x_ov Z u')) ([.int (p0)] : List Value).toArray s 0 0 (fun q => G.1 ≤ q)) (F0 m 31 ls [.int (s0)]) := by
    intro u s0 H locs ls hd hP hS hl
    obtain ⟨hn104, hd⟩ := m_g_e hd
    obtain ⟨e1, e2⟩ := m_s_e hd
    have e2 := congrArg (x_ov Z) e2
    refine W.widen (k := 0) (n := 0) (Nat.le_of_ble_eq_true rfl) (Nat.le_of_ble_eq_true rfl) ?_
    exact W.zret hx hb hr (m_narC hn104).1 (fun t ht hW => ⟨⟨_, (x_ov Z u), rfl, ⟨e1, e2⟩, by show mP _ _ t.heap; rw [ht]; exact hP⟩, hS.F ht⟩) hS.2.2 dX7_sign_31
  have hl := lv_entry ([.int (p0)]) (n := 1) (Nat.le_of_ble_eq_true rfl)
  rw [lg_entry_eq]
  generalize (lg_sl ([.int (p0)]) ++ List.replicate (1 - (lg_sl ([.int (p0)])).length) Slot.unset).toArray = ls at hl ⊢
  have hl : lv_has ls 1 [(0, .int (p0))] := hl
  refine lv_iload_n hx hb dX7_sign_0 rfl (lv_at hl 0 rfl) ?_
  refine lv_if_ne (tgt := 9) hx hb dX7_sign_1 (by decide) (fun c1 => ?_) (fun c1 => ?_)
  · have hd := m_i_f c1 hd
    refine lv_iload_n hx hb dX7_sign_9 rfl (lv_at hl 0 rfl) ?_
    refine lv_iconst (v := 1) hx hb dX7_sign_10 (by decide) ?_
    refine lv_icmp_ne (tgt := 19) hx hb dX7_sign_11 (by decide) (fun c2 => ?_) (fun c2 => ?_)
    · have hd := m_i_f c2 hd
      refine lv_iload_n hx hb dX7_sign_19 rfl (lv_at hl 0 rfl) ?_
      refine lv_iconst (v := 2) hx hb dX7_sign_20 (by decide) ?_
      refine lv_icmp_ne (tgt := 29) hx hb dX7_sign_21 (by decide) (fun c3 => ?_) (fun c3 => ?_)
      · have hd := m_i_f c3 hd
        refine lv_bipush (v := 47) hx hb dX7_sign_29 (by decide) ?_
        refine W.widen (k := 0) (n := 0) (Nat.le_of_ble_eq_true rfl) (Nat.le_of_ble_eq_true rfl) ?_
        exact J31 u 47 _ _ _ hd hP hS (lv_sub hl [] rfl)
      · have hd := m_i_t c3 hd
        refine lv_bipush (v := 42) hx hb dX7_sign_24 (by decide) ?_
        refine lv_goto (tgt := 31) hx hb dX7_sign_26 (by decide) ?_
        refine W.widen (k := 0) (n := 0) (Nat.le_of_ble_eq_true rfl) (Nat.le_of_ble_eq_true rfl) ?_
        exact J31 u 42 _ _ _ hd hP hS (lv_sub hl [] rfl)
    · have hd := m_i_t c2 hd
      refine lv_bipush (v := 45) hx hb dX7_sign_14 (by decide) ?_
      refine lv_goto (tgt := 31) hx hb dX7_sign_16 (by decide) ?_
      refine W.widen (k := 0) (n := 0) (Nat.le_of_ble_eq_true rfl) (Nat.le_of_ble_eq_true rfl) ?_
      exact J31 u 45 _ _ _ hd hP hS (lv_sub hl [] rfl)
  · have hd := m_i_t c1 hd
    refine lv_bipush (v := 43) hx hb dX7_sign_4 (by decide) ?_
    refine lv_goto (tgt := 31) hx hb dX7_sign_6 (by decide) ?_
    refine W.widen (k := 0) (n := 0) (Nat.le_of_ble_eq_true rfl) (Nat.le_of_ble_eq_true rfl) ?_
    exact J31 u 43 _ _ _ hd hP hS (lv_sub hl [] rfl)


noncomputable def f_X7_charOf_102 (u : xS) (s0 : Int32) : Option (Int32 × xS) := m_g (vp_nar .char s0 = s0) <| some (s0, u)
noncomputable def f_X7_charOf_71 (u : xS) (s0 : Int32) : Option (Int32 × xS) := m_g (vp_nar .char s0 = s0) <| some (s0, u)
noncomputable def f_X7_charOf_36 (u : xS) (s0 : Int32) : Option (Int32 × xS) := m_g (vp_nar .char s0 = s0) <| some (s0, u)
noncomputable def f_X7_charOf (u : xS) (p0 : Int32) (p1 : Int32) : Option (Int32 × xS) := m_g (¬ (p0 < 0 ∨ 96 ≤ p0.toNatClampNeg)) <| m_b (f_X7_sized u (u.2 5 p0.toNatClampNeg)) fun r2 u3 => if 2 ≤ p1 then (if (2 + r2) < p1 then (m_b (f_X7_length u3 p0) fun r7 u8 => if p1 = (r7 - 1) then (f_X7_charOf_102 u8 10) else (m_g (¬ (p0 < 0 ∨ 96 ≤ p0.toNatClampNeg)) <| m_b (f_X7_written u8 (u8.2 6 p0.toNatClampNeg) ((p1 - (2 + r2)) - 1)) fun r12 u13 => f_X7_charOf_102 u13 r12)) else (if p1 = (2 + r2) then (m_g (¬ (p0 < 0 ∨ 96 ≤ p0.toNatClampNeg)) <| m_b (f_X7_sign u3 (u3.2 4 p0.toNatClampNeg)) fun r21 u22 => f_X7_charOf_71 u22 r21) else (m_g (¬ (p0 < 0 ∨ 96 ≤ p0.toNatClampNeg)) <| m_b (f_X7_written u3 (u3.2 5 p0.toNatClampNeg) (p1 - 2)) fun r17 u18 => f_X7_charOf_71 u18 r17))) else (if p1 = (0 : Int32) then (m_g (¬ (p0 < 0 ∨ 96 ≤ p0.toNatClampNeg)) <| f_X7_charOf_36 u3 (((97 + (u3.2 3 p0.toNatClampNeg)).toUInt32 % 65536).toInt32)) else (f_X7_charOf_36 u3 61))
set_option maxHeartbeats 1000000 in
set_option maxRecDepth 100000 in
theorem c_X7_charOf (l : Launch) (G : m_G) (Z : xB) (hZ : x_ok Z) (u u' : xS) (p0 : Int32) (p1 : Int32) (r : Int32) (hd : f_X7_charOf u p0 p1 = some (r, u')) : Met l yX7_charOf wsX7_charOf ({ frames := 4, cells := 0, slots := 0, locals := 88 } : Room) (m_Pc G (x_ov Z u) [.ref (Z.2.1), .int (p0), .int (p1)]) (m_Qi G r (x_ov Z u')) 0 0 (fun q => G.1 ≤ q) := by
  refine Met.ofW (cc := cX7_charOf) (maxL := 4) (ret := (some .char)) (by decide +kernel) rfl ?_
  intro p e s m args below meth c s₁ B hml hv
  obtain ⟨rfl, hM, hP⟩ := hv
  have hx := B.exec
  have hb := B.bytes
  have hr := B.returns
  have hts := atoms_spec (ws := wsX7_charOf) B.pre
  have hown : s.vm.findClass RX7 = some m.cls := findClass_of_methodNamed B.named
  have hlocks := B.notSynchronized
  have hin10 : ∀ w ∈ u_ws RX7 TX7 32, w ∈ wsX7_charOf := by decide +kernel
  have hS : va_S (fun q => G.1 ≤ q) s.heap s.heap [] := va_S.rf
  have J102 : ∀ (u : xS) (s0 : Int32) (H : Heap) (locs : List Loc) (ls : Array Slot), f_X7_charOf_102 u s0 = some (r, u') → mP G (x_ov Z u) H → va_S (fun q => G.1 ≤ q) s.heap H locs → lv_has ls 4 [] → W p l e ({ frames := 4, cells := 0, slots := 0, locals := 88 } : Room) s m ([.ref (Z.2.1), .int (p0), .int (p1)] : List Value).toArray below meth c H locs 0 0 (MQ below (m_Qi G r (x_ov Z u')) ([.ref (Z.2.1), .int (p0), .int (p1)] : List Value).toArray s 0 0 (fun q => G.1 ≤ q)) (F0 m 102 ls [.int (s0)]) := by
    intro u s0 H locs ls hd hP hS hl
    obtain ⟨hn328, hd⟩ := m_g_e hd
    obtain ⟨e1, e2⟩ := m_s_e hd
    have e2 := congrArg (x_ov Z) e2
    refine W.widen (k := 0) (n := 0) (Nat.le_of_ble_eq_true rfl) (Nat.le_of_ble_eq_true rfl) ?_
    exact W.zret hx hb hr (m_narC hn328).1 (fun t ht hW => ⟨⟨_, (x_ov Z u), rfl, ⟨e1, e2⟩, by show mP _ _ t.heap; rw [ht]; exact hP⟩, hS.F ht⟩) hS.2.2 dX7_charOf_102
  have J71 : ∀ (u : xS) (s0 : Int32) (H : Heap) (locs : List Loc) (ls : Array Slot), f_X7_charOf_71 u s0 = some (r, u') → mP G (x_ov Z u) H → va_S (fun q => G.1 ≤ q) s.heap H locs → lv_has ls 4 [] → W p l e ({ frames := 4, cells := 0, slots := 0, locals := 88 } : Room) s m ([.ref (Z.2.1), .int (p0), .int (p1)] : List Value).toArray below meth c H locs 0 0 (MQ below (m_Qi G r (x_ov Z u')) ([.ref (Z.2.1), .int (p0), .int (p1)] : List Value).toArray s 0 0 (fun q => G.1 ≤ q)) (F0 m 71 ls [.int (s0)]) := by
    intro u s0 H locs ls hd hP hS hl
    obtain ⟨hn227, hd⟩ := m_g_e hd
    obtain ⟨e1, e2⟩ := m_s_e hd
    have e2 := congrArg (x_ov Z) e2
    refine W.widen (k := 0) (n := 0) (Nat.le_of_ble_eq_true rfl) (Nat.le_of_ble_eq_true rfl) ?_
    exact W.zret hx hb hr (m_narC hn227).1 (fun t ht hW => ⟨⟨_, (x_ov Z u), rfl, ⟨e1, e2⟩, by show mP _ _ t.heap; rw [ht]; exact hP⟩, hS.F ht⟩) hS.2.2 dX7_charOf_71
  have J36 : ∀ (u : xS) (s0 : Int32) (H : Heap) (locs : List Loc) (ls : Array Slot), f_X7_charOf_36 u s0 = some (r, u') → mP G (x_ov Z u) H → va_S (fun q => G.1 ≤ q) s.heap H locs → lv_has ls 4 [] → W p l e ({ frames := 4, cells := 0, slots := 0, locals := 88 } : Room) s m ([.ref (Z.2.1), .int (p0), .int (p1)] : List Value).toArray below meth c H locs 0 0 (MQ below (m_Qi G r (x_ov Z u')) ([.ref (Z.2.1), .int (p0), .int (p1)] : List Value).toArray s 0 0 (fun q => G.1 ≤ q)) (F0 m 36 ls [.int (s0)]) := by
    intro u s0 H locs ls hd hP hS hl
    obtain ⟨hn126, hd⟩ := m_g_e hd
    obtain ⟨e1, e2⟩ := m_s_e hd
    have e2 := congrArg (x_ov Z) e2
    refine W.widen (k := 0) (n := 0) (Nat.le_of_ble_eq_true rfl) (Nat.le_of_ble_eq_true rfl) ?_
    exact W.zret hx hb hr (m_narC hn126).1 (fun t ht hW => ⟨⟨_, (x_ov Z u), rfl, ⟨e1, e2⟩, by show mP _ _ t.heap; rw [ht]; exact hP⟩, hS.F ht⟩) hS.2.2 dX7_charOf_36
  have hl := lv_entry ([.ref (Z.2.1), .int (p0), .int (p1)]) (n := 4) (Nat.le_of_ble_eq_true rfl)
  rw [lg_entry_eq]
  generalize (lg_sl ([.ref (Z.2.1), .int (p0), .int (p1)]) ++ List.replicate (4 - (lg_sl ([.ref (Z.2.1), .int (p0), .int (p1)])).length) Slot.unset).toArray = ls at hl ⊢
  have hl : lv_has ls 4 [(0, .ref (Z.2.1)), (1, .int (p0)), (2, .int (p1))] := hl
  refine lv_iconst (v := 2) hx hb dX7_charOf_0 (by decide) ?_
  refine lv_aload_n hx hb dX7_charOf_1 rfl (lv_at hl 0 rfl) ?_
  refine x_getA (own := RX7) (ref := RX7) hx hb hts hin10 hown hM.1 hZ hP 5 (by decide) (hts (.fieldLink RX7 22 "CellNotebookModel" "left" "[I") (by decide +kernel)) (fun _ h9 => h9) dX7_charOf_2 ?_
  refine lv_iload_n hx hb dX7_charOf_5 rfl (lv_at hl 1 rfl) ?_
  obtain ⟨hg1, hd⟩ := m_g_e hd
  refine x_ald hx hb hM.1 hZ hP 5 (by decide) hg1 dX7_charOf_6 ?_
  obtain ⟨r2, u3, hc4, hd⟩ := m_b_e hd
  refine m_calli (k := 0) (n := 0) (va_runS (As := [.int (u.2 5 p0.toNatClampNeg)]) (rest := [.int (2)]) ⟨hx, hb, hml, hown, hts⟩ (c_X7_sized l G Z hZ u u3 (u.2 5 p0.toNatClampNeg) r2 hc4) (va_cwS 1 hts gX7_charOf_X7_sized rfl rfl rfl (by decide +kernel) ⟨(Nat.le_of_ble_eq_true rfl), (Nat.le_of_ble_eq_true rfl)⟩) (m_preS hM hP hS) rfl rfl hl.1 rfl (lv_room (Nat.le_of_ble_eq_true rfl)) dX7_charOf_7 ⟨(Nat.le_of_ble_eq_true rfl), (Nat.le_of_ble_eq_true rfl)⟩) hS ⟨(Nat.le_of_ble_eq_true rfl), (Nat.le_of_ble_eq_true rfl)⟩ (fun H locs hP hS => ?_)
  refine lv_iadd hx hb dX7_charOf_10 ?_
  refine lv_istore_n (lv' := [(3, .int (2 + r2)), (0, .ref (Z.2.1)), (1, .int (p0)), (2, .int (p1))]) hx hb dX7_charOf_11 rfl hl (by decide) rfl (fun ls hl => ?_)
  refine lv_iload_n hx hb dX7_charOf_12 rfl (lv_at hl 3 rfl) ?_
  refine lv_iconst (v := 2) hx hb dX7_charOf_13 (by decide) ?_
  refine lv_icmp_ge (tgt := 37) hx hb dX7_charOf_14 (by decide) (fun c5 => ?_) (fun c5 => ?_)
  · have hd := m_i_t c5 hd
    refine lv_iload_n hx hb dX7_charOf_37 rfl (lv_at hl 3 rfl) ?_
    refine lv_iload_n hx hb dX7_charOf_38 rfl (lv_at hl 0 rfl) ?_
    refine lv_icmp_gt (tgt := 72) hx hb dX7_charOf_39 (by decide) (fun c6 => ?_) (fun c6 => ?_)
    · have hd := m_i_t c6 hd
      refine lv_iload_n hx hb dX7_charOf_72 rfl (lv_at hl 3 rfl) ?_
      refine lv_aload_n hx hb dX7_charOf_73 rfl (lv_at hl 1 rfl) ?_
      refine lv_iload_n hx hb dX7_charOf_74 rfl (lv_at hl 2 rfl) ?_
      obtain ⟨r7, u8, hc9, hd⟩ := m_b_e hd
      refine m_calli (k := 0) (n := 0) (va_runV (As := [.int (p0)]) (rest := [.int (p1)]) ⟨hx, hb, hml, hown, hts⟩ (c_X7_length l G Z hZ u3 u8 p0 r7 hc9) (cwV 1 hts gX7_charOf_X7_length rfl rfl rfl (by decide +kernel) ⟨(Nat.le_of_ble_eq_true rfl), (Nat.le_of_ble_eq_true rfl)⟩) (m_preV (C := RX7) (T := TX7) (N := 32) hM hP hS rfl (by decide) hZ.1) rfl rfl hl.1 rfl (lv_room (Nat.le_of_ble_eq_true rfl)) dX7_charOf_75 ⟨(Nat.le_of_ble_eq_true rfl), (Nat.le_of_ble_eq_true rfl)⟩) hS ⟨(Nat.le_of_ble_eq_true rfl), (Nat.le_of_ble_eq_true rfl)⟩ (fun H locs hP hS => ?_)
      refine lv_iconst (v := 1) hx hb dX7_charOf_78 (by decide) ?_
      refine lv_isub hx hb dX7_charOf_79 ?_
      refine lv_icmp_ne (tgt := 88) hx hb dX7_charOf_80 (by decide) (fun c10 => ?_) (fun c10 => ?_)
      · have hd := m_i_f c10 hd
        refine lv_aload_n hx hb dX7_charOf_88 rfl (lv_at hl 1 rfl) ?_
        refine x_getA (own := RX7) (ref := RX7) hx hb hts hin10 hown hM.1 hZ hP 6 (by decide) (hts (.fieldLink RX7 25 "CellNotebookModel" "right" "[I") (by decide +kernel)) (fun _ h9 => h9) dX7_charOf_89 ?_
        refine lv_iload_n hx hb dX7_charOf_92 rfl (lv_at hl 2 rfl) ?_
        obtain ⟨hg11, hd⟩ := m_g_e hd
        refine x_ald hx hb hM.1 hZ hP 6 (by decide) hg11 dX7_charOf_93 ?_
        refine lv_iload_n hx hb dX7_charOf_94 rfl (lv_at hl 3 rfl) ?_
        refine lv_iload_n hx hb dX7_charOf_95 rfl (lv_at hl 0 rfl) ?_
        refine lv_isub hx hb dX7_charOf_96 ?_
        refine lv_iconst (v := 1) hx hb dX7_charOf_97 (by decide) ?_
        refine lv_isub hx hb dX7_charOf_98 ?_
        obtain ⟨r12, u13, hc14, hd⟩ := m_b_e hd
        refine m_calli (k := 0) (n := 0) (va_runS (As := [.int (u8.2 6 p0.toNatClampNeg), .int ((p1 - (2 + r2)) - 1)]) (rest := []) ⟨hx, hb, hml, hown, hts⟩ (c_X7_written l G Z hZ u8 u13 (u8.2 6 p0.toNatClampNeg) ((p1 - (2 + r2)) - 1) r12 hc14) (va_cwS 2 hts gX7_charOf_X7_written rfl rfl rfl (by decide +kernel) ⟨(Nat.le_of_ble_eq_true rfl), (Nat.le_of_ble_eq_true rfl)⟩) (m_preS hM hP hS) rfl rfl hl.1 rfl (lv_room (Nat.le_of_ble_eq_true rfl)) dX7_charOf_99 ⟨(Nat.le_of_ble_eq_true rfl), (Nat.le_of_ble_eq_true rfl)⟩) hS ⟨(Nat.le_of_ble_eq_true rfl), (Nat.le_of_ble_eq_true rfl)⟩ (fun H locs hP hS => ?_)
        refine W.widen (k := 0) (n := 0) (Nat.le_of_ble_eq_true rfl) (Nat.le_of_ble_eq_true rfl) ?_
        exact J102 u13 r12 _ _ _ hd hP hS (lv_sub hl [] rfl)
      · have hd := m_i_t c10 hd
        refine lv_bipush (v := 10) hx hb dX7_charOf_83 (by decide) ?_
        refine lv_goto (tgt := 102) hx hb dX7_charOf_85 (by decide) ?_
        refine W.widen (k := 0) (n := 0) (Nat.le_of_ble_eq_true rfl) (Nat.le_of_ble_eq_true rfl) ?_
        exact J102 u8 10 _ _ _ hd hP hS (lv_sub hl [] rfl)
    · have hd := m_i_f c6 hd
      refine lv_iload_n hx hb dX7_charOf_42 rfl (lv_at hl 3 rfl) ?_
      refine lv_iload_n hx hb dX7_charOf_43 rfl (lv_at hl 0 rfl) ?_
      refine lv_icmp_ne (tgt := 59) hx hb dX7_charOf_44 (by decide) (fun c15 => ?_) (fun c15 => ?_)
      · have hd := m_i_f c15 hd
        refine lv_aload_n hx hb dX7_charOf_59 rfl (lv_at hl 1 rfl) ?_
        refine x_getA (own := RX7) (ref := RX7) hx hb hts hin10 hown hM.1 hZ hP 5 (by decide) (hts (.fieldLink RX7 22 "CellNotebookModel" "left" "[I") (by decide +kernel)) (fun _ h9 => h9) dX7_charOf_60 ?_
        refine lv_iload_n hx hb dX7_charOf_63 rfl (lv_at hl 2 rfl) ?_
        obtain ⟨hg16, hd⟩ := m_g_e hd
        refine x_ald hx hb hM.1 hZ hP 5 (by decide) hg16 dX7_charOf_64 ?_
        refine lv_iload_n hx hb dX7_charOf_65 rfl (lv_at hl 3 rfl) ?_
        refine lv_iconst (v := 2) hx hb dX7_charOf_66 (by decide) ?_
        refine lv_isub hx hb dX7_charOf_67 ?_
        obtain ⟨r17, u18, hc19, hd⟩ := m_b_e hd
        refine m_calli (k := 0) (n := 0) (va_runS (As := [.int (u3.2 5 p0.toNatClampNeg), .int (p1 - 2)]) (rest := []) ⟨hx, hb, hml, hown, hts⟩ (c_X7_written l G Z hZ u3 u18 (u3.2 5 p0.toNatClampNeg) (p1 - 2) r17 hc19) (va_cwS 2 hts gX7_charOf_X7_written rfl rfl rfl (by decide +kernel) ⟨(Nat.le_of_ble_eq_true rfl), (Nat.le_of_ble_eq_true rfl)⟩) (m_preS hM hP hS) rfl rfl hl.1 rfl (lv_room (Nat.le_of_ble_eq_true rfl)) dX7_charOf_68 ⟨(Nat.le_of_ble_eq_true rfl), (Nat.le_of_ble_eq_true rfl)⟩) hS ⟨(Nat.le_of_ble_eq_true rfl), (Nat.le_of_ble_eq_true rfl)⟩ (fun H locs hP hS => ?_)
        refine W.widen (k := 0) (n := 0) (Nat.le_of_ble_eq_true rfl) (Nat.le_of_ble_eq_true rfl) ?_
        exact J71 u18 r17 _ _ _ hd hP hS (lv_sub hl [] rfl)
      · have hd := m_i_t c15 hd
        refine lv_aload_n hx hb dX7_charOf_47 rfl (lv_at hl 1 rfl) ?_
        refine x_getA (own := RX7) (ref := RX7) hx hb hts hin10 hown hM.1 hZ hP 4 (by decide) (hts (.fieldLink RX7 19 "CellNotebookModel" "operation" "[I") (by decide +kernel)) (fun _ h9 => h9) dX7_charOf_48 ?_
        refine lv_iload_n hx hb dX7_charOf_51 rfl (lv_at hl 2 rfl) ?_
        obtain ⟨hg20, hd⟩ := m_g_e hd
        refine x_ald hx hb hM.1 hZ hP 4 (by decide) hg20 dX7_charOf_52 ?_
        obtain ⟨r21, u22, hc23, hd⟩ := m_b_e hd
        refine m_calli (k := 0) (n := 0) (va_runS (As := [.int (u3.2 4 p0.toNatClampNeg)]) (rest := []) ⟨hx, hb, hml, hown, hts⟩ (c_X7_sign l G Z hZ u3 u22 (u3.2 4 p0.toNatClampNeg) r21 hc23) (va_cwS 1 hts gX7_charOf_X7_sign rfl rfl rfl (by decide +kernel) ⟨(Nat.le_of_ble_eq_true rfl), (Nat.le_of_ble_eq_true rfl)⟩) (m_preS hM hP hS) rfl rfl hl.1 rfl (lv_room (Nat.le_of_ble_eq_true rfl)) dX7_charOf_53 ⟨(Nat.le_of_ble_eq_true rfl), (Nat.le_of_ble_eq_true rfl)⟩) hS ⟨(Nat.le_of_ble_eq_true rfl), (Nat.le_of_ble_eq_true rfl)⟩ (fun H locs hP hS => ?_)
        refine lv_goto (tgt := 71) hx hb dX7_charOf_56 (by decide) ?_
        refine W.widen (k := 0) (n := 0) (Nat.le_of_ble_eq_true rfl) (Nat.le_of_ble_eq_true rfl) ?_
        exact J71 u22 r21 _ _ _ hd hP hS (lv_sub hl [] rfl)
  · have hd := m_i_f c5 hd
    refine lv_iload_n hx hb dX7_charOf_17 rfl (lv_at hl 3 rfl) ?_
    refine lv_if_ne (tgt := 34) hx hb dX7_charOf_18 (by decide) (fun c24 => ?_) (fun c24 => ?_)
    · have hd := m_i_f c24 hd
      refine lv_bipush (v := 61) hx hb dX7_charOf_34 (by decide) ?_
      refine W.widen (k := 0) (n := 0) (Nat.le_of_ble_eq_true rfl) (Nat.le_of_ble_eq_true rfl) ?_
      exact J36 u3 61 _ _ _ hd hP hS (lv_sub hl [] rfl)
    · have hd := m_i_t c24 hd
      refine lv_bipush (v := 97) hx hb dX7_charOf_21 (by decide) ?_
      refine lv_aload_n hx hb dX7_charOf_23 rfl (lv_at hl 1 rfl) ?_
      refine x_getA (own := RX7) (ref := RX7) hx hb hts hin10 hown hM.1 hZ hP 3 (by decide) (hts (.fieldLink RX7 16 "CellNotebookModel" "name" "[I") (by decide +kernel)) (fun _ h9 => h9) dX7_charOf_24 ?_
      refine lv_iload_n hx hb dX7_charOf_27 rfl (lv_at hl 2 rfl) ?_
      obtain ⟨hg25, hd⟩ := m_g_e hd
      refine x_ald hx hb hM.1 hZ hP 3 (by decide) hg25 dX7_charOf_28 ?_
      refine lv_iadd hx hb dX7_charOf_29 ?_
      refine lv_i2c (v := ((97 + (u3.2 3 p0.toNatClampNeg)).toUInt32 % 65536).toInt32) hx hb dX7_charOf_30 rfl ?_
      refine lv_goto (tgt := 36) hx hb dX7_charOf_31 (by decide) ?_
      refine W.widen (k := 0) (n := 0) (Nat.le_of_ble_eq_true rfl) (Nat.le_of_ble_eq_true rfl) ?_
      exact J36 u3 (((97 + (u3.2 3 p0.toNatClampNeg)).toUInt32 % 65536).toInt32) _ _ _ hd hP hS (lv_sub hl [] rfl)


noncomputable def f_X7_sourceChar_59_b (k59 : xS → Int32 → Int32 → Option (Int32 × xS)) (u : xS) (x4 : Int32) (x5 : Int32) : Option (Int32 × xS) := m_b (f_X7_length u x4) fun r418 u419 => if x5 < r418 then (m_b (f_X7_charOf u419 x4 x5) fun r422 u423 => m_g (vp_nar .char r422 = r422) <| some (r422, u423)) else (m_b (f_X7_length u419 x4) fun r426 u427 => k59 u427 (x4 + 1) (x5 - r426))
noncomputable def f_X7_sourceChar_59 (n : Nat) : xS → Int32 → Int32 → Option (Int32 × xS) := Nat.rec (motive := fun _ => xS → Int32 → Int32 → Option (Int32 × xS)) (fun _ _ _ => none) (fun _ k => f_X7_sourceChar_59_b  k) n
noncomputable def f_X7_sourceChar_39 (u : xS) (x1 : Int32) (x2 : Int32) (s0 : Int32) : Option (Int32 × xS) := m_b (f_X7_goes u s0 1 1) fun r313 u314 => if r313 = (0 : Int32) then (m_g (vp_nar .char 32 = 32) <| some (32, u314)) else (f_X7_sourceChar_59 m_N u314 (6 * x1) x2)
noncomputable def f_X7_sourceChar_38 (u : xS) (x1 : Int32) (x2 : Int32) : Option (Int32 × xS) := f_X7_sourceChar_39 u x1 x2 0
noncomputable def f_X7_sourceChar_23 (u : xS) (x1 : Int32) (x2 : Int32) (s0 : Int32) (s2 : Int32) (s3 : Int32) : Option (Int32 × xS) := m_b (f_X7_lengthOf u s0) fun r106 u107 => m_b (f_X7_in u107 s3 s2 (r106 - 1)) fun r109 u110 => if r109 = (0 : Int32) then (f_X7_sourceChar_38 u110 x1 x2) else (f_X7_sourceChar_39 u110 x1 x2 1)
noncomputable def f_X7_sourceChar (u : xS) (p0 : Int32) (p1 : Int32) : Option (Int32 × xS) := m_b (f_X7_isCell u p0) fun r1 u2 => if r1 = (0 : Int32) then (f_X7_sourceChar_38 u2 p0 p1) else (if r1 = (0 : Int32) then (f_X7_sourceChar_23 u2 p0 p1 0 0 p1) else (f_X7_sourceChar_23 u2 p0 p1 p0 0 p1))
set_option maxHeartbeats 1000000 in
set_option maxRecDepth 100000 in
theorem c_X7_sourceChar (l : Launch) (G : m_G) (Z : xB) (hZ : x_ok Z) (u u' : xS) (p0 : Int32) (p1 : Int32) (r : Int32) (hd : f_X7_sourceChar u p0 p1 = some (r, u')) : Met l yX7_sourceChar wsX7_sourceChar ({ frames := 5, cells := 0, slots := 0, locals := 111 } : Room) (m_Pc G (x_ov Z u) [.ref (Z.2.1), .int (p0), .int (p1)]) (m_Qi G r (x_ov Z u')) 0 0 (fun q => G.1 ≤ q) := by
  refine Met.ofW (cc := cX7_sourceChar) (maxL := 6) (ret := (some .char)) (by decide +kernel) rfl ?_
  intro p e s m args below meth c s₁ B hml hv
  obtain ⟨rfl, hM, hP⟩ := hv
  have hx := B.exec
  have hb := B.bytes
  have hr := B.returns
  have hts := atoms_spec (ws := wsX7_sourceChar) B.pre
  have hown : s.vm.findClass RX7 = some m.cls := findClass_of_methodNamed B.named
  have hlocks := B.notSynchronized
  have hS : va_S (fun q => G.1 ≤ q) s.heap s.heap [] := va_S.rf
  have J59 : ∀ (n59 : Nat) (u : xS) (x4 : Int32) (x5 : Int32) (H : Heap) (locs : List Loc) (ls : Array Slot), f_X7_sourceChar_59 n59 u x4 x5 = some (r, u') → mP G (x_ov Z u) H → va_S (fun q => G.1 ≤ q) s.heap H locs → lv_has ls 6 [(0, .ref (Z.2.1)), (4, .int (x4)), (5, .int (x5))] → W p l e ({ frames := 5, cells := 0, slots := 0, locals := 111 } : Room) s m ([.ref (Z.2.1), .int (p0), .int (p1)] : List Value).toArray below meth c H locs 0 0 (MQ below (m_Qi G r (x_ov Z u')) ([.ref (Z.2.1), .int (p0), .int (p1)] : List Value).toArray s 0 0 (fun q => G.1 ≤ q)) (F0 m 59 ls []) := by
    intro n59
    induction n59 with
    | zero => intro u x4 x5 H locs ls hd; exact absurd (show (none : Option (Int32 × xS)) = some _ from hd) (fun h => nomatch h)
    | succ n59 ih59 =>
      intro u x4 x5 H locs ls hd hP hS hl
      have hd : f_X7_sourceChar_59_b (f_X7_sourceChar_59 n59) u x4 x5 = some (r, u') := hd
      refine lv_iload hx hb dX7_sourceChar_59 (lv_at hl 2 rfl) ?_
      refine lv_aload_n hx hb dX7_sourceChar_61 rfl (lv_at hl 0 rfl) ?_
      refine lv_iload hx hb dX7_sourceChar_62 (lv_at hl 1 rfl) ?_
      obtain ⟨r418, u419, hc420, hd⟩ := m_b_e hd
      refine m_calli (k := 0) (n := 0) (va_runV (As := [.int (x4)]) (rest := [.int (x5)]) ⟨hx, hb, hml, hown, hts⟩ (c_X7_length l G Z hZ u u419 x4 r418 hc420) (cwV 1 hts gX7_sourceChar_X7_length rfl rfl rfl (by decide +kernel) ⟨(Nat.le_of_ble_eq_true rfl), (Nat.le_of_ble_eq_true rfl)⟩) (m_preV (C := RX7) (T := TX7) (N := 32) hM hP hS rfl (by decide) hZ.1) rfl rfl hl.1 rfl (lv_room (Nat.le_of_ble_eq_true rfl)) dX7_sourceChar_64 ⟨(Nat.le_of_ble_eq_true rfl), (Nat.le_of_ble_eq_true rfl)⟩) hS ⟨(Nat.le_of_ble_eq_true rfl), (Nat.le_of_ble_eq_true rfl)⟩ (fun H locs hP hS => ?_)
      refine lv_icmp_lt (tgt := 87) hx hb dX7_sourceChar_67 (by decide) (fun c421 => ?_) (fun c421 => ?_)
      · have hd := m_i_t c421 hd
        refine lv_aload_n hx hb dX7_sourceChar_87 rfl (lv_at hl 0 rfl) ?_
        refine lv_iload hx hb dX7_sourceChar_88 (lv_at hl 1 rfl) ?_
        refine lv_iload hx hb dX7_sourceChar_90 (lv_at hl 2 rfl) ?_
        obtain ⟨r422, u423, hc424, hd⟩ := m_b_e hd
        refine m_calli (k := 0) (n := 0) (va_runV (As := [.int (x4), .int (x5)]) (rest := []) ⟨hx, hb, hml, hown, hts⟩ (c_X7_charOf l G Z hZ u419 u423 x4 x5 r422 hc424) (cwV 2 hts gX7_sourceChar_X7_charOf rfl rfl rfl (by decide +kernel) ⟨(Nat.le_of_ble_eq_true rfl), (Nat.le_of_ble_eq_true rfl)⟩) (m_preV (C := RX7) (T := TX7) (N := 32) hM hP hS rfl (by decide) hZ.1) rfl rfl hl.1 rfl (lv_room (Nat.le_of_ble_eq_true rfl)) dX7_sourceChar_92 ⟨(Nat.le_of_ble_eq_true rfl), (Nat.le_of_ble_eq_true rfl)⟩) hS ⟨(Nat.le_of_ble_eq_true rfl), (Nat.le_of_ble_eq_true rfl)⟩ (fun H locs hP hS => ?_)
        obtain ⟨hn425, hd⟩ := m_g_e hd
        obtain ⟨e1, e2⟩ := m_s_e hd
        have e2 := congrArg (x_ov Z) e2
        refine W.widen (k := 0) (n := 0) (Nat.le_of_ble_eq_true rfl) (Nat.le_of_ble_eq_true rfl) ?_
        exact W.zret hx hb hr (m_narC hn425).1 (fun t ht hW => ⟨⟨_, (x_ov Z u423), rfl, ⟨e1, e2⟩, by show mP _ _ t.heap; rw [ht]; exact hP⟩, hS.F ht⟩) hS.2.2 dX7_sourceChar_95
      · have hd := m_i_f c421 hd
        refine lv_iload hx hb dX7_sourceChar_70 (lv_at hl 2 rfl) ?_
        refine lv_aload_n hx hb dX7_sourceChar_72 rfl (lv_at hl 0 rfl) ?_
        refine lv_iload hx hb dX7_sourceChar_73 (lv_at hl 1 rfl) ?_
        obtain ⟨r426, u427, hc428, hd⟩ := m_b_e hd
        refine m_calli (k := 0) (n := 0) (va_runV (As := [.int (x4)]) (rest := [.int (x5)]) ⟨hx, hb, hml, hown, hts⟩ (c_X7_length l G Z hZ u419 u427 x4 r426 hc428) (cwV 1 hts gX7_sourceChar_X7_length rfl rfl rfl (by decide +kernel) ⟨(Nat.le_of_ble_eq_true rfl), (Nat.le_of_ble_eq_true rfl)⟩) (m_preV (C := RX7) (T := TX7) (N := 32) hM hP hS rfl (by decide) hZ.1) rfl rfl hl.1 rfl (lv_room (Nat.le_of_ble_eq_true rfl)) dX7_sourceChar_75 ⟨(Nat.le_of_ble_eq_true rfl), (Nat.le_of_ble_eq_true rfl)⟩) hS ⟨(Nat.le_of_ble_eq_true rfl), (Nat.le_of_ble_eq_true rfl)⟩ (fun H locs hP hS => ?_)
        refine lv_isub hx hb dX7_sourceChar_78 ?_
        refine lv_istore (lv' := [(5, .int (x5 - r426)), (0, .ref (Z.2.1)), (4, .int (x4))]) hx hb dX7_sourceChar_79 hl (by decide) rfl (fun ls hl => ?_)
        refine lv_iinc (v := x4 + 1) (lv' := [(4, .int (x4 + 1)), (5, .int (x5 - r426)), (0, .ref (Z.2.1))]) hx hb dX7_sourceChar_81 hl (k := 2) rfl rfl (by decide) rfl (fun ls hl => ?_)
        refine lv_goto (tgt := 59) hx hb dX7_sourceChar_84 (by decide) ?_
        refine W.widen (k := 0) (n := 0) (Nat.le_of_ble_eq_true rfl) (Nat.le_of_ble_eq_true rfl) ?_
        exact ih59 u427 (x4 + 1) (x5 - r426) _ _ _ hd hP hS (lv_sub hl [2, 0, 1] rfl)
  have J39 : ∀ (u : xS) (x1 : Int32) (x2 : Int32) (s0 : Int32) (H : Heap) (locs : List Loc) (ls : Array Slot), f_X7_sourceChar_39 u x1 x2 s0 = some (r, u') → mP G (x_ov Z u) H → va_S (fun q => G.1 ≤ q) s.heap H locs → lv_has ls 6 [(0, .ref (Z.2.1)), (1, .int (x1)), (2, .int (x2))] → W p l e ({ frames := 5, cells := 0, slots := 0, locals := 111 } : Room) s m ([.ref (Z.2.1), .int (p0), .int (p1)] : List Value).toArray below meth c H locs 0 0 (MQ below (m_Qi G r (x_ov Z u')) ([.ref (Z.2.1), .int (p0), .int (p1)] : List Value).toArray s 0 0 (fun q => G.1 ≤ q)) (F0 m 39 ls [.int (s0), .ref (Z.2.1)]) := by
    intro u x1 x2 s0 H locs ls hd hP hS hl
    refine lv_iconst (v := 1) hx hb dX7_sourceChar_39 (by decide) ?_
    refine lv_iconst (v := 1) hx hb dX7_sourceChar_40 (by decide) ?_
    obtain ⟨r313, u314, hc315, hd⟩ := m_b_e hd
    refine m_calli (k := 0) (n := 0) (va_runV (As := [.int (s0), .int (1), .int (1)]) (rest := []) ⟨hx, hb, hml, hown, hts⟩ (c_X7_goes l G Z hZ u u314 s0 1 1 r313 hc315) (cwV 3 hts gX7_sourceChar_X7_goes rfl rfl rfl (by decide +kernel) ⟨(Nat.le_of_ble_eq_true rfl), (Nat.le_of_ble_eq_true rfl)⟩) (m_preV (C := RX7) (T := TX7) (N := 32) hM hP hS rfl (by decide) hZ.1) rfl rfl hl.1 rfl (lv_room (Nat.le_of_ble_eq_true rfl)) dX7_sourceChar_41 ⟨(Nat.le_of_ble_eq_true rfl), (Nat.le_of_ble_eq_true rfl)⟩) hS ⟨(Nat.le_of_ble_eq_true rfl), (Nat.le_of_ble_eq_true rfl)⟩ (fun H locs hP hS => ?_)
    refine lv_if_ne (tgt := 50) hx hb dX7_sourceChar_44 (by decide) (fun c316 => ?_) (fun c316 => ?_)
    · have hd := m_i_f c316 hd
      refine lv_bipush (v := 6) hx hb dX7_sourceChar_50 (by decide) ?_
      refine lv_iload_n hx hb dX7_sourceChar_52 rfl (lv_at hl 1 rfl) ?_
      refine lv_imul hx hb dX7_sourceChar_53 ?_
      refine lv_istore (lv' := [(4, .int (6 * x1)), (0, .ref (Z.2.1)), (1, .int (x1)), (2, .int (x2))]) hx hb dX7_sourceChar_54 hl (by decide) rfl (fun ls hl => ?_)
      refine lv_iload_n hx hb dX7_sourceChar_56 rfl (lv_at hl 3 rfl) ?_
      refine lv_istore (lv' := [(5, .int (x2)), (4, .int (6 * x1)), (0, .ref (Z.2.1)), (1, .int (x1)), (2, .int (x2))]) hx hb dX7_sourceChar_57 hl (by decide) rfl (fun ls hl => ?_)
      refine W.widen (k := 0) (n := 0) (Nat.le_of_ble_eq_true rfl) (Nat.le_of_ble_eq_true rfl) ?_
      exact J59 m_N u314 (6 * x1) x2 _ _ _ hd hP hS (lv_sub hl [2, 1, 0] rfl)
    · have hd := m_i_t c316 hd
      refine lv_bipush (v := 32) hx hb dX7_sourceChar_47 (by decide) ?_
      obtain ⟨hn317, hd⟩ := m_g_e hd
      obtain ⟨e1, e2⟩ := m_s_e hd
      have e2 := congrArg (x_ov Z) e2
      refine W.widen (k := 0) (n := 0) (Nat.le_of_ble_eq_true rfl) (Nat.le_of_ble_eq_true rfl) ?_
      exact W.zret hx hb hr (m_narC hn317).1 (fun t ht hW => ⟨⟨_, (x_ov Z u314), rfl, ⟨e1, e2⟩, by show mP _ _ t.heap; rw [ht]; exact hP⟩, hS.F ht⟩) hS.2.2 dX7_sourceChar_49
  have J38 : ∀ (u : xS) (x1 : Int32) (x2 : Int32) (H : Heap) (locs : List Loc) (ls : Array Slot), f_X7_sourceChar_38 u x1 x2 = some (r, u') → mP G (x_ov Z u) H → va_S (fun q => G.1 ≤ q) s.heap H locs → lv_has ls 6 [(0, .ref (Z.2.1)), (1, .int (x1)), (2, .int (x2))] → W p l e ({ frames := 5, cells := 0, slots := 0, locals := 111 } : Room) s m ([.ref (Z.2.1), .int (p0), .int (p1)] : List Value).toArray below meth c H locs 0 0 (MQ below (m_Qi G r (x_ov Z u')) ([.ref (Z.2.1), .int (p0), .int (p1)] : List Value).toArray s 0 0 (fun q => G.1 ≤ q)) (F0 m 38 ls [.ref (Z.2.1)]) := by
    intro u x1 x2 H locs ls hd hP hS hl
    refine lv_iconst (v := 0) hx hb dX7_sourceChar_38 (by decide) ?_
    refine W.widen (k := 0) (n := 0) (Nat.le_of_ble_eq_true rfl) (Nat.le_of_ble_eq_true rfl) ?_
    exact J39 u x1 x2 0 _ _ _ hd hP hS (lv_sub hl [0, 1, 2] rfl)
  have J23 : ∀ (u : xS) (x1 : Int32) (x2 : Int32) (s0 : Int32) (s2 : Int32) (s3 : Int32) (H : Heap) (locs : List Loc) (ls : Array Slot), f_X7_sourceChar_23 u x1 x2 s0 s2 s3 = some (r, u') → mP G (x_ov Z u) H → va_S (fun q => G.1 ≤ q) s.heap H locs → lv_has ls 6 [(0, .ref (Z.2.1)), (1, .int (x1)), (2, .int (x2))] → W p l e ({ frames := 5, cells := 0, slots := 0, locals := 111 } : Room) s m ([.ref (Z.2.1), .int (p0), .int (p1)] : List Value).toArray below meth c H locs 0 0 (MQ below (m_Qi G r (x_ov Z u')) ([.ref (Z.2.1), .int (p0), .int (p1)] : List Value).toArray s 0 0 (fun q => G.1 ≤ q)) (F0 m 23 ls [.int (s0), .ref (Z.2.1), .int (s2), .int (s3), .ref (Z.2.1)]) := by
    intro u x1 x2 s0 s2 s3 H locs ls hd hP hS hl
    obtain ⟨r106, u107, hc108, hd⟩ := m_b_e hd
    refine m_calli (k := 0) (n := 0) (va_runV (As := [.int (s0)]) (rest := [.int (s2), .int (s3), .ref (Z.2.1)]) ⟨hx, hb, hml, hown, hts⟩ (c_X7_lengthOf l G Z hZ u u107 s0 r106 hc108) (cwV 1 hts gX7_sourceChar_X7_lengthOf rfl rfl rfl (by decide +kernel) ⟨(Nat.le_of_ble_eq_true rfl), (Nat.le_of_ble_eq_true rfl)⟩) (m_preV (C := RX7) (T := TX7) (N := 32) hM hP hS rfl (by decide) hZ.1) rfl rfl hl.1 rfl (lv_room (Nat.le_of_ble_eq_true rfl)) dX7_sourceChar_23 ⟨(Nat.le_of_ble_eq_true rfl), (Nat.le_of_ble_eq_true rfl)⟩) hS ⟨(Nat.le_of_ble_eq_true rfl), (Nat.le_of_ble_eq_true rfl)⟩ (fun H locs hP hS => ?_)
    refine lv_iconst (v := 1) hx hb dX7_sourceChar_26 (by decide) ?_
    refine lv_isub hx hb dX7_sourceChar_27 ?_
    obtain ⟨r109, u110, hc111, hd⟩ := m_b_e hd
    refine m_calli (k := 0) (n := 0) (va_runS (As := [.int (s3), .int (s2), .int (r106 - 1)]) (rest := [.ref (Z.2.1)]) ⟨hx, hb, hml, hown, hts⟩ (c_X7_in l G Z hZ u107 u110 s3 s2 (r106 - 1) r109 hc111) (va_cwS 3 hts gX7_sourceChar_X7_in rfl rfl rfl (by decide +kernel) ⟨(Nat.le_of_ble_eq_true rfl), (Nat.le_of_ble_eq_true rfl)⟩) (m_preS hM hP hS) rfl rfl hl.1 rfl (lv_room (Nat.le_of_ble_eq_true rfl)) dX7_sourceChar_28 ⟨(Nat.le_of_ble_eq_true rfl), (Nat.le_of_ble_eq_true rfl)⟩) hS ⟨(Nat.le_of_ble_eq_true rfl), (Nat.le_of_ble_eq_true rfl)⟩ (fun H locs hP hS => ?_)
    refine lv_if_eq (tgt := 38) hx hb dX7_sourceChar_31 (by decide) (fun c112 => ?_) (fun c112 => ?_)
    · have hd := m_i_t c112 hd
      refine W.widen (k := 0) (n := 0) (Nat.le_of_ble_eq_true rfl) (Nat.le_of_ble_eq_true rfl) ?_
      exact J38 u110 x1 x2 _ _ _ hd hP hS (lv_sub hl [0, 1, 2] rfl)
    · have hd := m_i_f c112 hd
      refine lv_iconst (v := 1) hx hb dX7_sourceChar_34 (by decide) ?_
      refine lv_goto (tgt := 39) hx hb dX7_sourceChar_35 (by decide) ?_
      refine W.widen (k := 0) (n := 0) (Nat.le_of_ble_eq_true rfl) (Nat.le_of_ble_eq_true rfl) ?_
      exact J39 u110 x1 x2 1 _ _ _ hd hP hS (lv_sub hl [0, 1, 2] rfl)
  have hl := lv_entry ([.ref (Z.2.1), .int (p0), .int (p1)]) (n := 6) (Nat.le_of_ble_eq_true rfl)
  rw [lg_entry_eq]
  generalize (lg_sl ([.ref (Z.2.1), .int (p0), .int (p1)]) ++ List.replicate (6 - (lg_sl ([.ref (Z.2.1), .int (p0), .int (p1)])).length) Slot.unset).toArray = ls at hl ⊢
  have hl : lv_has ls 6 [(0, .ref (Z.2.1)), (1, .int (p0)), (2, .int (p1))] := hl
  refine lv_aload_n hx hb dX7_sourceChar_0 rfl (lv_at hl 0 rfl) ?_
  refine lv_iload_n hx hb dX7_sourceChar_1 rfl (lv_at hl 1 rfl) ?_
  obtain ⟨r1, u2, hc3, hd⟩ := m_b_e hd
  refine m_calli (k := 0) (n := 0) (va_runV (As := [.int (p0)]) (rest := []) ⟨hx, hb, hml, hown, hts⟩ (c_X7_isCell l G Z hZ u u2 p0 r1 hc3) (cwV 1 hts gX7_sourceChar_X7_isCell rfl rfl rfl (by decide +kernel) ⟨(Nat.le_of_ble_eq_true rfl), (Nat.le_of_ble_eq_true rfl)⟩) (m_preV (C := RX7) (T := TX7) (N := 32) hM hP hS rfl (by decide) hZ.1) rfl rfl hl.1 rfl (lv_room (Nat.le_of_ble_eq_true rfl)) dX7_sourceChar_2 ⟨(Nat.le_of_ble_eq_true rfl), (Nat.le_of_ble_eq_true rfl)⟩) hS ⟨(Nat.le_of_ble_eq_true rfl), (Nat.le_of_ble_eq_true rfl)⟩ (fun H locs hP hS => ?_)
  refine lv_istore_n (lv' := [(3, .int (r1)), (0, .ref (Z.2.1)), (1, .int (p0)), (2, .int (p1))]) hx hb dX7_sourceChar_5 rfl hl (by decide) rfl (fun ls hl => ?_)
  refine lv_aload_n hx hb dX7_sourceChar_6 rfl (lv_at hl 1 rfl) ?_
  refine lv_iload_n hx hb dX7_sourceChar_7 rfl (lv_at hl 0 rfl) ?_
  refine lv_if_eq (tgt := 38) hx hb dX7_sourceChar_8 (by decide) (fun c4 => ?_) (fun c4 => ?_)
  · have hd := m_i_t c4 hd
    refine W.widen (k := 0) (n := 0) (Nat.le_of_ble_eq_true rfl) (Nat.le_of_ble_eq_true rfl) ?_
    exact J38 u2 p0 p1 _ _ _ hd hP hS (lv_sub hl [1, 2, 3] rfl)
  · have hd := m_i_f c4 hd
    refine lv_iload_n hx hb dX7_sourceChar_11 rfl (lv_at hl 3 rfl) ?_
    refine lv_iconst (v := 0) hx hb dX7_sourceChar_12 (by decide) ?_
    refine lv_aload_n hx hb dX7_sourceChar_13 rfl (lv_at hl 1 rfl) ?_
    refine lv_iload_n hx hb dX7_sourceChar_14 rfl (lv_at hl 0 rfl) ?_
    refine lv_if_eq (tgt := 22) hx hb dX7_sourceChar_15 (by decide) (fun c5 => ?_) (fun c5 => ?_)
    · have hd := m_i_t c5 hd
      refine lv_iconst (v := 0) hx hb dX7_sourceChar_22 (by decide) ?_
      refine W.widen (k := 0) (n := 0) (Nat.le_of_ble_eq_true rfl) (Nat.le_of_ble_eq_true rfl) ?_
      exact J23 u2 p0 p1 0 0 p1 _ _ _ hd hP hS (lv_sub hl [1, 2, 3] rfl)
    · have hd := m_i_f c5 hd
      refine lv_iload_n hx hb dX7_sourceChar_18 rfl (lv_at hl 2 rfl) ?_
      refine lv_goto (tgt := 23) hx hb dX7_sourceChar_19 (by decide) ?_
      refine W.widen (k := 0) (n := 0) (Nat.le_of_ble_eq_true rfl) (Nat.le_of_ble_eq_true rfl) ?_
      exact J23 u2 p0 p1 p0 0 p1 _ _ _ hd hP hS (lv_sub hl [1, 2, 3] rfl)


noncomputable def f_X7_grant_23 (u : xS) (x1 : Int32) (x2 : Int32) (x3 : Int32) (s0 : Int32) : Option (Int32 × xS) := m_b (f_X7_in u x3 0 3) fun r209 u210 => m_b (f_X7_goes u210 s0 r209 1) fun r212 u213 => if r212 = (0 : Int32) then (some (0, u213)) else (m_g (¬ (((16 * x1) + x2) < 0 ∨ 80 ≤ ((16 * x1) + x2).toNatClampNeg)) <| m_g (¬ (((16 * x1) + x2) < 0 ∨ 80 ≤ ((16 * x1) + x2).toNatClampNeg)) <| m_l (x_sA u213 9 (((16 * x1) + x2).toNatClampNeg) x3) fun u218 => some (u213.2 9 ((16 * x1) + x2).toNatClampNeg, u218))
noncomputable def f_X7_grant_22 (u : xS) (x1 : Int32) (x2 : Int32) (x3 : Int32) : Option (Int32 × xS) := f_X7_grant_23 u x1 x2 x3 0
noncomputable def f_X7_grant (u : xS) (p0 : Int32) (p1 : Int32) (p2 : Int32) : Option (Int32 × xS) := m_b (f_X7_in u p0 1 4) fun r1 u2 => if r1 = (0 : Int32) then (f_X7_grant_22 u2 p0 p1 p2) else (m_b (f_X7_isCell u2 p1) fun r5 u6 => if r5 = (0 : Int32) then (f_X7_grant_22 u6 p0 p1 p2) else (f_X7_grant_23 u6 p0 p1 p2 1))
set_option maxHeartbeats 1000000 in
set_option maxRecDepth 100000 in
theorem c_X7_grant (l : Launch) (G : m_G) (Z : xB) (hZ : x_ok Z) (u u' : xS) (p0 : Int32) (p1 : Int32) (p2 : Int32) (r : Int32) (hd : f_X7_grant u p0 p1 p2 = some (r, u')) : Met l yX7_grant wsX7_grant ({ frames := 2, cells := 0, slots := 0, locals := 43 } : Room) (m_Pc G (x_ov Z u) [.ref (Z.2.1), .int (p0), .int (p1), .int (p2)]) (m_Qi G r (x_ov Z u')) 0 0 (fun q => G.1 ≤ q) := by
  refine Met.ofW (cc := cX7_grant) (maxL := 5) (ret := (some .int)) (by decide +kernel) rfl ?_
  intro p e s m args below meth c s₁ B hml hv
  obtain ⟨rfl, hM, hP⟩ := hv
  have hx := B.exec
  have hb := B.bytes
  have hr := B.returns
  have hts := atoms_spec (ws := wsX7_grant) B.pre
  have hown : s.vm.findClass RX7 = some m.cls := findClass_of_methodNamed B.named
  have hlocks := B.notSynchronized
  have hin10 : ∀ w ∈ u_ws RX7 TX7 32, w ∈ wsX7_grant := by decide +kernel
  have hS : va_S (fun q => G.1 ≤ q) s.heap s.heap [] := va_S.rf
  have J23 : ∀ (u : xS) (x1 : Int32) (x2 : Int32) (x3 : Int32) (s0 : Int32) (H : Heap) (locs : List Loc) (ls : Array Slot), f_X7_grant_23 u x1 x2 x3 s0 = some (r, u') → mP G (x_ov Z u) H → va_S (fun q => G.1 ≤ q) s.heap H locs → lv_has ls 5 [(0, .ref (Z.2.1)), (1, .int (x1)), (2, .int (x2)), (3, .int (x3))] → W p l e ({ frames := 2, cells := 0, slots := 0, locals := 43 } : Room) s m ([.ref (Z.2.1), .int (p0), .int (p1), .int (p2)] : List Value).toArray below meth c H locs 0 0 (MQ below (m_Qi G r (x_ov Z u')) ([.ref (Z.2.1), .int (p0), .int (p1), .int (p2)] : List Value).toArray s 0 0 (fun q => G.1 ≤ q)) (F0 m 23 ls [.int (s0), .ref (Z.2.1)]) := by
    intro u x1 x2 x3 s0 H locs ls hd hP hS hl
    refine lv_iload_n hx hb dX7_grant_23 rfl (lv_at hl 3 rfl) ?_
    refine lv_iconst (v := 0) hx hb dX7_grant_24 (by decide) ?_
    refine lv_iconst (v := 3) hx hb dX7_grant_25 (by decide) ?_
    obtain ⟨r209, u210, hc211, hd⟩ := m_b_e hd
    refine m_calli (k := 0) (n := 0) (va_runS (As := [.int (x3), .int (0), .int (3)]) (rest := [.int (s0), .ref (Z.2.1)]) ⟨hx, hb, hml, hown, hts⟩ (c_X7_in l G Z hZ u u210 x3 0 3 r209 hc211) (va_cwS 3 hts gX7_grant_X7_in rfl rfl rfl (by decide +kernel) ⟨(Nat.le_of_ble_eq_true rfl), (Nat.le_of_ble_eq_true rfl)⟩) (m_preS hM hP hS) rfl rfl hl.1 rfl (lv_room (Nat.le_of_ble_eq_true rfl)) dX7_grant_26 ⟨(Nat.le_of_ble_eq_true rfl), (Nat.le_of_ble_eq_true rfl)⟩) hS ⟨(Nat.le_of_ble_eq_true rfl), (Nat.le_of_ble_eq_true rfl)⟩ (fun H locs hP hS => ?_)
    refine lv_iconst (v := 1) hx hb dX7_grant_29 (by decide) ?_
    obtain ⟨r212, u213, hc214, hd⟩ := m_b_e hd
    refine m_calli (k := 0) (n := 0) (va_runV (As := [.int (s0), .int (r209), .int (1)]) (rest := []) ⟨hx, hb, hml, hown, hts⟩ (c_X7_goes l G Z hZ u210 u213 s0 r209 1 r212 hc214) (cwV 3 hts gX7_grant_X7_goes rfl rfl rfl (by decide +kernel) ⟨(Nat.le_of_ble_eq_true rfl), (Nat.le_of_ble_eq_true rfl)⟩) (m_preV (C := RX7) (T := TX7) (N := 32) hM hP hS rfl (by decide) hZ.1) rfl rfl hl.1 rfl (lv_room (Nat.le_of_ble_eq_true rfl)) dX7_grant_30 ⟨(Nat.le_of_ble_eq_true rfl), (Nat.le_of_ble_eq_true rfl)⟩) hS ⟨(Nat.le_of_ble_eq_true rfl), (Nat.le_of_ble_eq_true rfl)⟩ (fun H locs hP hS => ?_)
    refine lv_if_ne (tgt := 38) hx hb dX7_grant_33 (by decide) (fun c215 => ?_) (fun c215 => ?_)
    · have hd := m_i_f c215 hd
      refine lv_aload_n hx hb dX7_grant_38 rfl (lv_at hl 0 rfl) ?_
      refine x_getA (own := RX7) (ref := RX7) hx hb hts hin10 hown hM.1 hZ hP 9 (by decide) (hts (.fieldLink RX7 34 "CellNotebookModel" "rights" "[I") (by decide +kernel)) (fun _ h9 => h9) dX7_grant_39 ?_
      refine lv_bipush (v := 16) hx hb dX7_grant_42 (by decide) ?_
      refine lv_iload_n hx hb dX7_grant_44 rfl (lv_at hl 1 rfl) ?_
      refine lv_imul hx hb dX7_grant_45 ?_
      refine lv_iload_n hx hb dX7_grant_46 rfl (lv_at hl 2 rfl) ?_
      refine lv_iadd hx hb dX7_grant_47 ?_
      obtain ⟨hg216, hd⟩ := m_g_e hd
      refine x_ald hx hb hM.1 hZ hP 9 (by decide) hg216 dX7_grant_48 ?_
      refine lv_istore (lv' := [(4, .int (u213.2 9 ((16 * x1) + x2).toNatClampNeg)), (0, .ref (Z.2.1)), (1, .int (x1)), (2, .int (x2)), (3, .int (x3))]) hx hb dX7_grant_49 hl (by decide) rfl (fun ls hl => ?_)
      refine lv_aload_n hx hb dX7_grant_51 rfl (lv_at hl 1 rfl) ?_
      refine x_getA (own := RX7) (ref := RX7) hx hb hts hin10 hown hM.1 hZ hP 9 (by decide) (hts (.fieldLink RX7 34 "CellNotebookModel" "rights" "[I") (by decide +kernel)) (fun _ h9 => h9) dX7_grant_52 ?_
      refine lv_bipush (v := 16) hx hb dX7_grant_55 (by decide) ?_
      refine lv_iload_n hx hb dX7_grant_57 rfl (lv_at hl 2 rfl) ?_
      refine lv_imul hx hb dX7_grant_58 ?_
      refine lv_iload_n hx hb dX7_grant_59 rfl (lv_at hl 3 rfl) ?_
      refine lv_iadd hx hb dX7_grant_60 ?_
      refine lv_iload_n hx hb dX7_grant_61 rfl (lv_at hl 4 rfl) ?_
      obtain ⟨hg217, hd⟩ := m_g_e hd
      refine x_ast hx hb hM.1 hZ hP hS 9 (by decide) hg217 dX7_grant_62 (fun H locs hP hS => ?_)
      obtain ⟨u218, ew, hd⟩ := m_l_e hd
      have hP : mP G (x_ov Z u218) H := by rw [ew]; exact hP
      refine lv_iload hx hb dX7_grant_63 (lv_at hl 0 rfl) ?_
      obtain ⟨e1, e2⟩ := m_s_e hd
      have e2 := congrArg (x_ov Z) e2
      refine W.widen (k := 0) (n := 0) (Nat.le_of_ble_eq_true rfl) (Nat.le_of_ble_eq_true rfl) ?_
      exact W.iret hx hb hr (fun t ht hW => ⟨⟨_, (x_ov Z u218), rfl, ⟨e1, e2⟩, by show mP _ _ t.heap; rw [ht]; exact hP⟩, hS.F ht⟩) hS.2.2 dX7_grant_65
    · have hd := m_i_t c215 hd
      refine lv_iconst (v := 0) hx hb dX7_grant_36 (by decide) ?_
      obtain ⟨e1, e2⟩ := m_s_e hd
      have e2 := congrArg (x_ov Z) e2
      refine W.widen (k := 0) (n := 0) (Nat.le_of_ble_eq_true rfl) (Nat.le_of_ble_eq_true rfl) ?_
      exact W.iret hx hb hr (fun t ht hW => ⟨⟨_, (x_ov Z u213), rfl, ⟨e1, e2⟩, by show mP _ _ t.heap; rw [ht]; exact hP⟩, hS.F ht⟩) hS.2.2 dX7_grant_37
  have J22 : ∀ (u : xS) (x1 : Int32) (x2 : Int32) (x3 : Int32) (H : Heap) (locs : List Loc) (ls : Array Slot), f_X7_grant_22 u x1 x2 x3 = some (r, u') → mP G (x_ov Z u) H → va_S (fun q => G.1 ≤ q) s.heap H locs → lv_has ls 5 [(0, .ref (Z.2.1)), (1, .int (x1)), (2, .int (x2)), (3, .int (x3))] → W p l e ({ frames := 2, cells := 0, slots := 0, locals := 43 } : Room) s m ([.ref (Z.2.1), .int (p0), .int (p1), .int (p2)] : List Value).toArray below meth c H locs 0 0 (MQ below (m_Qi G r (x_ov Z u')) ([.ref (Z.2.1), .int (p0), .int (p1), .int (p2)] : List Value).toArray s 0 0 (fun q => G.1 ≤ q)) (F0 m 22 ls [.ref (Z.2.1)]) := by
    intro u x1 x2 x3 H locs ls hd hP hS hl
    refine lv_iconst (v := 0) hx hb dX7_grant_22 (by decide) ?_
    refine W.widen (k := 0) (n := 0) (Nat.le_of_ble_eq_true rfl) (Nat.le_of_ble_eq_true rfl) ?_
    exact J23 u x1 x2 x3 0 _ _ _ hd hP hS (lv_sub hl [0, 1, 2, 3] rfl)
  have hl := lv_entry ([.ref (Z.2.1), .int (p0), .int (p1), .int (p2)]) (n := 5) (Nat.le_of_ble_eq_true rfl)
  rw [lg_entry_eq]
  generalize (lg_sl ([.ref (Z.2.1), .int (p0), .int (p1), .int (p2)]) ++ List.replicate (5 - (lg_sl ([.ref (Z.2.1), .int (p0), .int (p1), .int (p2)])).length) Slot.unset).toArray = ls at hl ⊢
  have hl : lv_has ls 5 [(0, .ref (Z.2.1)), (1, .int (p0)), (2, .int (p1)), (3, .int (p2))] := hl
  refine lv_aload_n hx hb dX7_grant_0 rfl (lv_at hl 0 rfl) ?_
  refine lv_iload_n hx hb dX7_grant_1 rfl (lv_at hl 1 rfl) ?_
  refine lv_iconst (v := 1) hx hb dX7_grant_2 (by decide) ?_
  refine lv_iconst (v := 4) hx hb dX7_grant_3 (by decide) ?_
  obtain ⟨r1, u2, hc3, hd⟩ := m_b_e hd
  refine m_calli (k := 0) (n := 0) (va_runS (As := [.int (p0), .int (1), .int (4)]) (rest := [.ref (Z.2.1)]) ⟨hx, hb, hml, hown, hts⟩ (c_X7_in l G Z hZ u u2 p0 1 4 r1 hc3) (va_cwS 3 hts gX7_grant_X7_in rfl rfl rfl (by decide +kernel) ⟨(Nat.le_of_ble_eq_true rfl), (Nat.le_of_ble_eq_true rfl)⟩) (m_preS hM hP hS) rfl rfl hl.1 rfl (lv_room (Nat.le_of_ble_eq_true rfl)) dX7_grant_4 ⟨(Nat.le_of_ble_eq_true rfl), (Nat.le_of_ble_eq_true rfl)⟩) hS ⟨(Nat.le_of_ble_eq_true rfl), (Nat.le_of_ble_eq_true rfl)⟩ (fun H locs hP hS => ?_)
  refine lv_if_eq (tgt := 22) hx hb dX7_grant_7 (by decide) (fun c4 => ?_) (fun c4 => ?_)
  · have hd := m_i_t c4 hd
    refine W.widen (k := 0) (n := 0) (Nat.le_of_ble_eq_true rfl) (Nat.le_of_ble_eq_true rfl) ?_
    exact J22 u2 p0 p1 p2 _ _ _ hd hP hS (lv_sub hl [0, 1, 2, 3] rfl)
  · have hd := m_i_f c4 hd
    refine lv_aload_n hx hb dX7_grant_10 rfl (lv_at hl 0 rfl) ?_
    refine lv_iload_n hx hb dX7_grant_11 rfl (lv_at hl 2 rfl) ?_
    obtain ⟨r5, u6, hc7, hd⟩ := m_b_e hd
    refine m_calli (k := 0) (n := 0) (va_runV (As := [.int (p1)]) (rest := [.ref (Z.2.1)]) ⟨hx, hb, hml, hown, hts⟩ (c_X7_isCell l G Z hZ u2 u6 p1 r5 hc7) (cwV 1 hts gX7_grant_X7_isCell rfl rfl rfl (by decide +kernel) ⟨(Nat.le_of_ble_eq_true rfl), (Nat.le_of_ble_eq_true rfl)⟩) (m_preV (C := RX7) (T := TX7) (N := 32) hM hP hS rfl (by decide) hZ.1) rfl rfl hl.1 rfl (lv_room (Nat.le_of_ble_eq_true rfl)) dX7_grant_12 ⟨(Nat.le_of_ble_eq_true rfl), (Nat.le_of_ble_eq_true rfl)⟩) hS ⟨(Nat.le_of_ble_eq_true rfl), (Nat.le_of_ble_eq_true rfl)⟩ (fun H locs hP hS => ?_)
    refine lv_if_eq (tgt := 22) hx hb dX7_grant_15 (by decide) (fun c8 => ?_) (fun c8 => ?_)
    · have hd := m_i_t c8 hd
      refine W.widen (k := 0) (n := 0) (Nat.le_of_ble_eq_true rfl) (Nat.le_of_ble_eq_true rfl) ?_
      exact J22 u6 p0 p1 p2 _ _ _ hd hP hS (lv_sub hl [0, 1, 2, 3] rfl)
    · have hd := m_i_f c8 hd
      refine lv_iconst (v := 1) hx hb dX7_grant_18 (by decide) ?_
      refine lv_goto (tgt := 23) hx hb dX7_grant_19 (by decide) ?_
      refine W.widen (k := 0) (n := 0) (Nat.le_of_ble_eq_true rfl) (Nat.le_of_ble_eq_true rfl) ?_
      exact J23 u6 p0 p1 p2 1 _ _ _ hd hP hS (lv_sub hl [0, 1, 2, 3] rfl)


noncomputable def f_X7_right_39 (u : xS) (s0 : Int32) : Option (Int32 × xS) := some (s0, u)
noncomputable def f_X7_right_21 (u : xS) (x1 : Int32) (x2 : Int32) (s0 : Int32) : Option (Int32 × xS) := m_b (f_X7_goes u s0 1 1) fun r209 u210 => if r209 = (0 : Int32) then (f_X7_right_39 u210 0) else (m_b (f_X7_rightOf u210 x1 x2) fun r213 u214 => f_X7_right_39 u214 r213)
noncomputable def f_X7_right_20 (u : xS) (x1 : Int32) (x2 : Int32) : Option (Int32 × xS) := f_X7_right_21 u x1 x2 0
noncomputable def f_X7_right (u : xS) (p0 : Int32) (p1 : Int32) : Option (Int32 × xS) := m_b (f_X7_isUser u p0) fun r1 u2 => if r1 = (0 : Int32) then (f_X7_right_20 u2 p0 p1) else (m_b (f_X7_isCell u2 p1) fun r5 u6 => if r5 = (0 : Int32) then (f_X7_right_20 u6 p0 p1) else (f_X7_right_21 u6 p0 p1 1))
set_option maxHeartbeats 1000000 in
set_option maxRecDepth 100000 in
theorem c_X7_right (l : Launch) (G : m_G) (Z : xB) (hZ : x_ok Z) (u u' : xS) (p0 : Int32) (p1 : Int32) (r : Int32) (hd : f_X7_right u p0 p1 = some (r, u')) : Met l yX7_right wsX7_right ({ frames := 2, cells := 0, slots := 0, locals := 43 } : Room) (m_Pc G (x_ov Z u) [.ref (Z.2.1), .int (p0), .int (p1)]) (m_Qi G r (x_ov Z u')) 0 0 (fun q => G.1 ≤ q) := by
  refine Met.ofW (cc := cX7_right) (maxL := 3) (ret := (some .int)) (by decide +kernel) rfl ?_
  intro p e s m args below meth c s₁ B hml hv
  obtain ⟨rfl, hM, hP⟩ := hv
  have hx := B.exec
  have hb := B.bytes
  have hr := B.returns
  have hts := atoms_spec (ws := wsX7_right) B.pre
  have hown : s.vm.findClass RX7 = some m.cls := findClass_of_methodNamed B.named
  have hlocks := B.notSynchronized
  have hS : va_S (fun q => G.1 ≤ q) s.heap s.heap [] := va_S.rf
  have J39 : ∀ (u : xS) (s0 : Int32) (H : Heap) (locs : List Loc) (ls : Array Slot), f_X7_right_39 u s0 = some (r, u') → mP G (x_ov Z u) H → va_S (fun q => G.1 ≤ q) s.heap H locs → lv_has ls 3 [] → W p l e ({ frames := 2, cells := 0, slots := 0, locals := 43 } : Room) s m ([.ref (Z.2.1), .int (p0), .int (p1)] : List Value).toArray below meth c H locs 0 0 (MQ below (m_Qi G r (x_ov Z u')) ([.ref (Z.2.1), .int (p0), .int (p1)] : List Value).toArray s 0 0 (fun q => G.1 ≤ q)) (F0 m 39 ls [.int (s0)]) := by
    intro u s0 H locs ls hd hP hS hl
    obtain ⟨e1, e2⟩ := m_s_e hd
    have e2 := congrArg (x_ov Z) e2
    refine W.widen (k := 0) (n := 0) (Nat.le_of_ble_eq_true rfl) (Nat.le_of_ble_eq_true rfl) ?_
    exact W.iret hx hb hr (fun t ht hW => ⟨⟨_, (x_ov Z u), rfl, ⟨e1, e2⟩, by show mP _ _ t.heap; rw [ht]; exact hP⟩, hS.F ht⟩) hS.2.2 dX7_right_39
  have J21 : ∀ (u : xS) (x1 : Int32) (x2 : Int32) (s0 : Int32) (H : Heap) (locs : List Loc) (ls : Array Slot), f_X7_right_21 u x1 x2 s0 = some (r, u') → mP G (x_ov Z u) H → va_S (fun q => G.1 ≤ q) s.heap H locs → lv_has ls 3 [(0, .ref (Z.2.1)), (1, .int (x1)), (2, .int (x2))] → W p l e ({ frames := 2, cells := 0, slots := 0, locals := 43 } : Room) s m ([.ref (Z.2.1), .int (p0), .int (p1)] : List Value).toArray below meth c H locs 0 0 (MQ below (m_Qi G r (x_ov Z u')) ([.ref (Z.2.1), .int (p0), .int (p1)] : List Value).toArray s 0 0 (fun q => G.1 ≤ q)) (F0 m 21 ls [.int (s0), .ref (Z.2.1)]) := by
    intro u x1 x2 s0 H locs ls hd hP hS hl
    refine lv_iconst (v := 1) hx hb dX7_right_21 (by decide) ?_
    refine lv_iconst (v := 1) hx hb dX7_right_22 (by decide) ?_
    obtain ⟨r209, u210, hc211, hd⟩ := m_b_e hd
    refine m_calli (k := 0) (n := 0) (va_runV (As := [.int (s0), .int (1), .int (1)]) (rest := []) ⟨hx, hb, hml, hown, hts⟩ (c_X7_goes l G Z hZ u u210 s0 1 1 r209 hc211) (cwV 3 hts gX7_right_X7_goes rfl rfl rfl (by decide +kernel) ⟨(Nat.le_of_ble_eq_true rfl), (Nat.le_of_ble_eq_true rfl)⟩) (m_preV (C := RX7) (T := TX7) (N := 32) hM hP hS rfl (by decide) hZ.1) rfl rfl hl.1 rfl (lv_room (Nat.le_of_ble_eq_true rfl)) dX7_right_23 ⟨(Nat.le_of_ble_eq_true rfl), (Nat.le_of_ble_eq_true rfl)⟩) hS ⟨(Nat.le_of_ble_eq_true rfl), (Nat.le_of_ble_eq_true rfl)⟩ (fun H locs hP hS => ?_)
    refine lv_if_eq (tgt := 38) hx hb dX7_right_26 (by decide) (fun c212 => ?_) (fun c212 => ?_)
    · have hd := m_i_t c212 hd
      refine lv_iconst (v := 0) hx hb dX7_right_38 (by decide) ?_
      refine W.widen (k := 0) (n := 0) (Nat.le_of_ble_eq_true rfl) (Nat.le_of_ble_eq_true rfl) ?_
      exact J39 u210 0 _ _ _ hd hP hS (lv_sub hl [] rfl)
    · have hd := m_i_f c212 hd
      refine lv_aload_n hx hb dX7_right_29 rfl (lv_at hl 0 rfl) ?_
      refine lv_iload_n hx hb dX7_right_30 rfl (lv_at hl 1 rfl) ?_
      refine lv_iload_n hx hb dX7_right_31 rfl (lv_at hl 2 rfl) ?_
      obtain ⟨r213, u214, hc215, hd⟩ := m_b_e hd
      refine m_calli (k := 0) (n := 0) (va_runV (As := [.int (x1), .int (x2)]) (rest := []) ⟨hx, hb, hml, hown, hts⟩ (c_X7_rightOf l G Z hZ u210 u214 x1 x2 r213 hc215) (cwV 2 hts gX7_right_X7_rightOf rfl rfl rfl (by decide +kernel) ⟨(Nat.le_of_ble_eq_true rfl), (Nat.le_of_ble_eq_true rfl)⟩) (m_preV (C := RX7) (T := TX7) (N := 32) hM hP hS rfl (by decide) hZ.1) rfl rfl hl.1 rfl (lv_room (Nat.le_of_ble_eq_true rfl)) dX7_right_32 ⟨(Nat.le_of_ble_eq_true rfl), (Nat.le_of_ble_eq_true rfl)⟩) hS ⟨(Nat.le_of_ble_eq_true rfl), (Nat.le_of_ble_eq_true rfl)⟩ (fun H locs hP hS => ?_)
      refine lv_goto (tgt := 39) hx hb dX7_right_35 (by decide) ?_
      refine W.widen (k := 0) (n := 0) (Nat.le_of_ble_eq_true rfl) (Nat.le_of_ble_eq_true rfl) ?_
      exact J39 u214 r213 _ _ _ hd hP hS (lv_sub hl [] rfl)
  have J20 : ∀ (u : xS) (x1 : Int32) (x2 : Int32) (H : Heap) (locs : List Loc) (ls : Array Slot), f_X7_right_20 u x1 x2 = some (r, u') → mP G (x_ov Z u) H → va_S (fun q => G.1 ≤ q) s.heap H locs → lv_has ls 3 [(0, .ref (Z.2.1)), (1, .int (x1)), (2, .int (x2))] → W p l e ({ frames := 2, cells := 0, slots := 0, locals := 43 } : Room) s m ([.ref (Z.2.1), .int (p0), .int (p1)] : List Value).toArray below meth c H locs 0 0 (MQ below (m_Qi G r (x_ov Z u')) ([.ref (Z.2.1), .int (p0), .int (p1)] : List Value).toArray s 0 0 (fun q => G.1 ≤ q)) (F0 m 20 ls [.ref (Z.2.1)]) := by
    intro u x1 x2 H locs ls hd hP hS hl
    refine lv_iconst (v := 0) hx hb dX7_right_20 (by decide) ?_
    refine W.widen (k := 0) (n := 0) (Nat.le_of_ble_eq_true rfl) (Nat.le_of_ble_eq_true rfl) ?_
    exact J21 u x1 x2 0 _ _ _ hd hP hS (lv_sub hl [0, 1, 2] rfl)
  have hl := lv_entry ([.ref (Z.2.1), .int (p0), .int (p1)]) (n := 3) (Nat.le_of_ble_eq_true rfl)
  rw [lg_entry_eq]
  generalize (lg_sl ([.ref (Z.2.1), .int (p0), .int (p1)]) ++ List.replicate (3 - (lg_sl ([.ref (Z.2.1), .int (p0), .int (p1)])).length) Slot.unset).toArray = ls at hl ⊢
  have hl : lv_has ls 3 [(0, .ref (Z.2.1)), (1, .int (p0)), (2, .int (p1))] := hl
  refine lv_aload_n hx hb dX7_right_0 rfl (lv_at hl 0 rfl) ?_
  refine lv_iload_n hx hb dX7_right_1 rfl (lv_at hl 1 rfl) ?_
  obtain ⟨r1, u2, hc3, hd⟩ := m_b_e hd
  refine m_calli (k := 0) (n := 0) (va_runS (As := [.int (p0)]) (rest := [.ref (Z.2.1)]) ⟨hx, hb, hml, hown, hts⟩ (c_X7_isUser l G Z hZ u u2 p0 r1 hc3) (va_cwS 1 hts gX7_right_X7_isUser rfl rfl rfl (by decide +kernel) ⟨(Nat.le_of_ble_eq_true rfl), (Nat.le_of_ble_eq_true rfl)⟩) (m_preS hM hP hS) rfl rfl hl.1 rfl (lv_room (Nat.le_of_ble_eq_true rfl)) dX7_right_2 ⟨(Nat.le_of_ble_eq_true rfl), (Nat.le_of_ble_eq_true rfl)⟩) hS ⟨(Nat.le_of_ble_eq_true rfl), (Nat.le_of_ble_eq_true rfl)⟩ (fun H locs hP hS => ?_)
  refine lv_if_eq (tgt := 20) hx hb dX7_right_5 (by decide) (fun c4 => ?_) (fun c4 => ?_)
  · have hd := m_i_t c4 hd
    refine W.widen (k := 0) (n := 0) (Nat.le_of_ble_eq_true rfl) (Nat.le_of_ble_eq_true rfl) ?_
    exact J20 u2 p0 p1 _ _ _ hd hP hS (lv_sub hl [0, 1, 2] rfl)
  · have hd := m_i_f c4 hd
    refine lv_aload_n hx hb dX7_right_8 rfl (lv_at hl 0 rfl) ?_
    refine lv_iload_n hx hb dX7_right_9 rfl (lv_at hl 2 rfl) ?_
    obtain ⟨r5, u6, hc7, hd⟩ := m_b_e hd
    refine m_calli (k := 0) (n := 0) (va_runV (As := [.int (p1)]) (rest := [.ref (Z.2.1)]) ⟨hx, hb, hml, hown, hts⟩ (c_X7_isCell l G Z hZ u2 u6 p1 r5 hc7) (cwV 1 hts gX7_right_X7_isCell rfl rfl rfl (by decide +kernel) ⟨(Nat.le_of_ble_eq_true rfl), (Nat.le_of_ble_eq_true rfl)⟩) (m_preV (C := RX7) (T := TX7) (N := 32) hM hP hS rfl (by decide) hZ.1) rfl rfl hl.1 rfl (lv_room (Nat.le_of_ble_eq_true rfl)) dX7_right_10 ⟨(Nat.le_of_ble_eq_true rfl), (Nat.le_of_ble_eq_true rfl)⟩) hS ⟨(Nat.le_of_ble_eq_true rfl), (Nat.le_of_ble_eq_true rfl)⟩ (fun H locs hP hS => ?_)
    refine lv_if_eq (tgt := 20) hx hb dX7_right_13 (by decide) (fun c8 => ?_) (fun c8 => ?_)
    · have hd := m_i_t c8 hd
      refine W.widen (k := 0) (n := 0) (Nat.le_of_ble_eq_true rfl) (Nat.le_of_ble_eq_true rfl) ?_
      exact J20 u6 p0 p1 _ _ _ hd hP hS (lv_sub hl [0, 1, 2] rfl)
    · have hd := m_i_f c8 hd
      refine lv_iconst (v := 1) hx hb dX7_right_16 (by decide) ?_
      refine lv_goto (tgt := 21) hx hb dX7_right_17 (by decide) ?_
      refine W.widen (k := 0) (n := 0) (Nat.le_of_ble_eq_true rfl) (Nat.le_of_ble_eq_true rfl) ?_
      exact J21 u6 p0 p1 1 _ _ _ hd hP hS (lv_sub hl [0, 1, 2] rfl)


noncomputable def f_X7_canRead_63 (u : xS) (s0 : Int32) : Option (Int32 × xS) := m_g (vp_nar .boolean s0 = s0) <| some (s0, u)
noncomputable def f_X7_canRead_58 (u : xS)  : Option (Int32 × xS) := f_X7_canRead_63 u 1
noncomputable def f_X7_canRead_32 (u : xS) (x1 : Int32) (s0 : Int32) (s1 : Int32) : Option (Int32 × xS) := m_l (x_sI u 28 (s1 ||| s0)) fun u110 => m_b (f_X7_has u110 (u110.1 27) x1) fun r111 u112 => if r111 = (0 : Int32) then (m_b (f_X7_has u112 (u112.1 26) x1) fun r115 u116 => if r115 = (0 : Int32) then (f_X7_canRead_63 u116 0) else (f_X7_canRead_58 u116)) else (f_X7_canRead_58 u112)
noncomputable def f_X7_canRead (u : xS) (p0 : Int32) : Option (Int32 × xS) := m_b (f_X7_isName u p0) fun r1 u2 => if r1 = (0 : Int32) then (m_g (vp_nar .boolean 1 = 1) <| some (1, u2)) else (m_b (f_X7_has u2 (u2.1 27) p0) fun r5 u6 => if r5 = (0 : Int32) then (f_X7_canRead_32 u6 p0 (1 <<< (p0 &&& 31)) (u2.1 28)) else (f_X7_canRead_32 u6 p0 0 (u2.1 28)))
set_option maxHeartbeats 1000000 in
set_option maxRecDepth 100000 in
theorem c_X7_canRead (l : Launch) (G : m_G) (Z : xB) (hZ : x_ok Z) (u u' : xS) (p0 : Int32) (r : Int32) (hd : f_X7_canRead u p0 = some (r, u')) : Met l yX7_canRead wsX7_canRead ({ frames := 2, cells := 0, slots := 0, locals := 42 } : Room) (m_Pc G (x_ov Z u) [.ref (Z.2.1), .int (p0)]) (m_Qi G r (x_ov Z u')) 0 0 (fun q => G.1 ≤ q) := by
  refine Met.ofW (cc := cX7_canRead) (maxL := 2) (ret := (some .boolean)) (by decide +kernel) rfl ?_
  intro p e s m args below meth c s₁ B hml hv
  obtain ⟨rfl, hM, hP⟩ := hv
  have hx := B.exec
  have hb := B.bytes
  have hr := B.returns
  have hts := atoms_spec (ws := wsX7_canRead) B.pre
  have hown : s.vm.findClass RX7 = some m.cls := findClass_of_methodNamed B.named
  have hlocks := B.notSynchronized
  have hin10 : ∀ w ∈ u_ws RX7 TX7 32, w ∈ wsX7_canRead := by decide +kernel
  have hS : va_S (fun q => G.1 ≤ q) s.heap s.heap [] := va_S.rf
  have J63 : ∀ (u : xS) (s0 : Int32) (H : Heap) (locs : List Loc) (ls : Array Slot), f_X7_canRead_63 u s0 = some (r, u') → mP G (x_ov Z u) H → va_S (fun q => G.1 ≤ q) s.heap H locs → lv_has ls 2 [] → W p l e ({ frames := 2, cells := 0, slots := 0, locals := 42 } : Room) s m ([.ref (Z.2.1), .int (p0)] : List Value).toArray below meth c H locs 0 0 (MQ below (m_Qi G r (x_ov Z u')) ([.ref (Z.2.1), .int (p0)] : List Value).toArray s 0 0 (fun q => G.1 ≤ q)) (F0 m 63 ls [.int (s0)]) := by
    intro u s0 H locs ls hd hP hS hl
    obtain ⟨hn319, hd⟩ := m_g_e hd
    obtain ⟨e1, e2⟩ := m_s_e hd
    have e2 := congrArg (x_ov Z) e2
    refine W.widen (k := 0) (n := 0) (Nat.le_of_ble_eq_true rfl) (Nat.le_of_ble_eq_true rfl) ?_
    exact W.zret hx hb hr (m_narZ hn319).1 (fun t ht hW => ⟨⟨_, (x_ov Z u), rfl, ⟨e1, e2⟩, by show mP _ _ t.heap; rw [ht]; exact hP⟩, hS.F ht⟩) hS.2.2 dX7_canRead_63
  have J58 : ∀ (u : xS) (H : Heap) (locs : List Loc) (ls : Array Slot), f_X7_canRead_58 u = some (r, u') → mP G (x_ov Z u) H → va_S (fun q => G.1 ≤ q) s.heap H locs → lv_has ls 2 [] → W p l e ({ frames := 2, cells := 0, slots := 0, locals := 42 } : Room) s m ([.ref (Z.2.1), .int (p0)] : List Value).toArray below meth c H locs 0 0 (MQ below (m_Qi G r (x_ov Z u')) ([.ref (Z.2.1), .int (p0)] : List Value).toArray s 0 0 (fun q => G.1 ≤ q)) (F0 m 58 ls []) := by
    intro u H locs ls hd hP hS hl
    refine lv_iconst (v := 1) hx hb dX7_canRead_58 (by decide) ?_
    refine lv_goto (tgt := 63) hx hb dX7_canRead_59 (by decide) ?_
    refine W.widen (k := 0) (n := 0) (Nat.le_of_ble_eq_true rfl) (Nat.le_of_ble_eq_true rfl) ?_
    exact J63 u 1 _ _ _ hd hP hS (lv_sub hl [] rfl)
  have J32 : ∀ (u : xS) (x1 : Int32) (s0 : Int32) (s1 : Int32) (H : Heap) (locs : List Loc) (ls : Array Slot), f_X7_canRead_32 u x1 s0 s1 = some (r, u') → mP G (x_ov Z u) H → va_S (fun q => G.1 ≤ q) s.heap H locs → lv_has ls 2 [(0, .ref (Z.2.1)), (1, .int (x1))] → W p l e ({ frames := 2, cells := 0, slots := 0, locals := 42 } : Room) s m ([.ref (Z.2.1), .int (p0)] : List Value).toArray below meth c H locs 0 0 (MQ below (m_Qi G r (x_ov Z u')) ([.ref (Z.2.1), .int (p0)] : List Value).toArray s 0 0 (fun q => G.1 ≤ q)) (F0 m 32 ls [.int (s0), .int (s1), .ref (Z.2.1)]) := by
    intro u x1 s0 s1 H locs ls hd hP hS hl
    refine lv_ior hx hb dX7_canRead_32 ?_
    refine x_putI (own := RX7) (ref := RX7) hx hb hts hin10 hown hM.1 hZ hP hS 28 (by decide) (hts (.fieldLink RX7 142 "CellNotebookModel" "reads" "I") (by decide +kernel)) (fun _ h9 => h9) dX7_canRead_33 (fun H locs hP hS => ?_)
    obtain ⟨u110, ew, hd⟩ := m_l_e hd
    have hP : mP G (x_ov Z u110) H := by rw [ew]; exact hP
    refine lv_aload_n hx hb dX7_canRead_36 rfl (lv_at hl 0 rfl) ?_
    refine x_getI (own := RX7) (ref := RX7) hx hb hts hin10 hown hM.1 hZ hP 27 (by decide) (hts (.fieldLink RX7 145 "CellNotebookModel" "sets" "I") (by decide +kernel)) (fun _ h9 => h9) dX7_canRead_37 ?_
    refine lv_iload_n hx hb dX7_canRead_40 rfl (lv_at hl 1 rfl) ?_
    obtain ⟨r111, u112, hc113, hd⟩ := m_b_e hd
    refine m_calli (k := 0) (n := 0) (va_runS (As := [.int (u110.1 27), .int (x1)]) (rest := []) ⟨hx, hb, hml, hown, hts⟩ (c_X7_has l G Z hZ u110 u112 (u110.1 27) x1 r111 hc113) (va_cwS 2 hts gX7_canRead_X7_has rfl rfl rfl (by decide +kernel) ⟨(Nat.le_of_ble_eq_true rfl), (Nat.le_of_ble_eq_true rfl)⟩) (m_preS hM hP hS) rfl rfl hl.1 rfl (lv_room (Nat.le_of_ble_eq_true rfl)) dX7_canRead_41 ⟨(Nat.le_of_ble_eq_true rfl), (Nat.le_of_ble_eq_true rfl)⟩) hS ⟨(Nat.le_of_ble_eq_true rfl), (Nat.le_of_ble_eq_true rfl)⟩ (fun H locs hP hS => ?_)
    refine lv_if_ne (tgt := 58) hx hb dX7_canRead_44 (by decide) (fun c114 => ?_) (fun c114 => ?_)
    · have hd := m_i_f c114 hd
      refine W.widen (k := 0) (n := 0) (Nat.le_of_ble_eq_true rfl) (Nat.le_of_ble_eq_true rfl) ?_
      exact J58 u112 _ _ _ hd hP hS (lv_sub hl [] rfl)
    · have hd := m_i_t c114 hd
      refine lv_aload_n hx hb dX7_canRead_47 rfl (lv_at hl 0 rfl) ?_
      refine x_getI (own := RX7) (ref := RX7) hx hb hts hin10 hown hM.1 hZ hP 26 (by decide) (hts (.fieldLink RX7 152 "CellNotebookModel" "there" "I") (by decide +kernel)) (fun _ h9 => h9) dX7_canRead_48 ?_
      refine lv_iload_n hx hb dX7_canRead_51 rfl (lv_at hl 1 rfl) ?_
      obtain ⟨r115, u116, hc117, hd⟩ := m_b_e hd
      refine m_calli (k := 0) (n := 0) (va_runS (As := [.int (u112.1 26), .int (x1)]) (rest := []) ⟨hx, hb, hml, hown, hts⟩ (c_X7_has l G Z hZ u112 u116 (u112.1 26) x1 r115 hc117) (va_cwS 2 hts gX7_canRead_X7_has rfl rfl rfl (by decide +kernel) ⟨(Nat.le_of_ble_eq_true rfl), (Nat.le_of_ble_eq_true rfl)⟩) (m_preS hM hP hS) rfl rfl hl.1 rfl (lv_room (Nat.le_of_ble_eq_true rfl)) dX7_canRead_52 ⟨(Nat.le_of_ble_eq_true rfl), (Nat.le_of_ble_eq_true rfl)⟩) hS ⟨(Nat.le_of_ble_eq_true rfl), (Nat.le_of_ble_eq_true rfl)⟩ (fun H locs hP hS => ?_)
      refine lv_if_eq (tgt := 62) hx hb dX7_canRead_55 (by decide) (fun c118 => ?_) (fun c118 => ?_)
      · have hd := m_i_t c118 hd
        refine lv_iconst (v := 0) hx hb dX7_canRead_62 (by decide) ?_
        refine W.widen (k := 0) (n := 0) (Nat.le_of_ble_eq_true rfl) (Nat.le_of_ble_eq_true rfl) ?_
        exact J63 u116 0 _ _ _ hd hP hS (lv_sub hl [] rfl)
      · have hd := m_i_f c118 hd
        refine W.widen (k := 0) (n := 0) (Nat.le_of_ble_eq_true rfl) (Nat.le_of_ble_eq_true rfl) ?_
        exact J58 u116 _ _ _ hd hP hS (lv_sub hl [] rfl)
  have hl := lv_entry ([.ref (Z.2.1), .int (p0)]) (n := 2) (Nat.le_of_ble_eq_true rfl)
  rw [lg_entry_eq]
  generalize (lg_sl ([.ref (Z.2.1), .int (p0)]) ++ List.replicate (2 - (lg_sl ([.ref (Z.2.1), .int (p0)])).length) Slot.unset).toArray = ls at hl ⊢
  have hl : lv_has ls 2 [(0, .ref (Z.2.1)), (1, .int (p0))] := hl
  refine lv_iload_n hx hb dX7_canRead_0 rfl (lv_at hl 1 rfl) ?_
  obtain ⟨r1, u2, hc3, hd⟩ := m_b_e hd
  refine m_calli (k := 0) (n := 0) (va_runS (As := [.int (p0)]) (rest := []) ⟨hx, hb, hml, hown, hts⟩ (c_X7_isName l G Z hZ u u2 p0 r1 hc3) (va_cwS 1 hts gX7_canRead_X7_isName rfl rfl rfl (by decide +kernel) ⟨(Nat.le_of_ble_eq_true rfl), (Nat.le_of_ble_eq_true rfl)⟩) (m_preS hM hP hS) rfl rfl hl.1 rfl (lv_room (Nat.le_of_ble_eq_true rfl)) dX7_canRead_1 ⟨(Nat.le_of_ble_eq_true rfl), (Nat.le_of_ble_eq_true rfl)⟩) hS ⟨(Nat.le_of_ble_eq_true rfl), (Nat.le_of_ble_eq_true rfl)⟩ (fun H locs hP hS => ?_)
  refine lv_if_ne (tgt := 9) hx hb dX7_canRead_4 (by decide) (fun c4 => ?_) (fun c4 => ?_)
  · have hd := m_i_f c4 hd
    refine lv_aload_n hx hb dX7_canRead_9 rfl (lv_at hl 0 rfl) ?_
    refine lv_dup hx hb dX7_canRead_10 rfl ?_
    refine x_getI (own := RX7) (ref := RX7) hx hb hts hin10 hown hM.1 hZ hP 28 (by decide) (hts (.fieldLink RX7 142 "CellNotebookModel" "reads" "I") (by decide +kernel)) (fun _ h9 => h9) dX7_canRead_11 ?_
    refine lv_aload_n hx hb dX7_canRead_14 rfl (lv_at hl 0 rfl) ?_
    refine x_getI (own := RX7) (ref := RX7) hx hb hts hin10 hown hM.1 hZ hP 27 (by decide) (hts (.fieldLink RX7 145 "CellNotebookModel" "sets" "I") (by decide +kernel)) (fun _ h9 => h9) dX7_canRead_15 ?_
    refine lv_iload_n hx hb dX7_canRead_18 rfl (lv_at hl 1 rfl) ?_
    obtain ⟨r5, u6, hc7, hd⟩ := m_b_e hd
    refine m_calli (k := 0) (n := 0) (va_runS (As := [.int (u2.1 27), .int (p0)]) (rest := [.int (u2.1 28), .ref (Z.2.1)]) ⟨hx, hb, hml, hown, hts⟩ (c_X7_has l G Z hZ u2 u6 (u2.1 27) p0 r5 hc7) (va_cwS 2 hts gX7_canRead_X7_has rfl rfl rfl (by decide +kernel) ⟨(Nat.le_of_ble_eq_true rfl), (Nat.le_of_ble_eq_true rfl)⟩) (m_preS hM hP hS) rfl rfl hl.1 rfl (lv_room (Nat.le_of_ble_eq_true rfl)) dX7_canRead_19 ⟨(Nat.le_of_ble_eq_true rfl), (Nat.le_of_ble_eq_true rfl)⟩) hS ⟨(Nat.le_of_ble_eq_true rfl), (Nat.le_of_ble_eq_true rfl)⟩ (fun H locs hP hS => ?_)
    refine lv_if_eq (tgt := 29) hx hb dX7_canRead_22 (by decide) (fun c8 => ?_) (fun c8 => ?_)
    · have hd := m_i_t c8 hd
      refine lv_iconst (v := 1) hx hb dX7_canRead_29 (by decide) ?_
      refine lv_iload_n hx hb dX7_canRead_30 rfl (lv_at hl 1 rfl) ?_
      refine lv_ishl hx hb dX7_canRead_31 ?_
      refine W.widen (k := 0) (n := 0) (Nat.le_of_ble_eq_true rfl) (Nat.le_of_ble_eq_true rfl) ?_
      exact J32 u6 p0 (1 <<< (p0 &&& 31)) (u2.1 28) _ _ _ hd hP hS (lv_sub hl [0, 1] rfl)
    · have hd := m_i_f c8 hd
      refine lv_iconst (v := 0) hx hb dX7_canRead_25 (by decide) ?_
      refine lv_goto (tgt := 32) hx hb dX7_canRead_26 (by decide) ?_
      refine W.widen (k := 0) (n := 0) (Nat.le_of_ble_eq_true rfl) (Nat.le_of_ble_eq_true rfl) ?_
      exact J32 u6 p0 0 (u2.1 28) _ _ _ hd hP hS (lv_sub hl [0, 1] rfl)
  · have hd := m_i_t c4 hd
    refine lv_iconst (v := 1) hx hb dX7_canRead_7 (by decide) ?_
    obtain ⟨hn9, hd⟩ := m_g_e hd
    obtain ⟨e1, e2⟩ := m_s_e hd
    have e2 := congrArg (x_ov Z) e2
    refine W.widen (k := 0) (n := 0) (Nat.le_of_ble_eq_true rfl) (Nat.le_of_ble_eq_true rfl) ?_
    exact W.zret hx hb hr (m_narZ hn9).1 (fun t ht hW => ⟨⟨_, (x_ov Z u2), rfl, ⟨e1, e2⟩, by show mP _ _ t.heap; rw [ht]; exact hP⟩, hS.F ht⟩) hS.2.2 dX7_canRead_8


noncomputable def f_X7_read_23 (u : xS) (s0 : Int64) : Option (Int64 × xS) := some (s0, u)
noncomputable def f_X7_read (u : xS) (p0 : Int32) : Option (Int64 × xS) := m_b (f_X7_isName u p0) fun r1 u2 => if r1 = (0 : Int32) then (f_X7_read_23 u2 ((p0 - 600).toInt64)) else (m_g (¬ (p0 < 0 ∨ 8 ≤ p0.toNatClampNeg)) <| f_X7_read_23 u2 ((u2.2 25 p0.toNatClampNeg).toInt64))
set_option maxHeartbeats 1000000 in
set_option maxRecDepth 100000 in
theorem c_X7_read (l : Launch) (G : m_G) (Z : xB) (hZ : x_ok Z) (u u' : xS) (p0 : Int32) (r : Int64) (hd : f_X7_read u p0 = some (r, u')) : Met l yX7_read wsX7_read ({ frames := 2, cells := 0, slots := 0, locals := 42 } : Room) (m_Pc G (x_ov Z u) [.ref (Z.2.1), .int (p0)]) (m_Ql G r (x_ov Z u')) 0 0 (fun q => G.1 ≤ q) := by
  refine Met.ofW (cc := cX7_read) (maxL := 2) (ret := (some .long)) (by decide +kernel) rfl ?_
  intro p e s m args below meth c s₁ B hml hv
  obtain ⟨rfl, hM, hP⟩ := hv
  have hx := B.exec
  have hb := B.bytes
  have hr := B.returns
  have hts := atoms_spec (ws := wsX7_read) B.pre
  have hown : s.vm.findClass RX7 = some m.cls := findClass_of_methodNamed B.named
  have hlocks := B.notSynchronized
  have hin10 : ∀ w ∈ u_ws RX7 TX7 32, w ∈ wsX7_read := by decide +kernel
  have hS : va_S (fun q => G.1 ≤ q) s.heap s.heap [] := va_S.rf
  have J23 : ∀ (u : xS) (s0 : Int64) (H : Heap) (locs : List Loc) (ls : Array Slot), f_X7_read_23 u s0 = some (r, u') → mP G (x_ov Z u) H → va_S (fun q => G.1 ≤ q) s.heap H locs → lv_has ls 2 [] → W p l e ({ frames := 2, cells := 0, slots := 0, locals := 42 } : Room) s m ([.ref (Z.2.1), .int (p0)] : List Value).toArray below meth c H locs 0 0 (MQ below (m_Ql G r (x_ov Z u')) ([.ref (Z.2.1), .int (p0)] : List Value).toArray s 0 0 (fun q => G.1 ≤ q)) (F0 m 23 ls [.long (s0)]) := by
    intro u s0 H locs ls hd hP hS hl
    obtain ⟨e1, e2⟩ := m_s_e hd
    have e2 := congrArg (x_ov Z) e2
    refine W.widen (k := 0) (n := 0) (Nat.le_of_ble_eq_true rfl) (Nat.le_of_ble_eq_true rfl) ?_
    exact W.lret hx hb hr (fun t ht hW => ⟨⟨_, (x_ov Z u), rfl, ⟨e1, e2⟩, by show mP _ _ t.heap; rw [ht]; exact hP⟩, hS.F ht⟩) hS.2.2 dX7_read_23
  have hl := lv_entry ([.ref (Z.2.1), .int (p0)]) (n := 2) (Nat.le_of_ble_eq_true rfl)
  rw [lg_entry_eq]
  generalize (lg_sl ([.ref (Z.2.1), .int (p0)]) ++ List.replicate (2 - (lg_sl ([.ref (Z.2.1), .int (p0)])).length) Slot.unset).toArray = ls at hl ⊢
  have hl : lv_has ls 2 [(0, .ref (Z.2.1)), (1, .int (p0))] := hl
  refine lv_iload_n hx hb dX7_read_0 rfl (lv_at hl 1 rfl) ?_
  obtain ⟨r1, u2, hc3, hd⟩ := m_b_e hd
  refine m_calli (k := 0) (n := 0) (va_runS (As := [.int (p0)]) (rest := []) ⟨hx, hb, hml, hown, hts⟩ (c_X7_isName l G Z hZ u u2 p0 r1 hc3) (va_cwS 1 hts gX7_read_X7_isName rfl rfl rfl (by decide +kernel) ⟨(Nat.le_of_ble_eq_true rfl), (Nat.le_of_ble_eq_true rfl)⟩) (m_preS hM hP hS) rfl rfl hl.1 rfl (lv_room (Nat.le_of_ble_eq_true rfl)) dX7_read_1 ⟨(Nat.le_of_ble_eq_true rfl), (Nat.le_of_ble_eq_true rfl)⟩) hS ⟨(Nat.le_of_ble_eq_true rfl), (Nat.le_of_ble_eq_true rfl)⟩ (fun H locs hP hS => ?_)
  refine lv_if_eq (tgt := 17) hx hb dX7_read_4 (by decide) (fun c4 => ?_) (fun c4 => ?_)
  · have hd := m_i_t c4 hd
    refine lv_iload_n hx hb dX7_read_17 rfl (lv_at hl 1 rfl) ?_
    refine lv_sipush (v := 600) hx hb dX7_read_18 (by decide) ?_
    refine lv_isub hx hb dX7_read_21 ?_
    refine lv_i2l (v := (p0 - 600).toInt64) hx hb dX7_read_22 rfl ?_
    refine W.widen (k := 0) (n := 0) (Nat.le_of_ble_eq_true rfl) (Nat.le_of_ble_eq_true rfl) ?_
    exact J23 u2 ((p0 - 600).toInt64) _ _ _ hd hP hS (lv_sub hl [] rfl)
  · have hd := m_i_f c4 hd
    refine lv_aload_n hx hb dX7_read_7 rfl (lv_at hl 0 rfl) ?_
    refine x_getA (own := RX7) (ref := RX7) hx hb hts hin10 hown hM.1 hZ hP 25 (by decide) (hts (.fieldLink RX7 77 "CellNotebookModel" "now" "[I") (by decide +kernel)) (fun _ h9 => h9) dX7_read_8 ?_
    refine lv_iload_n hx hb dX7_read_11 rfl (lv_at hl 1 rfl) ?_
    obtain ⟨hg5, hd⟩ := m_g_e hd
    refine x_ald hx hb hM.1 hZ hP 25 (by decide) hg5 dX7_read_12 ?_
    refine lv_i2l (v := (u2.2 25 p0.toNatClampNeg).toInt64) hx hb dX7_read_13 rfl ?_
    refine lv_goto (tgt := 23) hx hb dX7_read_14 (by decide) ?_
    refine W.widen (k := 0) (n := 0) (Nat.le_of_ble_eq_true rfl) (Nat.le_of_ble_eq_true rfl) ?_
    exact J23 u2 ((u2.2 25 p0.toNatClampNeg).toInt64) _ _ _ hd hP hS (lv_sub hl [] rfl)


noncomputable def f_X7_does_140 (u : xS)  : Option (Int32 × xS) := m_g (vp_nar .boolean 0 = 0) <| some (0, u)
noncomputable def f_X7_does_120 (u : xS) (x1 : Int32) (s0 : Int64) : Option (Int32 × xS) := if (0 : Int32) < (lg_cmp s0 2147483647) then (f_X7_does_140 u) else (if (0 : Int32) ≤ (lg_cmp s0 (-2147483648)) then (m_g (¬ (x1 < 0 ∨ 96 ≤ x1.toNatClampNeg)) <| m_g (¬ ((u.2 3 x1.toNatClampNeg) < 0 ∨ 8 ≤ (u.2 3 x1.toNatClampNeg).toNatClampNeg)) <| m_l (x_sA u 25 ((u.2 3 x1.toNatClampNeg).toNatClampNeg) s0.toInt32) fun u333 => m_g (¬ (x1 < 0 ∨ 96 ≤ x1.toNatClampNeg)) <| m_l (x_sI u333 27 ((u333.1 27) ||| (1 <<< ((u333.2 3 x1.toNatClampNeg) &&& 31)))) fun u335 => m_l (x_sI u335 29 s0.toInt32) fun u336 => m_g (vp_nar .boolean 1 = 1) <| some (1, u336)) else (f_X7_does_140 u))
noncomputable def f_X7_does_70 (u : xS) (x1 : Int32) (x2 : Int64) (x4 : Int64) : Option (Int32 × xS) := m_g (¬ (x1 < 0 ∨ 96 ≤ x1.toNatClampNeg)) <| if (u.2 4 x1.toNatClampNeg) = (0 : Int32) then (f_X7_does_120 u x1 (x2 + x4)) else (if (u.2 4 x1.toNatClampNeg) = 1 then (f_X7_does_120 u x1 (x2 - x4)) else (if (u.2 4 x1.toNatClampNeg) = 2 then (f_X7_does_120 u x1 (x2 * x4)) else (m_g (¬ x4 = (0 : Int64)) <| f_X7_does_120 u x1 (x2 / x4))))
noncomputable def f_X7_does_26 (u : xS)  : Option (Int32 × xS) := m_g (vp_nar .boolean 0 = 0) <| some (0, u)
noncomputable def f_X7_does (u : xS) (p0 : Int32) : Option (Int32 × xS) := m_g (¬ (p0 < 0 ∨ 96 ≤ p0.toNatClampNeg)) <| m_b (f_X7_canRead u (u.2 5 p0.toNatClampNeg)) fun r2 u3 => if r2 = (0 : Int32) then (f_X7_does_26 u3) else (m_g (¬ (p0 < 0 ∨ 96 ≤ p0.toNatClampNeg)) <| m_b (f_X7_canRead u3 (u3.2 6 p0.toNatClampNeg)) fun r7 u8 => if r7 = (0 : Int32) then (f_X7_does_26 u8) else (m_g (¬ (p0 < 0 ∨ 96 ≤ p0.toNatClampNeg)) <| m_b (f_X7_read u8 (u8.2 5 p0.toNatClampNeg)) fun r12 u13 => m_g (¬ (p0 < 0 ∨ 96 ≤ p0.toNatClampNeg)) <| m_b (f_X7_read u13 (u13.2 6 p0.toNatClampNeg)) fun r16 u17 => m_g (¬ (p0 < 0 ∨ 96 ≤ p0.toNatClampNeg)) <| if (u17.2 4 p0.toNatClampNeg) = 3 then (if (lg_cmp r16 0) = (0 : Int32) then (m_g (vp_nar .boolean 0 = 0) <| some (0, u17)) else (f_X7_does_70 u17 p0 r12 r16)) else (f_X7_does_70 u17 p0 r12 r16)))
set_option maxHeartbeats 1000000 in
set_option maxRecDepth 100000 in
theorem c_X7_does (l : Launch) (G : m_G) (Z : xB) (hZ : x_ok Z) (u u' : xS) (p0 : Int32) (r : Int32) (hd : f_X7_does u p0 = some (r, u')) : Met l yX7_does wsX7_does ({ frames := 3, cells := 0, slots := 0, locals := 63 } : Room) (m_Pc G (x_ov Z u) [.ref (Z.2.1), .int (p0)]) (m_Qi G r (x_ov Z u')) 0 0 (fun q => G.1 ≤ q) := by
  refine Met.ofW (cc := cX7_does) (maxL := 9) (ret := (some .boolean)) (by decide +kernel) rfl ?_
  intro p e s m args below meth c s₁ B hml hv
  obtain ⟨rfl, hM, hP⟩ := hv
  have hx := B.exec
  have hb := B.bytes
  have hr := B.returns
  have hts := atoms_spec (ws := wsX7_does) B.pre
  have hown : s.vm.findClass RX7 = some m.cls := findClass_of_methodNamed B.named
  have hlocks := B.notSynchronized
  have hin10 : ∀ w ∈ u_ws RX7 TX7 32, w ∈ wsX7_does := by decide +kernel
  have hS : va_S (fun q => G.1 ≤ q) s.heap s.heap [] := va_S.rf
  have J140 : ∀ (u : xS) (H : Heap) (locs : List Loc) (ls : Array Slot), f_X7_does_140 u = some (r, u') → mP G (x_ov Z u) H → va_S (fun q => G.1 ≤ q) s.heap H locs → lv_has ls 9 [] → W p l e ({ frames := 3, cells := 0, slots := 0, locals := 63 } : Room) s m ([.ref (Z.2.1), .int (p0)] : List Value).toArray below meth c H locs 0 0 (MQ below (m_Qi G r (x_ov Z u')) ([.ref (Z.2.1), .int (p0)] : List Value).toArray s 0 0 (fun q => G.1 ≤ q)) (F0 m 140 ls []) := by
    intro u H locs ls hd hP hS hl
    refine lv_iconst (v := 0) hx hb dX7_does_140 (by decide) ?_
    obtain ⟨hn438, hd⟩ := m_g_e hd
    obtain ⟨e1, e2⟩ := m_s_e hd
    have e2 := congrArg (x_ov Z) e2
    refine W.widen (k := 0) (n := 0) (Nat.le_of_ble_eq_true rfl) (Nat.le_of_ble_eq_true rfl) ?_
    exact W.zret hx hb hr (m_narZ hn438).1 (fun t ht hW => ⟨⟨_, (x_ov Z u), rfl, ⟨e1, e2⟩, by show mP _ _ t.heap; rw [ht]; exact hP⟩, hS.F ht⟩) hS.2.2 dX7_does_141
  have J120 : ∀ (u : xS) (x1 : Int32) (s0 : Int64) (H : Heap) (locs : List Loc) (ls : Array Slot), f_X7_does_120 u x1 s0 = some (r, u') → mP G (x_ov Z u) H → va_S (fun q => G.1 ≤ q) s.heap H locs → lv_has ls 9 [(0, .ref (Z.2.1)), (1, .int (x1))] → W p l e ({ frames := 3, cells := 0, slots := 0, locals := 63 } : Room) s m ([.ref (Z.2.1), .int (p0)] : List Value).toArray below meth c H locs 0 0 (MQ below (m_Qi G r (x_ov Z u')) ([.ref (Z.2.1), .int (p0)] : List Value).toArray s 0 0 (fun q => G.1 ≤ q)) (F0 m 120 ls [.long (s0)]) := by
    intro u x1 s0 H locs ls hd hP hS hl
    refine lv_lstore (lv' := [(7, .long (s0)), (0, .ref (Z.2.1)), (1, .int (x1))]) hx hb dX7_does_120 hl (by decide) rfl (fun ls hl => ?_)
    refine lv_lload hx hb dX7_does_122 (lv_at hl 0 rfl) ?_
    refine lv_ldc2 (own := RX7) (index := 162) (v := 2147483647) hx hb hown (hts (.constantLong RX7 162 (2147483647)) (by decide +kernel)) dX7_does_124 ?_
    refine W.lcmp hx hb dX7_does_127 ?_
    refine lv_if_gt (tgt := 140) hx hb dX7_does_128 (by decide) (fun c329 => ?_) (fun c329 => ?_)
    · have hd := m_i_t c329 hd
      refine W.widen (k := 0) (n := 0) (Nat.le_of_ble_eq_true rfl) (Nat.le_of_ble_eq_true rfl) ?_
      exact J140 u _ _ _ hd hP hS (lv_sub hl [] rfl)
    · have hd := m_i_f c329 hd
      refine lv_lload hx hb dX7_does_131 (lv_at hl 0 rfl) ?_
      refine lv_ldc2 (own := RX7) (index := 164) (v := -2147483648) hx hb hown (hts (.constantLong RX7 164 (-2147483648)) (by decide +kernel)) dX7_does_133 ?_
      refine W.lcmp hx hb dX7_does_136 ?_
      refine lv_if_ge (tgt := 142) hx hb dX7_does_137 (by decide) (fun c330 => ?_) (fun c330 => ?_)
      · have hd := m_i_t c330 hd
        refine lv_aload_n hx hb dX7_does_142 rfl (lv_at hl 1 rfl) ?_
        refine x_getA (own := RX7) (ref := RX7) hx hb hts hin10 hown hM.1 hZ hP 25 (by decide) (hts (.fieldLink RX7 77 "CellNotebookModel" "now" "[I") (by decide +kernel)) (fun _ h9 => h9) dX7_does_143 ?_
        refine lv_aload_n hx hb dX7_does_146 rfl (lv_at hl 1 rfl) ?_
        refine x_getA (own := RX7) (ref := RX7) hx hb hts hin10 hown hM.1 hZ hP 3 (by decide) (hts (.fieldLink RX7 16 "CellNotebookModel" "name" "[I") (by decide +kernel)) (fun _ h9 => h9) dX7_does_147 ?_
        refine lv_iload_n hx hb dX7_does_150 rfl (lv_at hl 2 rfl) ?_
        obtain ⟨hg331, hd⟩ := m_g_e hd
        refine x_ald hx hb hM.1 hZ hP 3 (by decide) hg331 dX7_does_151 ?_
        refine lv_lload hx hb dX7_does_152 (lv_at hl 0 rfl) ?_
        refine lv_l2i (v := s0.toInt32) hx hb dX7_does_154 rfl ?_
        obtain ⟨hg332, hd⟩ := m_g_e hd
        refine x_ast hx hb hM.1 hZ hP hS 25 (by decide) hg332 dX7_does_155 (fun H locs hP hS => ?_)
        obtain ⟨u333, ew, hd⟩ := m_l_e hd
        have hP : mP G (x_ov Z u333) H := by rw [ew]; exact hP
        refine lv_aload_n hx hb dX7_does_156 rfl (lv_at hl 1 rfl) ?_
        refine lv_dup hx hb dX7_does_157 rfl ?_
        refine x_getI (own := RX7) (ref := RX7) hx hb hts hin10 hown hM.1 hZ hP 27 (by decide) (hts (.fieldLink RX7 145 "CellNotebookModel" "sets" "I") (by decide +kernel)) (fun _ h9 => h9) dX7_does_158 ?_
        refine lv_iconst (v := 1) hx hb dX7_does_161 (by decide) ?_
        refine lv_aload_n hx hb dX7_does_162 rfl (lv_at hl 1 rfl) ?_
        refine x_getA (own := RX7) (ref := RX7) hx hb hts hin10 hown hM.1 hZ hP 3 (by decide) (hts (.fieldLink RX7 16 "CellNotebookModel" "name" "[I") (by decide +kernel)) (fun _ h9 => h9) dX7_does_163 ?_
        refine lv_iload_n hx hb dX7_does_166 rfl (lv_at hl 2 rfl) ?_
        obtain ⟨hg334, hd⟩ := m_g_e hd
        refine x_ald hx hb hM.1 hZ hP 3 (by decide) hg334 dX7_does_167 ?_
        refine lv_ishl hx hb dX7_does_168 ?_
        refine lv_ior hx hb dX7_does_169 ?_
        refine x_putI (own := RX7) (ref := RX7) hx hb hts hin10 hown hM.1 hZ hP hS 27 (by decide) (hts (.fieldLink RX7 145 "CellNotebookModel" "sets" "I") (by decide +kernel)) (fun _ h9 => h9) dX7_does_170 (fun H locs hP hS => ?_)
        obtain ⟨u335, ew, hd⟩ := m_l_e hd
        have hP : mP G (x_ov Z u335) H := by rw [ew]; exact hP
        refine lv_aload_n hx hb dX7_does_173 rfl (lv_at hl 1 rfl) ?_
        refine lv_lload hx hb dX7_does_174 (lv_at hl 0 rfl) ?_
        refine lv_l2i (v := s0.toInt32) hx hb dX7_does_176 rfl ?_
        refine x_putI (own := RX7) (ref := RX7) hx hb hts hin10 hown hM.1 hZ hP hS 29 (by decide) (hts (.fieldLink RX7 166 "CellNotebookModel" "came" "I") (by decide +kernel)) (fun _ h9 => h9) dX7_does_177 (fun H locs hP hS => ?_)
        obtain ⟨u336, ew, hd⟩ := m_l_e hd
        have hP : mP G (x_ov Z u336) H := by rw [ew]; exact hP
        refine lv_iconst (v := 1) hx hb dX7_does_180 (by decide) ?_
        obtain ⟨hn337, hd⟩ := m_g_e hd
        obtain ⟨e1, e2⟩ := m_s_e hd
        have e2 := congrArg (x_ov Z) e2
        refine W.widen (k := 0) (n := 0) (Nat.le_of_ble_eq_true rfl) (Nat.le_of_ble_eq_true rfl) ?_
        exact W.zret hx hb hr (m_narZ hn337).1 (fun t ht hW => ⟨⟨_, (x_ov Z u336), rfl, ⟨e1, e2⟩, by show mP _ _ t.heap; rw [ht]; exact hP⟩, hS.F ht⟩) hS.2.2 dX7_does_181
      · have hd := m_i_f c330 hd
        refine W.widen (k := 0) (n := 0) (Nat.le_of_ble_eq_true rfl) (Nat.le_of_ble_eq_true rfl) ?_
        exact J140 u _ _ _ hd hP hS (lv_sub hl [] rfl)
  have J70 : ∀ (u : xS) (x1 : Int32) (x2 : Int64) (x4 : Int64) (H : Heap) (locs : List Loc) (ls : Array Slot), f_X7_does_70 u x1 x2 x4 = some (r, u') → mP G (x_ov Z u) H → va_S (fun q => G.1 ≤ q) s.heap H locs → lv_has ls 9 [(0, .ref (Z.2.1)), (1, .int (x1)), (2, .long (x2)), (4, .long (x4))] → W p l e ({ frames := 3, cells := 0, slots := 0, locals := 63 } : Room) s m ([.ref (Z.2.1), .int (p0)] : List Value).toArray below meth c H locs 0 0 (MQ below (m_Qi G r (x_ov Z u')) ([.ref (Z.2.1), .int (p0)] : List Value).toArray s 0 0 (fun q => G.1 ≤ q)) (F0 m 70 ls []) := by
    intro u x1 x2 x4 H locs ls hd hP hS hl
    refine lv_aload_n hx hb dX7_does_70 rfl (lv_at hl 0 rfl) ?_
    refine x_getA (own := RX7) (ref := RX7) hx hb hts hin10 hown hM.1 hZ hP 4 (by decide) (hts (.fieldLink RX7 19 "CellNotebookModel" "operation" "[I") (by decide +kernel)) (fun _ h9 => h9) dX7_does_71 ?_
    refine lv_iload_n hx hb dX7_does_74 rfl (lv_at hl 1 rfl) ?_
    obtain ⟨hg224, hd⟩ := m_g_e hd
    refine x_ald hx hb hM.1 hZ hP 4 (by decide) hg224 dX7_does_75 ?_
    refine lv_istore (lv' := [(6, .int (u.2 4 x1.toNatClampNeg)), (0, .ref (Z.2.1)), (1, .int (x1)), (2, .long (x2)), (4, .long (x4))]) hx hb dX7_does_76 hl (by decide) rfl (fun ls hl => ?_)
    refine lv_iload hx hb dX7_does_78 (lv_at hl 0 rfl) ?_
    refine lv_if_ne (tgt := 90) hx hb dX7_does_80 (by decide) (fun c225 => ?_) (fun c225 => ?_)
    · have hd := m_i_f c225 hd
      refine lv_iload hx hb dX7_does_90 (lv_at hl 0 rfl) ?_
      refine lv_iconst (v := 1) hx hb dX7_does_92 (by decide) ?_
      refine lv_icmp_ne (tgt := 103) hx hb dX7_does_93 (by decide) (fun c226 => ?_) (fun c226 => ?_)
      · have hd := m_i_f c226 hd
        refine lv_iload hx hb dX7_does_103 (lv_at hl 0 rfl) ?_
        refine lv_iconst (v := 2) hx hb dX7_does_105 (by decide) ?_
        refine lv_icmp_ne (tgt := 116) hx hb dX7_does_106 (by decide) (fun c227 => ?_) (fun c227 => ?_)
        · have hd := m_i_f c227 hd
          refine lv_lload_n hx hb dX7_does_116 rfl (lv_at hl 3 rfl) ?_
          refine lv_lload hx hb dX7_does_117 (lv_at hl 4 rfl) ?_
          obtain ⟨hz228, hd⟩ := m_g_e hd
          refine lv_ldiv hx hb dX7_does_119 hz228 ?_
          refine W.widen (k := 0) (n := 0) (Nat.le_of_ble_eq_true rfl) (Nat.le_of_ble_eq_true rfl) ?_
          exact J120 u x1 (x2 / x4) _ _ _ hd hP hS (lv_sub hl [1, 2] rfl)
        · have hd := m_i_t c227 hd
          refine lv_lload_n hx hb dX7_does_109 rfl (lv_at hl 3 rfl) ?_
          refine lv_lload hx hb dX7_does_110 (lv_at hl 4 rfl) ?_
          refine lv_lmul hx hb dX7_does_112 ?_
          refine lv_goto (tgt := 120) hx hb dX7_does_113 (by decide) ?_
          refine W.widen (k := 0) (n := 0) (Nat.le_of_ble_eq_true rfl) (Nat.le_of_ble_eq_true rfl) ?_
          exact J120 u x1 (x2 * x4) _ _ _ hd hP hS (lv_sub hl [1, 2] rfl)
      · have hd := m_i_t c226 hd
        refine lv_lload_n hx hb dX7_does_96 rfl (lv_at hl 3 rfl) ?_
        refine lv_lload hx hb dX7_does_97 (lv_at hl 4 rfl) ?_
        refine lv_lsub hx hb dX7_does_99 ?_
        refine lv_goto (tgt := 120) hx hb dX7_does_100 (by decide) ?_
        refine W.widen (k := 0) (n := 0) (Nat.le_of_ble_eq_true rfl) (Nat.le_of_ble_eq_true rfl) ?_
        exact J120 u x1 (x2 - x4) _ _ _ hd hP hS (lv_sub hl [1, 2] rfl)
    · have hd := m_i_t c225 hd
      refine lv_lload_n hx hb dX7_does_83 rfl (lv_at hl 3 rfl) ?_
      refine lv_lload hx hb dX7_does_84 (lv_at hl 4 rfl) ?_
      refine lv_ladd hx hb dX7_does_86 ?_
      refine lv_goto (tgt := 120) hx hb dX7_does_87 (by decide) ?_
      refine W.widen (k := 0) (n := 0) (Nat.le_of_ble_eq_true rfl) (Nat.le_of_ble_eq_true rfl) ?_
      exact J120 u x1 (x2 + x4) _ _ _ hd hP hS (lv_sub hl [1, 2] rfl)
  have J26 : ∀ (u : xS) (H : Heap) (locs : List Loc) (ls : Array Slot), f_X7_does_26 u = some (r, u') → mP G (x_ov Z u) H → va_S (fun q => G.1 ≤ q) s.heap H locs → lv_has ls 9 [] → W p l e ({ frames := 3, cells := 0, slots := 0, locals := 63 } : Room) s m ([.ref (Z.2.1), .int (p0)] : List Value).toArray below meth c H locs 0 0 (MQ below (m_Qi G r (x_ov Z u')) ([.ref (Z.2.1), .int (p0)] : List Value).toArray s 0 0 (fun q => G.1 ≤ q)) (F0 m 26 ls []) := by
    intro u H locs ls hd hP hS hl
    refine lv_iconst (v := 0) hx hb dX7_does_26 (by decide) ?_
    obtain ⟨hn123, hd⟩ := m_g_e hd
    obtain ⟨e1, e2⟩ := m_s_e hd
    have e2 := congrArg (x_ov Z) e2
    refine W.widen (k := 0) (n := 0) (Nat.le_of_ble_eq_true rfl) (Nat.le_of_ble_eq_true rfl) ?_
    exact W.zret hx hb hr (m_narZ hn123).1 (fun t ht hW => ⟨⟨_, (x_ov Z u), rfl, ⟨e1, e2⟩, by show mP _ _ t.heap; rw [ht]; exact hP⟩, hS.F ht⟩) hS.2.2 dX7_does_27
  have hl := lv_entry ([.ref (Z.2.1), .int (p0)]) (n := 9) (Nat.le_of_ble_eq_true rfl)
  rw [lg_entry_eq]
  generalize (lg_sl ([.ref (Z.2.1), .int (p0)]) ++ List.replicate (9 - (lg_sl ([.ref (Z.2.1), .int (p0)])).length) Slot.unset).toArray = ls at hl ⊢
  have hl : lv_has ls 9 [(0, .ref (Z.2.1)), (1, .int (p0))] := hl
  refine lv_aload_n hx hb dX7_does_0 rfl (lv_at hl 0 rfl) ?_
  refine lv_aload_n hx hb dX7_does_1 rfl (lv_at hl 0 rfl) ?_
  refine x_getA (own := RX7) (ref := RX7) hx hb hts hin10 hown hM.1 hZ hP 5 (by decide) (hts (.fieldLink RX7 22 "CellNotebookModel" "left" "[I") (by decide +kernel)) (fun _ h9 => h9) dX7_does_2 ?_
  refine lv_iload_n hx hb dX7_does_5 rfl (lv_at hl 1 rfl) ?_
  obtain ⟨hg1, hd⟩ := m_g_e hd
  refine x_ald hx hb hM.1 hZ hP 5 (by decide) hg1 dX7_does_6 ?_
  obtain ⟨r2, u3, hc4, hd⟩ := m_b_e hd
  refine m_calli (k := 0) (n := 0) (va_runV (As := [.int (u.2 5 p0.toNatClampNeg)]) (rest := []) ⟨hx, hb, hml, hown, hts⟩ (c_X7_canRead l G Z hZ u u3 (u.2 5 p0.toNatClampNeg) r2 hc4) (cwV 1 hts gX7_does_X7_canRead rfl rfl rfl (by decide +kernel) ⟨(Nat.le_of_ble_eq_true rfl), (Nat.le_of_ble_eq_true rfl)⟩) (m_preV (C := RX7) (T := TX7) (N := 32) hM hP hS rfl (by decide) hZ.1) rfl rfl hl.1 rfl (lv_room (Nat.le_of_ble_eq_true rfl)) dX7_does_7 ⟨(Nat.le_of_ble_eq_true rfl), (Nat.le_of_ble_eq_true rfl)⟩) hS ⟨(Nat.le_of_ble_eq_true rfl), (Nat.le_of_ble_eq_true rfl)⟩ (fun H locs hP hS => ?_)
  refine lv_if_eq (tgt := 26) hx hb dX7_does_10 (by decide) (fun c5 => ?_) (fun c5 => ?_)
  · have hd := m_i_t c5 hd
    refine W.widen (k := 0) (n := 0) (Nat.le_of_ble_eq_true rfl) (Nat.le_of_ble_eq_true rfl) ?_
    exact J26 u3 _ _ _ hd hP hS (lv_sub hl [] rfl)
  · have hd := m_i_f c5 hd
    refine lv_aload_n hx hb dX7_does_13 rfl (lv_at hl 0 rfl) ?_
    refine lv_aload_n hx hb dX7_does_14 rfl (lv_at hl 0 rfl) ?_
    refine x_getA (own := RX7) (ref := RX7) hx hb hts hin10 hown hM.1 hZ hP 6 (by decide) (hts (.fieldLink RX7 25 "CellNotebookModel" "right" "[I") (by decide +kernel)) (fun _ h9 => h9) dX7_does_15 ?_
    refine lv_iload_n hx hb dX7_does_18 rfl (lv_at hl 1 rfl) ?_
    obtain ⟨hg6, hd⟩ := m_g_e hd
    refine x_ald hx hb hM.1 hZ hP 6 (by decide) hg6 dX7_does_19 ?_
    obtain ⟨r7, u8, hc9, hd⟩ := m_b_e hd
    refine m_calli (k := 0) (n := 0) (va_runV (As := [.int (u3.2 6 p0.toNatClampNeg)]) (rest := []) ⟨hx, hb, hml, hown, hts⟩ (c_X7_canRead l G Z hZ u3 u8 (u3.2 6 p0.toNatClampNeg) r7 hc9) (cwV 1 hts gX7_does_X7_canRead rfl rfl rfl (by decide +kernel) ⟨(Nat.le_of_ble_eq_true rfl), (Nat.le_of_ble_eq_true rfl)⟩) (m_preV (C := RX7) (T := TX7) (N := 32) hM hP hS rfl (by decide) hZ.1) rfl rfl hl.1 rfl (lv_room (Nat.le_of_ble_eq_true rfl)) dX7_does_20 ⟨(Nat.le_of_ble_eq_true rfl), (Nat.le_of_ble_eq_true rfl)⟩) hS ⟨(Nat.le_of_ble_eq_true rfl), (Nat.le_of_ble_eq_true rfl)⟩ (fun H locs hP hS => ?_)
    refine lv_if_ne (tgt := 28) hx hb dX7_does_23 (by decide) (fun c10 => ?_) (fun c10 => ?_)
    · have hd := m_i_f c10 hd
      refine lv_aload_n hx hb dX7_does_28 rfl (lv_at hl 0 rfl) ?_
      refine lv_aload_n hx hb dX7_does_29 rfl (lv_at hl 0 rfl) ?_
      refine x_getA (own := RX7) (ref := RX7) hx hb hts hin10 hown hM.1 hZ hP 5 (by decide) (hts (.fieldLink RX7 22 "CellNotebookModel" "left" "[I") (by decide +kernel)) (fun _ h9 => h9) dX7_does_30 ?_
      refine lv_iload_n hx hb dX7_does_33 rfl (lv_at hl 1 rfl) ?_
      obtain ⟨hg11, hd⟩ := m_g_e hd
      refine x_ald hx hb hM.1 hZ hP 5 (by decide) hg11 dX7_does_34 ?_
      obtain ⟨r12, u13, hc14, hd⟩ := m_b_e hd
      refine m_calll (k := 0) (n := 0) (va_runV (As := [.int (u8.2 5 p0.toNatClampNeg)]) (rest := []) ⟨hx, hb, hml, hown, hts⟩ (c_X7_read l G Z hZ u8 u13 (u8.2 5 p0.toNatClampNeg) r12 hc14) (cwV 1 hts gX7_does_X7_read rfl rfl rfl (by decide +kernel) ⟨(Nat.le_of_ble_eq_true rfl), (Nat.le_of_ble_eq_true rfl)⟩) (m_preV (C := RX7) (T := TX7) (N := 32) hM hP hS rfl (by decide) hZ.1) rfl rfl hl.1 rfl (lv_room (Nat.le_of_ble_eq_true rfl)) dX7_does_35 ⟨(Nat.le_of_ble_eq_true rfl), (Nat.le_of_ble_eq_true rfl)⟩) hS ⟨(Nat.le_of_ble_eq_true rfl), (Nat.le_of_ble_eq_true rfl)⟩ (fun H locs hP hS => ?_)
      refine lv_lstore_n (lv' := [(2, .long (r12)), (0, .ref (Z.2.1)), (1, .int (p0))]) hx hb dX7_does_38 rfl hl (by decide) rfl (fun ls hl => ?_)
      refine lv_aload_n hx hb dX7_does_39 rfl (lv_at hl 1 rfl) ?_
      refine lv_aload_n hx hb dX7_does_40 rfl (lv_at hl 1 rfl) ?_
      refine x_getA (own := RX7) (ref := RX7) hx hb hts hin10 hown hM.1 hZ hP 6 (by decide) (hts (.fieldLink RX7 25 "CellNotebookModel" "right" "[I") (by decide +kernel)) (fun _ h9 => h9) dX7_does_41 ?_
      refine lv_iload_n hx hb dX7_does_44 rfl (lv_at hl 2 rfl) ?_
      obtain ⟨hg15, hd⟩ := m_g_e hd
      refine x_ald hx hb hM.1 hZ hP 6 (by decide) hg15 dX7_does_45 ?_
      obtain ⟨r16, u17, hc18, hd⟩ := m_b_e hd
      refine m_calll (k := 0) (n := 0) (va_runV (As := [.int (u13.2 6 p0.toNatClampNeg)]) (rest := []) ⟨hx, hb, hml, hown, hts⟩ (c_X7_read l G Z hZ u13 u17 (u13.2 6 p0.toNatClampNeg) r16 hc18) (cwV 1 hts gX7_does_X7_read rfl rfl rfl (by decide +kernel) ⟨(Nat.le_of_ble_eq_true rfl), (Nat.le_of_ble_eq_true rfl)⟩) (m_preV (C := RX7) (T := TX7) (N := 32) hM hP hS rfl (by decide) hZ.1) rfl rfl hl.1 rfl (lv_room (Nat.le_of_ble_eq_true rfl)) dX7_does_46 ⟨(Nat.le_of_ble_eq_true rfl), (Nat.le_of_ble_eq_true rfl)⟩) hS ⟨(Nat.le_of_ble_eq_true rfl), (Nat.le_of_ble_eq_true rfl)⟩ (fun H locs hP hS => ?_)
      refine lv_lstore (lv' := [(4, .long (r16)), (2, .long (r12)), (0, .ref (Z.2.1)), (1, .int (p0))]) hx hb dX7_does_49 hl (by decide) rfl (fun ls hl => ?_)
      refine lv_aload_n hx hb dX7_does_51 rfl (lv_at hl 2 rfl) ?_
      refine x_getA (own := RX7) (ref := RX7) hx hb hts hin10 hown hM.1 hZ hP 4 (by decide) (hts (.fieldLink RX7 19 "CellNotebookModel" "operation" "[I") (by decide +kernel)) (fun _ h9 => h9) dX7_does_52 ?_
      refine lv_iload_n hx hb dX7_does_55 rfl (lv_at hl 3 rfl) ?_
      obtain ⟨hg19, hd⟩ := m_g_e hd
      refine x_ald hx hb hM.1 hZ hP 4 (by decide) hg19 dX7_does_56 ?_
      refine lv_iconst (v := 3) hx hb dX7_does_57 (by decide) ?_
      refine lv_icmp_ne (tgt := 70) hx hb dX7_does_58 (by decide) (fun c20 => ?_) (fun c20 => ?_)
      · have hd := m_i_f c20 hd
        refine W.widen (k := 0) (n := 0) (Nat.le_of_ble_eq_true rfl) (Nat.le_of_ble_eq_true rfl) ?_
        exact J70 u17 p0 r12 r16 _ _ _ hd hP hS (lv_sub hl [2, 3, 1, 0] rfl)
      · have hd := m_i_t c20 hd
        refine lv_lload hx hb dX7_does_61 (lv_at hl 0 rfl) ?_
        refine lv_lconst (v := 0) hx hb dX7_does_63 (by decide) ?_
        refine W.lcmp hx hb dX7_does_64 ?_
        refine lv_if_ne (tgt := 70) hx hb dX7_does_65 (by decide) (fun c21 => ?_) (fun c21 => ?_)
        · have hd := m_i_f c21 hd
          refine W.widen (k := 0) (n := 0) (Nat.le_of_ble_eq_true rfl) (Nat.le_of_ble_eq_true rfl) ?_
          exact J70 u17 p0 r12 r16 _ _ _ hd hP hS (lv_sub hl [2, 3, 1, 0] rfl)
        · have hd := m_i_t c21 hd
          refine lv_iconst (v := 0) hx hb dX7_does_68 (by decide) ?_
          obtain ⟨hn22, hd⟩ := m_g_e hd
          obtain ⟨e1, e2⟩ := m_s_e hd
          have e2 := congrArg (x_ov Z) e2
          refine W.widen (k := 0) (n := 0) (Nat.le_of_ble_eq_true rfl) (Nat.le_of_ble_eq_true rfl) ?_
          exact W.zret hx hb hr (m_narZ hn22).1 (fun t ht hW => ⟨⟨_, (x_ov Z u17), rfl, ⟨e1, e2⟩, by show mP _ _ t.heap; rw [ht]; exact hP⟩, hS.F ht⟩) hS.2.2 dX7_does_69
    · have hd := m_i_t c10 hd
      refine W.widen (k := 0) (n := 0) (Nat.le_of_ble_eq_true rfl) (Nat.le_of_ble_eq_true rfl) ?_
      exact J26 u8 _ _ _ hd hP hS (lv_sub hl [] rfl)


noncomputable def f_X7_doesAll_45 (u : xS) (x2 : Int32) : Option (Int32 × xS) := m_g (vp_nar .boolean x2 = x2) <| some (x2, u)
noncomputable def f_X7_doesAll_14_b (k14 : xS → Int32 → Int32 → Int32 → Option (Int32 × xS)) (u : xS) (x1 : Int32) (x2 : Int32) (x3 : Int32) : Option (Int32 × xS) := m_g (¬ (x1 < 0 ∨ 16 ≤ x1.toNatClampNeg)) <| if (u.2 2 x1.toNatClampNeg) ≤ x3 then (f_X7_doesAll_45 u x2) else (if x2 = (0 : Int32) then (f_X7_doesAll_45 u x2) else (m_b (f_X7_does u ((6 * x1) + x3)) fun r106 u107 => k14 u107 x1 r106 (x3 + 1)))
noncomputable def f_X7_doesAll_14 (n : Nat) : xS → Int32 → Int32 → Int32 → Option (Int32 × xS) := Nat.rec (motive := fun _ => xS → Int32 → Int32 → Int32 → Option (Int32 × xS)) (fun _ _ _ _ => none) (fun _ k => f_X7_doesAll_14_b  k) n
noncomputable def f_X7_doesAll (u : xS) (p0 : Int32) : Option (Int32 × xS) := m_l (x_sI u 27 0) fun u1 => m_l (x_sI u1 28 0) fun u2 => f_X7_doesAll_14 m_N u2 p0 1 0
set_option maxHeartbeats 1000000 in
set_option maxRecDepth 100000 in
theorem c_X7_doesAll (l : Launch) (G : m_G) (Z : xB) (hZ : x_ok Z) (u u' : xS) (p0 : Int32) (r : Int32) (hd : f_X7_doesAll u p0 = some (r, u')) : Met l yX7_doesAll wsX7_doesAll ({ frames := 4, cells := 0, slots := 0, locals := 91 } : Room) (m_Pc G (x_ov Z u) [.ref (Z.2.1), .int (p0)]) (m_Qi G r (x_ov Z u')) 0 0 (fun q => G.1 ≤ q) := by
  refine Met.ofW (cc := cX7_doesAll) (maxL := 4) (ret := (some .boolean)) (by decide +kernel) rfl ?_
  intro p e s m args below meth c s₁ B hml hv
  obtain ⟨rfl, hM, hP⟩ := hv
  have hx := B.exec
  have hb := B.bytes
  have hr := B.returns
  have hts := atoms_spec (ws := wsX7_doesAll) B.pre
  have hown : s.vm.findClass RX7 = some m.cls := findClass_of_methodNamed B.named
  have hlocks := B.notSynchronized
  have hin10 : ∀ w ∈ u_ws RX7 TX7 32, w ∈ wsX7_doesAll := by decide +kernel
  have hS : va_S (fun q => G.1 ≤ q) s.heap s.heap [] := va_S.rf
  have J45 : ∀ (u : xS) (x2 : Int32) (H : Heap) (locs : List Loc) (ls : Array Slot), f_X7_doesAll_45 u x2 = some (r, u') → mP G (x_ov Z u) H → va_S (fun q => G.1 ≤ q) s.heap H locs → lv_has ls 4 [(2, .int (x2))] → W p l e ({ frames := 4, cells := 0, slots := 0, locals := 91 } : Room) s m ([.ref (Z.2.1), .int (p0)] : List Value).toArray below meth c H locs 0 0 (MQ below (m_Qi G r (x_ov Z u')) ([.ref (Z.2.1), .int (p0)] : List Value).toArray s 0 0 (fun q => G.1 ≤ q)) (F0 m 45 ls []) := by
    intro u x2 H locs ls hd hP hS hl
    refine lv_iload_n hx hb dX7_doesAll_45 rfl (lv_at hl 0 rfl) ?_
    obtain ⟨hn209, hd⟩ := m_g_e hd
    obtain ⟨e1, e2⟩ := m_s_e hd
    have e2 := congrArg (x_ov Z) e2
    refine W.widen (k := 0) (n := 0) (Nat.le_of_ble_eq_true rfl) (Nat.le_of_ble_eq_true rfl) ?_
    exact W.zret hx hb hr (m_narZ hn209).1 (fun t ht hW => ⟨⟨_, (x_ov Z u), rfl, ⟨e1, e2⟩, by show mP _ _ t.heap; rw [ht]; exact hP⟩, hS.F ht⟩) hS.2.2 dX7_doesAll_46
  have J14 : ∀ (n14 : Nat) (u : xS) (x1 : Int32) (x2 : Int32) (x3 : Int32) (H : Heap) (locs : List Loc) (ls : Array Slot), f_X7_doesAll_14 n14 u x1 x2 x3 = some (r, u') → mP G (x_ov Z u) H → va_S (fun q => G.1 ≤ q) s.heap H locs → lv_has ls 4 [(0, .ref (Z.2.1)), (1, .int (x1)), (2, .int (x2)), (3, .int (x3))] → W p l e ({ frames := 4, cells := 0, slots := 0, locals := 91 } : Room) s m ([.ref (Z.2.1), .int (p0)] : List Value).toArray below meth c H locs 0 0 (MQ below (m_Qi G r (x_ov Z u')) ([.ref (Z.2.1), .int (p0)] : List Value).toArray s 0 0 (fun q => G.1 ≤ q)) (F0 m 14 ls []) := by
    intro n14
    induction n14 with
    | zero => intro u x1 x2 x3 H locs ls hd; exact absurd (show (none : Option (Int32 × xS)) = some _ from hd) (fun h => nomatch h)
    | succ n14 ih14 =>
      intro u x1 x2 x3 H locs ls hd hP hS hl
      have hd : f_X7_doesAll_14_b (f_X7_doesAll_14 n14) u x1 x2 x3 = some (r, u') := hd
      refine lv_iload_n hx hb dX7_doesAll_14 rfl (lv_at hl 3 rfl) ?_
      refine lv_aload_n hx hb dX7_doesAll_15 rfl (lv_at hl 0 rfl) ?_
      refine x_getA (own := RX7) (ref := RX7) hx hb hts hin10 hown hM.1 hZ hP 2 (by decide) (hts (.fieldLink RX7 13 "CellNotebookModel" "many" "[I") (by decide +kernel)) (fun _ h9 => h9) dX7_doesAll_16 ?_
      refine lv_iload_n hx hb dX7_doesAll_19 rfl (lv_at hl 1 rfl) ?_
      obtain ⟨hg103, hd⟩ := m_g_e hd
      refine x_ald hx hb hM.1 hZ hP 2 (by decide) hg103 dX7_doesAll_20 ?_
      refine lv_icmp_ge (tgt := 45) hx hb dX7_doesAll_21 (by decide) (fun c104 => ?_) (fun c104 => ?_)
      · have hd := m_i_t c104 hd
        refine W.widen (k := 0) (n := 0) (Nat.le_of_ble_eq_true rfl) (Nat.le_of_ble_eq_true rfl) ?_
        exact J45 u x2 _ _ _ hd hP hS (lv_sub hl [2] rfl)
      · have hd := m_i_f c104 hd
        refine lv_iload_n hx hb dX7_doesAll_24 rfl (lv_at hl 2 rfl) ?_
        refine lv_if_eq (tgt := 45) hx hb dX7_doesAll_25 (by decide) (fun c105 => ?_) (fun c105 => ?_)
        · have hd := m_i_t c105 hd
          refine W.widen (k := 0) (n := 0) (Nat.le_of_ble_eq_true rfl) (Nat.le_of_ble_eq_true rfl) ?_
          exact J45 u x2 _ _ _ hd hP hS (lv_sub hl [2] rfl)
        · have hd := m_i_f c105 hd
          refine lv_aload_n hx hb dX7_doesAll_28 rfl (lv_at hl 0 rfl) ?_
          refine lv_bipush (v := 6) hx hb dX7_doesAll_29 (by decide) ?_
          refine lv_iload_n hx hb dX7_doesAll_31 rfl (lv_at hl 1 rfl) ?_
          refine lv_imul hx hb dX7_doesAll_32 ?_
          refine lv_iload_n hx hb dX7_doesAll_33 rfl (lv_at hl 3 rfl) ?_
          refine lv_iadd hx hb dX7_doesAll_34 ?_
          obtain ⟨r106, u107, hc108, hd⟩ := m_b_e hd
          refine m_calli (k := 0) (n := 0) (va_runV (As := [.int ((6 * x1) + x3)]) (rest := []) ⟨hx, hb, hml, hown, hts⟩ (c_X7_does l G Z hZ u u107 ((6 * x1) + x3) r106 hc108) (cwV 1 hts gX7_doesAll_X7_does rfl rfl rfl (by decide +kernel) ⟨(Nat.le_of_ble_eq_true rfl), (Nat.le_of_ble_eq_true rfl)⟩) (m_preV (C := RX7) (T := TX7) (N := 32) hM hP hS rfl (by decide) hZ.1) rfl rfl hl.1 rfl (lv_room (Nat.le_of_ble_eq_true rfl)) dX7_doesAll_35 ⟨(Nat.le_of_ble_eq_true rfl), (Nat.le_of_ble_eq_true rfl)⟩) hS ⟨(Nat.le_of_ble_eq_true rfl), (Nat.le_of_ble_eq_true rfl)⟩ (fun H locs hP hS => ?_)
          refine lv_istore_n (lv' := [(2, .int (r106)), (0, .ref (Z.2.1)), (1, .int (x1)), (3, .int (x3))]) hx hb dX7_doesAll_38 rfl hl (by decide) rfl (fun ls hl => ?_)
          refine lv_iinc (v := x3 + 1) (lv' := [(3, .int (x3 + 1)), (2, .int (r106)), (0, .ref (Z.2.1)), (1, .int (x1))]) hx hb dX7_doesAll_39 hl (k := 3) rfl rfl (by decide) rfl (fun ls hl => ?_)
          refine lv_goto (tgt := 14) hx hb dX7_doesAll_42 (by decide) ?_
          refine W.widen (k := 0) (n := 0) (Nat.le_of_ble_eq_true rfl) (Nat.le_of_ble_eq_true rfl) ?_
          exact ih14 u107 x1 r106 (x3 + 1) _ _ _ hd hP hS (lv_sub hl [2, 3, 1, 0] rfl)
  have hl := lv_entry ([.ref (Z.2.1), .int (p0)]) (n := 4) (Nat.le_of_ble_eq_true rfl)
  rw [lg_entry_eq]
  generalize (lg_sl ([.ref (Z.2.1), .int (p0)]) ++ List.replicate (4 - (lg_sl ([.ref (Z.2.1), .int (p0)])).length) Slot.unset).toArray = ls at hl ⊢
  have hl : lv_has ls 4 [(0, .ref (Z.2.1)), (1, .int (p0))] := hl
  refine lv_aload_n hx hb dX7_doesAll_0 rfl (lv_at hl 0 rfl) ?_
  refine lv_iconst (v := 0) hx hb dX7_doesAll_1 (by decide) ?_
  refine x_putI (own := RX7) (ref := RX7) hx hb hts hin10 hown hM.1 hZ hP hS 27 (by decide) (hts (.fieldLink RX7 145 "CellNotebookModel" "sets" "I") (by decide +kernel)) (fun _ h9 => h9) dX7_doesAll_2 (fun H locs hP hS => ?_)
  obtain ⟨u1, ew, hd⟩ := m_l_e hd
  have hP : mP G (x_ov Z u1) H := by rw [ew]; exact hP
  refine lv_aload_n hx hb dX7_doesAll_5 rfl (lv_at hl 0 rfl) ?_
  refine lv_iconst (v := 0) hx hb dX7_doesAll_6 (by decide) ?_
  refine x_putI (own := RX7) (ref := RX7) hx hb hts hin10 hown hM.1 hZ hP hS 28 (by decide) (hts (.fieldLink RX7 142 "CellNotebookModel" "reads" "I") (by decide +kernel)) (fun _ h9 => h9) dX7_doesAll_7 (fun H locs hP hS => ?_)
  obtain ⟨u2, ew, hd⟩ := m_l_e hd
  have hP : mP G (x_ov Z u2) H := by rw [ew]; exact hP
  refine lv_iconst (v := 1) hx hb dX7_doesAll_10 (by decide) ?_
  refine lv_istore_n (lv' := [(2, .int (1)), (0, .ref (Z.2.1)), (1, .int (p0))]) hx hb dX7_doesAll_11 rfl hl (by decide) rfl (fun ls hl => ?_)
  refine lv_iconst (v := 0) hx hb dX7_doesAll_12 (by decide) ?_
  refine lv_istore_n (lv' := [(3, .int (0)), (2, .int (1)), (0, .ref (Z.2.1)), (1, .int (p0))]) hx hb dX7_doesAll_13 rfl hl (by decide) rfl (fun ls hl => ?_)
  refine W.widen (k := 0) (n := 0) (Nat.le_of_ble_eq_true rfl) (Nat.le_of_ble_eq_true rfl) ?_
  exact J14 m_N u2 p0 1 0 _ _ _ hd hP hS (lv_sub hl [2, 3, 1, 0] rfl)


noncomputable def f_X7_laysNow_46 (k7 : xS → Int32 → Option (Unit × xS)) (u : xS) (x1 : Int32) (s0 : Int32) (s1 : Int32) : Option (Unit × xS) := m_l (x_sI u 26 (s1 ||| s0)) fun u208 => k7 u208 (x1 + 1)
noncomputable def f_X7_laysNow_7_b (k7 : xS → Int32 → Option (Unit × xS)) (u : xS) (x1 : Int32) : Option (Unit × xS) := if 8 ≤ x1 then (some ((), u)) else (m_g (¬ (x1 < 0 ∨ 8 ≤ x1.toNatClampNeg)) <| m_g (¬ (x1 < 0 ∨ 8 ≤ x1.toNatClampNeg)) <| m_l (x_sA u 25 (x1.toNatClampNeg) (u.2 10 x1.toNatClampNeg)) fun u105 => m_g (¬ (x1 < 0 ∨ 8 ≤ x1.toNatClampNeg)) <| if (u105.2 11 x1.toNatClampNeg) ≤ (0 : Int32) then (f_X7_laysNow_46 k7 u105 x1 0 (u105.1 26)) else (f_X7_laysNow_46 k7 u105 x1 (1 <<< (x1 &&& 31)) (u105.1 26)))
noncomputable def f_X7_laysNow_7 (n : Nat) : xS → Int32 → Option (Unit × xS) := Nat.rec (motive := fun _ => xS → Int32 → Option (Unit × xS)) (fun _ _ => none) (fun _ k => f_X7_laysNow_7_b  k) n
noncomputable def f_X7_laysNow (u : xS)  : Option (Unit × xS) := m_l (x_sI u 26 0) fun u1 => f_X7_laysNow_7 m_N u1 0
set_option maxHeartbeats 1000000 in
set_option maxRecDepth 100000 in
theorem c_X7_laysNow (l : Launch) (G : m_G) (Z : xB) (hZ : x_ok Z) (u u' : xS)  (r : Unit) (hd : f_X7_laysNow u = some (r, u')) : Met l yX7_laysNow wsX7_laysNow ({ frames := 0, cells := 0, slots := 0, locals := 0 } : Room) (m_Pc G (x_ov Z u) [.ref (Z.2.1)]) (m_Qv G r (x_ov Z u')) 0 0 (fun q => G.1 ≤ q) := by
  refine Met.ofW (cc := cX7_laysNow) (maxL := 2) (ret := none) (by decide +kernel) rfl ?_
  intro p e s m args below meth c s₁ B hml hv
  obtain ⟨rfl, hM, hP⟩ := hv
  have hx := B.exec
  have hb := B.bytes
  have hr := B.returns
  have hts := atoms_spec (ws := wsX7_laysNow) B.pre
  have hown : s.vm.findClass RX7 = some m.cls := findClass_of_methodNamed B.named
  have hlocks := B.notSynchronized
  have hin10 : ∀ w ∈ u_ws RX7 TX7 32, w ∈ wsX7_laysNow := by decide +kernel
  have hS : va_S (fun q => G.1 ≤ q) s.heap s.heap [] := va_S.rf
  have J7 : ∀ (n7 : Nat) (u : xS) (x1 : Int32) (H : Heap) (locs : List Loc) (ls : Array Slot), f_X7_laysNow_7 n7 u x1 = some (r, u') → mP G (x_ov Z u) H → va_S (fun q => G.1 ≤ q) s.heap H locs → lv_has ls 2 [(0, .ref (Z.2.1)), (1, .int (x1))] → W p l e ({ frames := 0, cells := 0, slots := 0, locals := 0 } : Room) s m ([.ref (Z.2.1)] : List Value).toArray below meth c H locs 0 0 (MQ below (m_Qv G r (x_ov Z u')) ([.ref (Z.2.1)] : List Value).toArray s 0 0 (fun q => G.1 ≤ q)) (F0 m 7 ls []) := by
    intro n7
    induction n7 with
    | zero => intro u x1 H locs ls hd; exact absurd (show (none : Option (Unit × xS)) = some _ from hd) (fun h => nomatch h)
    | succ n7 ih7 =>
      have J46 : ∀ (u : xS) (x1 : Int32) (s0 : Int32) (s1 : Int32) (H : Heap) (locs : List Loc) (ls : Array Slot), f_X7_laysNow_46 (f_X7_laysNow_7 n7) u x1 s0 s1 = some (r, u') → mP G (x_ov Z u) H → va_S (fun q => G.1 ≤ q) s.heap H locs → lv_has ls 2 [(0, .ref (Z.2.1)), (1, .int (x1))] → W p l e ({ frames := 0, cells := 0, slots := 0, locals := 0 } : Room) s m ([.ref (Z.2.1)] : List Value).toArray below meth c H locs 0 0 (MQ below (m_Qv G r (x_ov Z u')) ([.ref (Z.2.1)] : List Value).toArray s 0 0 (fun q => G.1 ≤ q)) (F0 m 46 ls [.int (s0), .int (s1), .ref (Z.2.1)]) := by
        intro u x1 s0 s1 H locs ls hd hP hS hl
        refine lv_ior hx hb dX7_laysNow_46 ?_
        refine x_putI (own := RX7) (ref := RX7) hx hb hts hin10 hown hM.1 hZ hP hS 26 (by decide) (hts (.fieldLink RX7 152 "CellNotebookModel" "there" "I") (by decide +kernel)) (fun _ h9 => h9) dX7_laysNow_47 (fun H locs hP hS => ?_)
        obtain ⟨u208, ew, hd⟩ := m_l_e hd
        have hP : mP G (x_ov Z u208) H := by rw [ew]; exact hP
        refine lv_iinc (v := x1 + 1) (lv' := [(1, .int (x1 + 1)), (0, .ref (Z.2.1))]) hx hb dX7_laysNow_50 hl (k := 1) rfl rfl (by decide) rfl (fun ls hl => ?_)
        refine lv_goto (tgt := 7) hx hb dX7_laysNow_53 (by decide) ?_
        refine W.widen (k := 0) (n := 0) (Nat.le_of_ble_eq_true rfl) (Nat.le_of_ble_eq_true rfl) ?_
        exact ih7 u208 (x1 + 1) _ _ _ hd hP hS (lv_sub hl [1, 0] rfl)
      intro u x1 H locs ls hd hP hS hl
      have hd : f_X7_laysNow_7_b (f_X7_laysNow_7 n7) u x1 = some (r, u') := hd
      refine lv_iload_n hx hb dX7_laysNow_7 rfl (lv_at hl 1 rfl) ?_
      refine lv_bipush (v := 8) hx hb dX7_laysNow_8 (by decide) ?_
      refine lv_icmp_ge (tgt := 56) hx hb dX7_laysNow_10 (by decide) (fun c102 => ?_) (fun c102 => ?_)
      · have hd := m_i_t c102 hd
        obtain ⟨e1, e2⟩ := m_s_e hd
        have e2 := congrArg (x_ov Z) e2
        refine W.widen (k := 0) (n := 0) (Nat.le_of_ble_eq_true rfl) (Nat.le_of_ble_eq_true rfl) ?_
        exact W.vret hx hb hr (fun t ht hW => ⟨⟨(x_ov Z u), rfl, e2, by show mP _ _ t.heap; rw [ht]; exact hP⟩, hS.F ht⟩) hS.2.2 dX7_laysNow_56
      · have hd := m_i_f c102 hd
        refine lv_aload_n hx hb dX7_laysNow_13 rfl (lv_at hl 0 rfl) ?_
        refine x_getA (own := RX7) (ref := RX7) hx hb hts hin10 hown hM.1 hZ hP 25 (by decide) (hts (.fieldLink RX7 77 "CellNotebookModel" "now" "[I") (by decide +kernel)) (fun _ h9 => h9) dX7_laysNow_14 ?_
        refine lv_iload_n hx hb dX7_laysNow_17 rfl (lv_at hl 1 rfl) ?_
        refine lv_aload_n hx hb dX7_laysNow_18 rfl (lv_at hl 0 rfl) ?_
        refine x_getA (own := RX7) (ref := RX7) hx hb hts hin10 hown hM.1 hZ hP 10 (by decide) (hts (.fieldLink RX7 37 "CellNotebookModel" "value" "[I") (by decide +kernel)) (fun _ h9 => h9) dX7_laysNow_19 ?_
        refine lv_iload_n hx hb dX7_laysNow_22 rfl (lv_at hl 1 rfl) ?_
        obtain ⟨hg103, hd⟩ := m_g_e hd
        refine x_ald hx hb hM.1 hZ hP 10 (by decide) hg103 dX7_laysNow_23 ?_
        obtain ⟨hg104, hd⟩ := m_g_e hd
        refine x_ast hx hb hM.1 hZ hP hS 25 (by decide) hg104 dX7_laysNow_24 (fun H locs hP hS => ?_)
        obtain ⟨u105, ew, hd⟩ := m_l_e hd
        have hP : mP G (x_ov Z u105) H := by rw [ew]; exact hP
        refine lv_aload_n hx hb dX7_laysNow_25 rfl (lv_at hl 0 rfl) ?_
        refine lv_dup hx hb dX7_laysNow_26 rfl ?_
        refine x_getI (own := RX7) (ref := RX7) hx hb hts hin10 hown hM.1 hZ hP 26 (by decide) (hts (.fieldLink RX7 152 "CellNotebookModel" "there" "I") (by decide +kernel)) (fun _ h9 => h9) dX7_laysNow_27 ?_
        refine lv_aload_n hx hb dX7_laysNow_30 rfl (lv_at hl 0 rfl) ?_
        refine x_getA (own := RX7) (ref := RX7) hx hb hts hin10 hown hM.1 hZ hP 11 (by decide) (hts (.fieldLink RX7 40 "CellNotebookModel" "stamp" "[I") (by decide +kernel)) (fun _ h9 => h9) dX7_laysNow_31 ?_
        refine lv_iload_n hx hb dX7_laysNow_34 rfl (lv_at hl 1 rfl) ?_
        obtain ⟨hg106, hd⟩ := m_g_e hd
        refine x_ald hx hb hM.1 hZ hP 11 (by decide) hg106 dX7_laysNow_35 ?_
        refine lv_if_le (tgt := 45) hx hb dX7_laysNow_36 (by decide) (fun c107 => ?_) (fun c107 => ?_)
        · have hd := m_i_t c107 hd
          refine lv_iconst (v := 0) hx hb dX7_laysNow_45 (by decide) ?_
          refine W.widen (k := 0) (n := 0) (Nat.le_of_ble_eq_true rfl) (Nat.le_of_ble_eq_true rfl) ?_
          exact J46 u105 x1 0 (u105.1 26) _ _ _ hd hP hS (lv_sub hl [0, 1] rfl)
        · have hd := m_i_f c107 hd
          refine lv_iconst (v := 1) hx hb dX7_laysNow_39 (by decide) ?_
          refine lv_iload_n hx hb dX7_laysNow_40 rfl (lv_at hl 1 rfl) ?_
          refine lv_ishl hx hb dX7_laysNow_41 ?_
          refine lv_goto (tgt := 46) hx hb dX7_laysNow_42 (by decide) ?_
          refine W.widen (k := 0) (n := 0) (Nat.le_of_ble_eq_true rfl) (Nat.le_of_ble_eq_true rfl) ?_
          exact J46 u105 x1 (1 <<< (x1 &&& 31)) (u105.1 26) _ _ _ hd hP hS (lv_sub hl [0, 1] rfl)
  have hl := lv_entry ([.ref (Z.2.1)]) (n := 2) (Nat.le_of_ble_eq_true rfl)
  rw [lg_entry_eq]
  generalize (lg_sl ([.ref (Z.2.1)]) ++ List.replicate (2 - (lg_sl ([.ref (Z.2.1)])).length) Slot.unset).toArray = ls at hl ⊢
  have hl : lv_has ls 2 [(0, .ref (Z.2.1))] := hl
  refine lv_aload_n hx hb dX7_laysNow_0 rfl (lv_at hl 0 rfl) ?_
  refine lv_iconst (v := 0) hx hb dX7_laysNow_1 (by decide) ?_
  refine x_putI (own := RX7) (ref := RX7) hx hb hts hin10 hown hM.1 hZ hP hS 26 (by decide) (hts (.fieldLink RX7 152 "CellNotebookModel" "there" "I") (by decide +kernel)) (fun _ h9 => h9) dX7_laysNow_2 (fun H locs hP hS => ?_)
  obtain ⟨u1, ew, hd⟩ := m_l_e hd
  have hP : mP G (x_ov Z u1) H := by rw [ew]; exact hP
  refine lv_iconst (v := 0) hx hb dX7_laysNow_5 (by decide) ?_
  refine lv_istore_n (lv' := [(1, .int (0)), (0, .ref (Z.2.1))]) hx hb dX7_laysNow_6 rfl hl (by decide) rfl (fun ls hl => ?_)
  refine W.widen (k := 0) (n := 0) (Nat.le_of_ble_eq_true rfl) (Nat.le_of_ble_eq_true rfl) ?_
  exact J7 m_N u1 0 _ _ _ hd hP hS (lv_sub hl [1, 0] rfl)


noncomputable def f_X7_runs_185 (k96 : xS → Int32 → Int32 → Int32 → Option (Int32 × xS)) (u : xS) (x2 : Int32) (x3 : Int32) (x4 : Int32) : Option (Int32 × xS) := k96 u x2 x3 (x4 + 1)
noncomputable def f_X7_runs_96_b (k96 : xS → Int32 → Int32 → Int32 → Option (Int32 × xS)) (u : xS) (x2 : Int32) (x3 : Int32) (x4 : Int32) : Option (Int32 × xS) := if 8 ≤ x4 then (m_g (¬ (x2 < 0 ∨ 16 ≤ x2.toNatClampNeg)) <| m_l (x_sA u 8 (x2.toNatClampNeg) (u.1 13)) fun u323 => m_g (vp_nar .boolean x3 = x3) <| some (x3, u323)) else (m_g (¬ (x4 < 0 ∨ 8 ≤ x4.toNatClampNeg)) <| m_g (¬ (((8 * (u.1 13)) + x4) < 0 ∨ 3208 ≤ ((8 * (u.1 13)) + x4).toNatClampNeg)) <| m_l (x_sA u 20 (((8 * (u.1 13)) + x4).toNatClampNeg) (u.2 11 x4.toNatClampNeg)) fun u327 => m_g (¬ (x4 < 0 ∨ 8 ≤ x4.toNatClampNeg)) <| m_g (¬ (x4 < 0 ∨ 8 ≤ x4.toNatClampNeg)) <| m_l (x_sA u327 12 (x4.toNatClampNeg) ((u327.2 12 x4.toNatClampNeg) + (((u327.1 28) >>> (x4 &&& 31)) &&& 1))) fun u330 => if x3 = (0 : Int32) then (f_X7_runs_185 k96 u330 x2 x3 x4) else (m_b (f_X7_has u330 (u330.1 27) x4) fun r332 u333 => if r332 = (0 : Int32) then (f_X7_runs_185 k96 u333 x2 x3 x4) else (m_g (¬ (x4 < 0 ∨ 8 ≤ x4.toNatClampNeg)) <| m_g (¬ (x4 < 0 ∨ 8 ≤ x4.toNatClampNeg)) <| m_l (x_sA u333 10 (x4.toNatClampNeg) (u333.2 25 x4.toNatClampNeg)) fun u338 => m_g (¬ (x4 < 0 ∨ 8 ≤ x4.toNatClampNeg)) <| m_l (x_sA u338 11 (x4.toNatClampNeg) (u338.1 13)) fun u340 => f_X7_runs_185 k96 u340 x2 x3 x4)))
noncomputable def f_X7_runs_96 (n : Nat) : xS → Int32 → Int32 → Int32 → Option (Int32 × xS) := Nat.rec (motive := fun _ => xS → Int32 → Int32 → Int32 → Option (Int32 × xS)) (fun _ _ _ _ => none) (fun _ k => f_X7_runs_96_b  k) n
noncomputable def f_X7_runs_79 (u : xS) (x2 : Int32) (x3 : Int32) (s0 : Int32) (s1 : Int32) : Option (Int32 × xS) := m_g (¬ (s1 < 0 ∨ 401 ≤ s1.toNatClampNeg)) <| m_l (x_sA u 18 (s1.toNatClampNeg) (vp_nar .boolean s0)) fun u218 => m_g (¬ ((u218.1 13) < 0 ∨ 401 ≤ (u218.1 13).toNatClampNeg)) <| m_l (x_sA u218 17 ((u218.1 13).toNatClampNeg) (u218.1 29)) fun u220 => f_X7_runs_96 m_N u220 x2 x3 0
noncomputable def f_X7_runs_78 (u : xS) (x2 : Int32) (x3 : Int32) (s0 : Int32) : Option (Int32 × xS) := f_X7_runs_79 u x2 x3 0 s0
noncomputable def f_X7_runs (u : xS) (p0 : Int32) (p1 : Int32) : Option (Int32 × xS) := m_b (f_X7_laysNow u) fun r1 u2 => m_b (f_X7_doesAll u2 p1) fun r4 u5 => m_l (x_sI u5 13 ((u5.1 13) + 1)) fun u7 => m_g (¬ ((u7.1 13) < 0 ∨ 401 ≤ (u7.1 13).toNatClampNeg)) <| m_l (x_sA u7 14 ((u7.1 13).toNatClampNeg) p1) fun u9 => m_g (¬ ((u9.1 13) < 0 ∨ 401 ≤ (u9.1 13).toNatClampNeg)) <| m_l (x_sA u9 15 ((u9.1 13).toNatClampNeg) p0) fun u11 => m_g (¬ ((u11.1 13) < 0 ∨ 401 ≤ (u11.1 13).toNatClampNeg)) <| m_l (x_sA u11 16 ((u11.1 13).toNatClampNeg) (u11.1 28)) fun u13 => if r4 = (0 : Int32) then (f_X7_runs_78 u13 p1 r4 (u13.1 13)) else (m_g (¬ (p1 < 0 ∨ 16 ≤ p1.toNatClampNeg)) <| if (u13.2 2 p1.toNatClampNeg) ≤ (0 : Int32) then (f_X7_runs_78 u13 p1 r4 (u13.1 13)) else (f_X7_runs_79 u13 p1 r4 1 (u13.1 13)))
set_option maxHeartbeats 1000000 in
set_option maxRecDepth 100000 in
theorem c_X7_runs (l : Launch) (G : m_G) (Z : xB) (hZ : x_ok Z) (u u' : xS) (p0 : Int32) (p1 : Int32) (r : Int32) (hd : f_X7_runs u p0 p1 = some (r, u')) : Met l yX7_runs wsX7_runs ({ frames := 5, cells := 0, slots := 0, locals := 114 } : Room) (m_Pc G (x_ov Z u) [.ref (Z.2.1), .int (p0), .int (p1)]) (m_Qi G r (x_ov Z u')) 0 0 (fun q => G.1 ≤ q) := by
  refine Met.ofW (cc := cX7_runs) (maxL := 5) (ret := (some .boolean)) (by decide +kernel) rfl ?_
  intro p e s m args below meth c s₁ B hml hv
  obtain ⟨rfl, hM, hP⟩ := hv
  have hx := B.exec
  have hb := B.bytes
  have hr := B.returns
  have hts := atoms_spec (ws := wsX7_runs) B.pre
  have hown : s.vm.findClass RX7 = some m.cls := findClass_of_methodNamed B.named
  have hlocks := B.notSynchronized
  have hin10 : ∀ w ∈ u_ws RX7 TX7 32, w ∈ wsX7_runs := by decide +kernel
  have hS : va_S (fun q => G.1 ≤ q) s.heap s.heap [] := va_S.rf
  have J96 : ∀ (n96 : Nat) (u : xS) (x2 : Int32) (x3 : Int32) (x4 : Int32) (H : Heap) (locs : List Loc) (ls : Array Slot), f_X7_runs_96 n96 u x2 x3 x4 = some (r, u') → mP G (x_ov Z u) H → va_S (fun q => G.1 ≤ q) s.heap H locs → lv_has ls 5 [(0, .ref (Z.2.1)), (2, .int (x2)), (3, .int (x3)), (4, .int (x4))] → W p l e ({ frames := 5, cells := 0, slots := 0, locals := 114 } : Room) s m ([.ref (Z.2.1), .int (p0), .int (p1)] : List Value).toArray below meth c H locs 0 0 (MQ below (m_Qi G r (x_ov Z u')) ([.ref (Z.2.1), .int (p0), .int (p1)] : List Value).toArray s 0 0 (fun q => G.1 ≤ q)) (F0 m 96 ls []) := by
    intro n96
    induction n96 with
    | zero => intro u x2 x3 x4 H locs ls hd; exact absurd (show (none : Option (Int32 × xS)) = some _ from hd) (fun h => nomatch h)
    | succ n96 ih96 =>
      have J185 : ∀ (u : xS) (x2 : Int32) (x3 : Int32) (x4 : Int32) (H : Heap) (locs : List Loc) (ls : Array Slot), f_X7_runs_185 (f_X7_runs_96 n96) u x2 x3 x4 = some (r, u') → mP G (x_ov Z u) H → va_S (fun q => G.1 ≤ q) s.heap H locs → lv_has ls 5 [(0, .ref (Z.2.1)), (2, .int (x2)), (3, .int (x3)), (4, .int (x4))] → W p l e ({ frames := 5, cells := 0, slots := 0, locals := 114 } : Room) s m ([.ref (Z.2.1), .int (p0), .int (p1)] : List Value).toArray below meth c H locs 0 0 (MQ below (m_Qi G r (x_ov Z u')) ([.ref (Z.2.1), .int (p0), .int (p1)] : List Value).toArray s 0 0 (fun q => G.1 ≤ q)) (F0 m 185 ls []) := by
        intro u x2 x3 x4 H locs ls hd hP hS hl
        refine lv_iinc (v := x4 + 1) (lv' := [(4, .int (x4 + 1)), (0, .ref (Z.2.1)), (2, .int (x2)), (3, .int (x3))]) hx hb dX7_runs_185 hl (k := 3) rfl rfl (by decide) rfl (fun ls hl => ?_)
        refine lv_goto (tgt := 96) hx hb dX7_runs_188 (by decide) ?_
        refine W.widen (k := 0) (n := 0) (Nat.le_of_ble_eq_true rfl) (Nat.le_of_ble_eq_true rfl) ?_
        exact ih96 u x2 x3 (x4 + 1) _ _ _ hd hP hS (lv_sub hl [1, 2, 3, 0] rfl)
      intro u x2 x3 x4 H locs ls hd hP hS hl
      have hd : f_X7_runs_96_b (f_X7_runs_96 n96) u x2 x3 x4 = some (r, u') := hd
      refine lv_iload hx hb dX7_runs_96 (lv_at hl 3 rfl) ?_
      refine lv_bipush (v := 8) hx hb dX7_runs_98 (by decide) ?_
      refine lv_icmp_ge (tgt := 191) hx hb dX7_runs_100 (by decide) (fun c321 => ?_) (fun c321 => ?_)
      · have hd := m_i_t c321 hd
        refine lv_aload_n hx hb dX7_runs_191 rfl (lv_at hl 0 rfl) ?_
        refine x_getA (own := RX7) (ref := RX7) hx hb hts hin10 hown hM.1 hZ hP 8 (by decide) (hts (.fieldLink RX7 31 "CellNotebookModel" "last" "[I") (by decide +kernel)) (fun _ h9 => h9) dX7_runs_192 ?_
        refine lv_iload_n hx hb dX7_runs_195 rfl (lv_at hl 1 rfl) ?_
        refine lv_aload_n hx hb dX7_runs_196 rfl (lv_at hl 0 rfl) ?_
        refine x_getI (own := RX7) (ref := RX7) hx hb hts hin10 hown hM.1 hZ hP 13 (by decide) (hts (.fieldLink RX7 115 "CellNotebookModel" "runs" "I") (by decide +kernel)) (fun _ h9 => h9) dX7_runs_197 ?_
        obtain ⟨hg322, hd⟩ := m_g_e hd
        refine x_ast hx hb hM.1 hZ hP hS 8 (by decide) hg322 dX7_runs_200 (fun H locs hP hS => ?_)
        obtain ⟨u323, ew, hd⟩ := m_l_e hd
        have hP : mP G (x_ov Z u323) H := by rw [ew]; exact hP
        refine lv_iload_n hx hb dX7_runs_201 rfl (lv_at hl 2 rfl) ?_
        obtain ⟨hn324, hd⟩ := m_g_e hd
        obtain ⟨e1, e2⟩ := m_s_e hd
        have e2 := congrArg (x_ov Z) e2
        refine W.widen (k := 0) (n := 0) (Nat.le_of_ble_eq_true rfl) (Nat.le_of_ble_eq_true rfl) ?_
        exact W.zret hx hb hr (m_narZ hn324).1 (fun t ht hW => ⟨⟨_, (x_ov Z u323), rfl, ⟨e1, e2⟩, by show mP _ _ t.heap; rw [ht]; exact hP⟩, hS.F ht⟩) hS.2.2 dX7_runs_202
      · have hd := m_i_f c321 hd
        refine lv_aload_n hx hb dX7_runs_103 rfl (lv_at hl 0 rfl) ?_
        refine x_getA (own := RX7) (ref := RX7) hx hb hts hin10 hown hM.1 hZ hP 20 (by decide) (hts (.fieldLink RX7 65 "CellNotebookModel" "stamps" "[I") (by decide +kernel)) (fun _ h9 => h9) dX7_runs_104 ?_
        refine lv_bipush (v := 8) hx hb dX7_runs_107 (by decide) ?_
        refine lv_aload_n hx hb dX7_runs_109 rfl (lv_at hl 0 rfl) ?_
        refine x_getI (own := RX7) (ref := RX7) hx hb hts hin10 hown hM.1 hZ hP 13 (by decide) (hts (.fieldLink RX7 115 "CellNotebookModel" "runs" "I") (by decide +kernel)) (fun _ h9 => h9) dX7_runs_110 ?_
        refine lv_imul hx hb dX7_runs_113 ?_
        refine lv_iload hx hb dX7_runs_114 (lv_at hl 3 rfl) ?_
        refine lv_iadd hx hb dX7_runs_116 ?_
        refine lv_aload_n hx hb dX7_runs_117 rfl (lv_at hl 0 rfl) ?_
        refine x_getA (own := RX7) (ref := RX7) hx hb hts hin10 hown hM.1 hZ hP 11 (by decide) (hts (.fieldLink RX7 40 "CellNotebookModel" "stamp" "[I") (by decide +kernel)) (fun _ h9 => h9) dX7_runs_118 ?_
        refine lv_iload hx hb dX7_runs_121 (lv_at hl 3 rfl) ?_
        obtain ⟨hg325, hd⟩ := m_g_e hd
        refine x_ald hx hb hM.1 hZ hP 11 (by decide) hg325 dX7_runs_123 ?_
        obtain ⟨hg326, hd⟩ := m_g_e hd
        refine x_ast hx hb hM.1 hZ hP hS 20 (by decide) hg326 dX7_runs_124 (fun H locs hP hS => ?_)
        obtain ⟨u327, ew, hd⟩ := m_l_e hd
        have hP : mP G (x_ov Z u327) H := by rw [ew]; exact hP
        refine lv_aload_n hx hb dX7_runs_125 rfl (lv_at hl 0 rfl) ?_
        refine x_getA (own := RX7) (ref := RX7) hx hb hts hin10 hown hM.1 hZ hP 12 (by decide) (hts (.fieldLink RX7 43 "CellNotebookModel" "times" "[I") (by decide +kernel)) (fun _ h9 => h9) dX7_runs_126 ?_
        refine lv_iload hx hb dX7_runs_129 (lv_at hl 3 rfl) ?_
        refine lv_dup2_11 hx hb dX7_runs_131 rfl rfl ?_
        obtain ⟨hg328, hd⟩ := m_g_e hd
        refine x_ald hx hb hM.1 hZ hP 12 (by decide) hg328 dX7_runs_132 ?_
        refine lv_aload_n hx hb dX7_runs_133 rfl (lv_at hl 0 rfl) ?_
        refine x_getI (own := RX7) (ref := RX7) hx hb hts hin10 hown hM.1 hZ hP 28 (by decide) (hts (.fieldLink RX7 142 "CellNotebookModel" "reads" "I") (by decide +kernel)) (fun _ h9 => h9) dX7_runs_134 ?_
        refine lv_iload hx hb dX7_runs_137 (lv_at hl 3 rfl) ?_
        refine lv_ishr hx hb dX7_runs_139 ?_
        refine lv_iconst (v := 1) hx hb dX7_runs_140 (by decide) ?_
        refine lv_iand hx hb dX7_runs_141 ?_
        refine lv_iadd hx hb dX7_runs_142 ?_
        obtain ⟨hg329, hd⟩ := m_g_e hd
        refine x_ast hx hb hM.1 hZ hP hS 12 (by decide) hg329 dX7_runs_143 (fun H locs hP hS => ?_)
        obtain ⟨u330, ew, hd⟩ := m_l_e hd
        have hP : mP G (x_ov Z u330) H := by rw [ew]; exact hP
        refine lv_iload_n hx hb dX7_runs_144 rfl (lv_at hl 2 rfl) ?_
        refine lv_if_eq (tgt := 185) hx hb dX7_runs_145 (by decide) (fun c331 => ?_) (fun c331 => ?_)
        · have hd := m_i_t c331 hd
          refine W.widen (k := 0) (n := 0) (Nat.le_of_ble_eq_true rfl) (Nat.le_of_ble_eq_true rfl) ?_
          exact J185 u330 x2 x3 x4 _ _ _ hd hP hS (lv_sub hl [0, 1, 2, 3] rfl)
        · have hd := m_i_f c331 hd
          refine lv_aload_n hx hb dX7_runs_148 rfl (lv_at hl 0 rfl) ?_
          refine x_getI (own := RX7) (ref := RX7) hx hb hts hin10 hown hM.1 hZ hP 27 (by decide) (hts (.fieldLink RX7 145 "CellNotebookModel" "sets" "I") (by decide +kernel)) (fun _ h9 => h9) dX7_runs_149 ?_
          refine lv_iload hx hb dX7_runs_152 (lv_at hl 3 rfl) ?_
          obtain ⟨r332, u333, hc334, hd⟩ := m_b_e hd
          refine m_calli (k := 0) (n := 0) (va_runS (As := [.int (u330.1 27), .int (x4)]) (rest := []) ⟨hx, hb, hml, hown, hts⟩ (c_X7_has l G Z hZ u330 u333 (u330.1 27) x4 r332 hc334) (va_cwS 2 hts gX7_runs_X7_has rfl rfl rfl (by decide +kernel) ⟨(Nat.le_of_ble_eq_true rfl), (Nat.le_of_ble_eq_true rfl)⟩) (m_preS hM hP hS) rfl rfl hl.1 rfl (lv_room (Nat.le_of_ble_eq_true rfl)) dX7_runs_154 ⟨(Nat.le_of_ble_eq_true rfl), (Nat.le_of_ble_eq_true rfl)⟩) hS ⟨(Nat.le_of_ble_eq_true rfl), (Nat.le_of_ble_eq_true rfl)⟩ (fun H locs hP hS => ?_)
          refine lv_if_eq (tgt := 185) hx hb dX7_runs_157 (by decide) (fun c335 => ?_) (fun c335 => ?_)
          · have hd := m_i_t c335 hd
            refine W.widen (k := 0) (n := 0) (Nat.le_of_ble_eq_true rfl) (Nat.le_of_ble_eq_true rfl) ?_
            exact J185 u333 x2 x3 x4 _ _ _ hd hP hS (lv_sub hl [0, 1, 2, 3] rfl)
          · have hd := m_i_f c335 hd
            refine lv_aload_n hx hb dX7_runs_160 rfl (lv_at hl 0 rfl) ?_
            refine x_getA (own := RX7) (ref := RX7) hx hb hts hin10 hown hM.1 hZ hP 10 (by decide) (hts (.fieldLink RX7 37 "CellNotebookModel" "value" "[I") (by decide +kernel)) (fun _ h9 => h9) dX7_runs_161 ?_
            refine lv_iload hx hb dX7_runs_164 (lv_at hl 3 rfl) ?_
            refine lv_aload_n hx hb dX7_runs_166 rfl (lv_at hl 0 rfl) ?_
            refine x_getA (own := RX7) (ref := RX7) hx hb hts hin10 hown hM.1 hZ hP 25 (by decide) (hts (.fieldLink RX7 77 "CellNotebookModel" "now" "[I") (by decide +kernel)) (fun _ h9 => h9) dX7_runs_167 ?_
            refine lv_iload hx hb dX7_runs_170 (lv_at hl 3 rfl) ?_
            obtain ⟨hg336, hd⟩ := m_g_e hd
            refine x_ald hx hb hM.1 hZ hP 25 (by decide) hg336 dX7_runs_172 ?_
            obtain ⟨hg337, hd⟩ := m_g_e hd
            refine x_ast hx hb hM.1 hZ hP hS 10 (by decide) hg337 dX7_runs_173 (fun H locs hP hS => ?_)
            obtain ⟨u338, ew, hd⟩ := m_l_e hd
            have hP : mP G (x_ov Z u338) H := by rw [ew]; exact hP
            refine lv_aload_n hx hb dX7_runs_174 rfl (lv_at hl 0 rfl) ?_
            refine x_getA (own := RX7) (ref := RX7) hx hb hts hin10 hown hM.1 hZ hP 11 (by decide) (hts (.fieldLink RX7 40 "CellNotebookModel" "stamp" "[I") (by decide +kernel)) (fun _ h9 => h9) dX7_runs_175 ?_
            refine lv_iload hx hb dX7_runs_178 (lv_at hl 3 rfl) ?_
            refine lv_aload_n hx hb dX7_runs_180 rfl (lv_at hl 0 rfl) ?_
            refine x_getI (own := RX7) (ref := RX7) hx hb hts hin10 hown hM.1 hZ hP 13 (by decide) (hts (.fieldLink RX7 115 "CellNotebookModel" "runs" "I") (by decide +kernel)) (fun _ h9 => h9) dX7_runs_181 ?_
            obtain ⟨hg339, hd⟩ := m_g_e hd
            refine x_ast hx hb hM.1 hZ hP hS 11 (by decide) hg339 dX7_runs_184 (fun H locs hP hS => ?_)
            obtain ⟨u340, ew, hd⟩ := m_l_e hd
            have hP : mP G (x_ov Z u340) H := by rw [ew]; exact hP
            refine W.widen (k := 0) (n := 0) (Nat.le_of_ble_eq_true rfl) (Nat.le_of_ble_eq_true rfl) ?_
            exact J185 u340 x2 x3 x4 _ _ _ hd hP hS (lv_sub hl [0, 1, 2, 3] rfl)
  have J79 : ∀ (u : xS) (x2 : Int32) (x3 : Int32) (s0 : Int32) (s1 : Int32) (H : Heap) (locs : List Loc) (ls : Array Slot), f_X7_runs_79 u x2 x3 s0 s1 = some (r, u') → mP G (x_ov Z u) H → va_S (fun q => G.1 ≤ q) s.heap H locs → lv_has ls 5 [(0, .ref (Z.2.1)), (2, .int (x2)), (3, .int (x3))] → W p l e ({ frames := 5, cells := 0, slots := 0, locals := 114 } : Room) s m ([.ref (Z.2.1), .int (p0), .int (p1)] : List Value).toArray below meth c H locs 0 0 (MQ below (m_Qi G r (x_ov Z u')) ([.ref (Z.2.1), .int (p0), .int (p1)] : List Value).toArray s 0 0 (fun q => G.1 ≤ q)) (F0 m 79 ls [.int (s0), .int (s1), .ref (Z.2.2.1 18)]) := by
    intro u x2 x3 s0 s1 H locs ls hd hP hS hl
    obtain ⟨hg217, hd⟩ := m_g_e hd
    refine x_zast hx hb hM.1 hZ hP hS 18 (by decide) hg217 dX7_runs_79 (fun H locs hP hS => ?_)
    obtain ⟨u218, ew, hd⟩ := m_l_e hd
    have hP : mP G (x_ov Z u218) H := by rw [ew]; exact hP
    refine lv_aload_n hx hb dX7_runs_80 rfl (lv_at hl 0 rfl) ?_
    refine x_getA (own := RX7) (ref := RX7) hx hb hts hin10 hown hM.1 hZ hP 17 (by decide) (hts (.fieldLink RX7 55 "CellNotebookModel" "result" "[I") (by decide +kernel)) (fun _ h9 => h9) dX7_runs_81 ?_
    refine lv_aload_n hx hb dX7_runs_84 rfl (lv_at hl 0 rfl) ?_
    refine x_getI (own := RX7) (ref := RX7) hx hb hts hin10 hown hM.1 hZ hP 13 (by decide) (hts (.fieldLink RX7 115 "CellNotebookModel" "runs" "I") (by decide +kernel)) (fun _ h9 => h9) dX7_runs_85 ?_
    refine lv_aload_n hx hb dX7_runs_88 rfl (lv_at hl 0 rfl) ?_
    refine x_getI (own := RX7) (ref := RX7) hx hb hts hin10 hown hM.1 hZ hP 29 (by decide) (hts (.fieldLink RX7 166 "CellNotebookModel" "came" "I") (by decide +kernel)) (fun _ h9 => h9) dX7_runs_89 ?_
    obtain ⟨hg219, hd⟩ := m_g_e hd
    refine x_ast hx hb hM.1 hZ hP hS 17 (by decide) hg219 dX7_runs_92 (fun H locs hP hS => ?_)
    obtain ⟨u220, ew, hd⟩ := m_l_e hd
    have hP : mP G (x_ov Z u220) H := by rw [ew]; exact hP
    refine lv_iconst (v := 0) hx hb dX7_runs_93 (by decide) ?_
    refine lv_istore (lv' := [(4, .int (0)), (0, .ref (Z.2.1)), (2, .int (x2)), (3, .int (x3))]) hx hb dX7_runs_94 hl (by decide) rfl (fun ls hl => ?_)
    refine W.widen (k := 0) (n := 0) (Nat.le_of_ble_eq_true rfl) (Nat.le_of_ble_eq_true rfl) ?_
    exact J96 m_N u220 x2 x3 0 _ _ _ hd hP hS (lv_sub hl [1, 2, 3, 0] rfl)
  have J78 : ∀ (u : xS) (x2 : Int32) (x3 : Int32) (s0 : Int32) (H : Heap) (locs : List Loc) (ls : Array Slot), f_X7_runs_78 u x2 x3 s0 = some (r, u') → mP G (x_ov Z u) H → va_S (fun q => G.1 ≤ q) s.heap H locs → lv_has ls 5 [(0, .ref (Z.2.1)), (2, .int (x2)), (3, .int (x3))] → W p l e ({ frames := 5, cells := 0, slots := 0, locals := 114 } : Room) s m ([.ref (Z.2.1), .int (p0), .int (p1)] : List Value).toArray below meth c H locs 0 0 (MQ below (m_Qi G r (x_ov Z u')) ([.ref (Z.2.1), .int (p0), .int (p1)] : List Value).toArray s 0 0 (fun q => G.1 ≤ q)) (F0 m 78 ls [.int (s0), .ref (Z.2.2.1 18)]) := by
    intro u x2 x3 s0 H locs ls hd hP hS hl
    refine lv_iconst (v := 0) hx hb dX7_runs_78 (by decide) ?_
    refine W.widen (k := 0) (n := 0) (Nat.le_of_ble_eq_true rfl) (Nat.le_of_ble_eq_true rfl) ?_
    exact J79 u x2 x3 0 s0 _ _ _ hd hP hS (lv_sub hl [0, 1, 2] rfl)
  have hl := lv_entry ([.ref (Z.2.1), .int (p0), .int (p1)]) (n := 5) (Nat.le_of_ble_eq_true rfl)
  rw [lg_entry_eq]
  generalize (lg_sl ([.ref (Z.2.1), .int (p0), .int (p1)]) ++ List.replicate (5 - (lg_sl ([.ref (Z.2.1), .int (p0), .int (p1)])).length) Slot.unset).toArray = ls at hl ⊢
  have hl : lv_has ls 5 [(0, .ref (Z.2.1)), (1, .int (p0)), (2, .int (p1))] := hl
  refine lv_aload_n hx hb dX7_runs_0 rfl (lv_at hl 0 rfl) ?_
  obtain ⟨r1, u2, hc3, hd⟩ := m_b_e hd
  refine m_callv (k := 0) (n := 0) (va_runV (As := []) (rest := []) ⟨hx, hb, hml, hown, hts⟩ (c_X7_laysNow l G Z hZ u u2  r1 hc3) (cwV 0 hts gX7_runs_X7_laysNow rfl rfl rfl (by decide +kernel) ⟨(Nat.le_of_ble_eq_true rfl), (Nat.le_of_ble_eq_true rfl)⟩) (m_preV (C := RX7) (T := TX7) (N := 32) hM hP hS rfl (by decide) hZ.1) rfl rfl hl.1 rfl (lv_room (Nat.le_of_ble_eq_true rfl)) dX7_runs_1 ⟨(Nat.le_of_ble_eq_true rfl), (Nat.le_of_ble_eq_true rfl)⟩) hS ⟨(Nat.le_of_ble_eq_true rfl), (Nat.le_of_ble_eq_true rfl)⟩ (fun H locs hP hS => ?_)
  refine lv_aload_n hx hb dX7_runs_4 rfl (lv_at hl 0 rfl) ?_
  refine lv_iload_n hx hb dX7_runs_5 rfl (lv_at hl 2 rfl) ?_
  obtain ⟨r4, u5, hc6, hd⟩ := m_b_e hd
  refine m_calli (k := 0) (n := 0) (va_runV (As := [.int (p1)]) (rest := []) ⟨hx, hb, hml, hown, hts⟩ (c_X7_doesAll l G Z hZ u2 u5 p1 r4 hc6) (cwV 1 hts gX7_runs_X7_doesAll rfl rfl rfl (by decide +kernel) ⟨(Nat.le_of_ble_eq_true rfl), (Nat.le_of_ble_eq_true rfl)⟩) (m_preV (C := RX7) (T := TX7) (N := 32) hM hP hS rfl (by decide) hZ.1) rfl rfl hl.1 rfl (lv_room (Nat.le_of_ble_eq_true rfl)) dX7_runs_6 ⟨(Nat.le_of_ble_eq_true rfl), (Nat.le_of_ble_eq_true rfl)⟩) hS ⟨(Nat.le_of_ble_eq_true rfl), (Nat.le_of_ble_eq_true rfl)⟩ (fun H locs hP hS => ?_)
  refine lv_istore_n (lv' := [(3, .int (r4)), (0, .ref (Z.2.1)), (1, .int (p0)), (2, .int (p1))]) hx hb dX7_runs_9 rfl hl (by decide) rfl (fun ls hl => ?_)
  refine lv_aload_n hx hb dX7_runs_10 rfl (lv_at hl 1 rfl) ?_
  refine lv_dup hx hb dX7_runs_11 rfl ?_
  refine x_getI (own := RX7) (ref := RX7) hx hb hts hin10 hown hM.1 hZ hP 13 (by decide) (hts (.fieldLink RX7 115 "CellNotebookModel" "runs" "I") (by decide +kernel)) (fun _ h9 => h9) dX7_runs_12 ?_
  refine lv_iconst (v := 1) hx hb dX7_runs_15 (by decide) ?_
  refine lv_iadd hx hb dX7_runs_16 ?_
  refine x_putI (own := RX7) (ref := RX7) hx hb hts hin10 hown hM.1 hZ hP hS 13 (by decide) (hts (.fieldLink RX7 115 "CellNotebookModel" "runs" "I") (by decide +kernel)) (fun _ h9 => h9) dX7_runs_17 (fun H locs hP hS => ?_)
  obtain ⟨u7, ew, hd⟩ := m_l_e hd
  have hP : mP G (x_ov Z u7) H := by rw [ew]; exact hP
  refine lv_aload_n hx hb dX7_runs_20 rfl (lv_at hl 1 rfl) ?_
  refine x_getA (own := RX7) (ref := RX7) hx hb hts hin10 hown hM.1 hZ hP 14 (by decide) (hts (.fieldLink RX7 46 "CellNotebookModel" "cell" "[I") (by decide +kernel)) (fun _ h9 => h9) dX7_runs_21 ?_
  refine lv_aload_n hx hb dX7_runs_24 rfl (lv_at hl 1 rfl) ?_
  refine x_getI (own := RX7) (ref := RX7) hx hb hts hin10 hown hM.1 hZ hP 13 (by decide) (hts (.fieldLink RX7 115 "CellNotebookModel" "runs" "I") (by decide +kernel)) (fun _ h9 => h9) dX7_runs_25 ?_
  refine lv_iload_n hx hb dX7_runs_28 rfl (lv_at hl 3 rfl) ?_
  obtain ⟨hg8, hd⟩ := m_g_e hd
  refine x_ast hx hb hM.1 hZ hP hS 14 (by decide) hg8 dX7_runs_29 (fun H locs hP hS => ?_)
  obtain ⟨u9, ew, hd⟩ := m_l_e hd
  have hP : mP G (x_ov Z u9) H := by rw [ew]; exact hP
  refine lv_aload_n hx hb dX7_runs_30 rfl (lv_at hl 1 rfl) ?_
  refine x_getA (own := RX7) (ref := RX7) hx hb hts hin10 hown hM.1 hZ hP 15 (by decide) (hts (.fieldLink RX7 49 "CellNotebookModel" "user" "[I") (by decide +kernel)) (fun _ h9 => h9) dX7_runs_31 ?_
  refine lv_aload_n hx hb dX7_runs_34 rfl (lv_at hl 1 rfl) ?_
  refine x_getI (own := RX7) (ref := RX7) hx hb hts hin10 hown hM.1 hZ hP 13 (by decide) (hts (.fieldLink RX7 115 "CellNotebookModel" "runs" "I") (by decide +kernel)) (fun _ h9 => h9) dX7_runs_35 ?_
  refine lv_iload_n hx hb dX7_runs_38 rfl (lv_at hl 2 rfl) ?_
  obtain ⟨hg10, hd⟩ := m_g_e hd
  refine x_ast hx hb hM.1 hZ hP hS 15 (by decide) hg10 dX7_runs_39 (fun H locs hP hS => ?_)
  obtain ⟨u11, ew, hd⟩ := m_l_e hd
  have hP : mP G (x_ov Z u11) H := by rw [ew]; exact hP
  refine lv_aload_n hx hb dX7_runs_40 rfl (lv_at hl 1 rfl) ?_
  refine x_getA (own := RX7) (ref := RX7) hx hb hts hin10 hown hM.1 hZ hP 16 (by decide) (hts (.fieldLink RX7 52 "CellNotebookModel" "seen" "[I") (by decide +kernel)) (fun _ h9 => h9) dX7_runs_41 ?_
  refine lv_aload_n hx hb dX7_runs_44 rfl (lv_at hl 1 rfl) ?_
  refine x_getI (own := RX7) (ref := RX7) hx hb hts hin10 hown hM.1 hZ hP 13 (by decide) (hts (.fieldLink RX7 115 "CellNotebookModel" "runs" "I") (by decide +kernel)) (fun _ h9 => h9) dX7_runs_45 ?_
  refine lv_aload_n hx hb dX7_runs_48 rfl (lv_at hl 1 rfl) ?_
  refine x_getI (own := RX7) (ref := RX7) hx hb hts hin10 hown hM.1 hZ hP 28 (by decide) (hts (.fieldLink RX7 142 "CellNotebookModel" "reads" "I") (by decide +kernel)) (fun _ h9 => h9) dX7_runs_49 ?_
  obtain ⟨hg12, hd⟩ := m_g_e hd
  refine x_ast hx hb hM.1 hZ hP hS 16 (by decide) hg12 dX7_runs_52 (fun H locs hP hS => ?_)
  obtain ⟨u13, ew, hd⟩ := m_l_e hd
  have hP : mP G (x_ov Z u13) H := by rw [ew]; exact hP
  refine lv_aload_n hx hb dX7_runs_53 rfl (lv_at hl 1 rfl) ?_
  refine x_getA (own := RX7) (ref := RX7) hx hb hts hin10 hown hM.1 hZ hP 18 (by decide) (hts (.fieldLink RX7 58 "CellNotebookModel" "results" "[Z") (by decide +kernel)) (fun _ h9 => h9) dX7_runs_54 ?_
  refine lv_aload_n hx hb dX7_runs_57 rfl (lv_at hl 1 rfl) ?_
  refine x_getI (own := RX7) (ref := RX7) hx hb hts hin10 hown hM.1 hZ hP 13 (by decide) (hts (.fieldLink RX7 115 "CellNotebookModel" "runs" "I") (by decide +kernel)) (fun _ h9 => h9) dX7_runs_58 ?_
  refine lv_iload_n hx hb dX7_runs_61 rfl (lv_at hl 0 rfl) ?_
  refine lv_if_eq (tgt := 78) hx hb dX7_runs_62 (by decide) (fun c14 => ?_) (fun c14 => ?_)
  · have hd := m_i_t c14 hd
    refine W.widen (k := 0) (n := 0) (Nat.le_of_ble_eq_true rfl) (Nat.le_of_ble_eq_true rfl) ?_
    exact J78 u13 p1 r4 (u13.1 13) _ _ _ hd hP hS (lv_sub hl [1, 3, 0] rfl)
  · have hd := m_i_f c14 hd
    refine lv_aload_n hx hb dX7_runs_65 rfl (lv_at hl 1 rfl) ?_
    refine x_getA (own := RX7) (ref := RX7) hx hb hts hin10 hown hM.1 hZ hP 2 (by decide) (hts (.fieldLink RX7 13 "CellNotebookModel" "many" "[I") (by decide +kernel)) (fun _ h9 => h9) dX7_runs_66 ?_
    refine lv_iload_n hx hb dX7_runs_69 rfl (lv_at hl 3 rfl) ?_
    obtain ⟨hg15, hd⟩ := m_g_e hd
    refine x_ald hx hb hM.1 hZ hP 2 (by decide) hg15 dX7_runs_70 ?_
    refine lv_if_le (tgt := 78) hx hb dX7_runs_71 (by decide) (fun c16 => ?_) (fun c16 => ?_)
    · have hd := m_i_t c16 hd
      refine W.widen (k := 0) (n := 0) (Nat.le_of_ble_eq_true rfl) (Nat.le_of_ble_eq_true rfl) ?_
      exact J78 u13 p1 r4 (u13.1 13) _ _ _ hd hP hS (lv_sub hl [1, 3, 0] rfl)
    · have hd := m_i_f c16 hd
      refine lv_iconst (v := 1) hx hb dX7_runs_74 (by decide) ?_
      refine lv_goto (tgt := 79) hx hb dX7_runs_75 (by decide) ?_
      refine W.widen (k := 0) (n := 0) (Nat.le_of_ble_eq_true rfl) (Nat.le_of_ble_eq_true rfl) ?_
      exact J79 u13 p1 r4 1 (u13.1 13) _ _ _ hd hP hS (lv_sub hl [1, 3, 0] rfl)


noncomputable def f_X7_run_73 (u : xS) (s0 : Int32) : Option (Int32 × xS) := m_g (vp_nar .boolean s0 = s0) <| some (s0, u)
noncomputable def f_X7_run_72 (u : xS)  : Option (Int32 × xS) := f_X7_run_73 u 0
noncomputable def f_X7_run_52 (u : xS) (x1 : Int32) (x2 : Int32) (s0 : Int32) (s1 : Int32) : Option (Int32 × xS) := m_b (f_X7_goes u s1 s0 1) fun r415 u416 => if r415 = (0 : Int32) then (f_X7_run_72 u416) else (m_b (f_X7_runs u416 x1 x2) fun r419 u420 => if r419 = (0 : Int32) then (f_X7_run_72 u420) else (f_X7_run_73 u420 1))
noncomputable def f_X7_run_51 (u : xS) (x1 : Int32) (x2 : Int32) (s0 : Int32) : Option (Int32 × xS) := f_X7_run_52 u x1 x2 0 s0
noncomputable def f_X7_run_20 (u : xS) (x1 : Int32) (x2 : Int32) (s0 : Int32) : Option (Int32 × xS) := if s0 = (0 : Int32) then (f_X7_run_51 u x1 x2 s0) else (m_b (f_X7_rightOf u x1 x2) fun r210 u211 => if r210 < 2 then (f_X7_run_51 u211 x1 x2 s0) else (if 400 ≤ (u211.1 13) then (f_X7_run_51 u211 x1 x2 s0) else (f_X7_run_52 u211 x1 x2 1 s0)))
noncomputable def f_X7_run_19 (u : xS) (x1 : Int32) (x2 : Int32) : Option (Int32 × xS) := f_X7_run_20 u x1 x2 0
noncomputable def f_X7_run (u : xS) (p0 : Int32) (p1 : Int32) : Option (Int32 × xS) := m_b (f_X7_isUser u p0) fun r1 u2 => if r1 = (0 : Int32) then (f_X7_run_19 u2 p0 p1) else (m_b (f_X7_isCell u2 p1) fun r5 u6 => if r5 = (0 : Int32) then (f_X7_run_19 u6 p0 p1) else (f_X7_run_20 u6 p0 p1 1))
set_option maxHeartbeats 1000000 in
set_option maxRecDepth 100000 in
theorem c_X7_run (l : Launch) (G : m_G) (Z : xB) (hZ : x_ok Z) (u u' : xS) (p0 : Int32) (p1 : Int32) (r : Int32) (hd : f_X7_run u p0 p1 = some (r, u')) : Met l yX7_run wsX7_run ({ frames := 6, cells := 0, slots := 0, locals := 138 } : Room) (m_Pc G (x_ov Z u) [.ref (Z.2.1), .int (p0), .int (p1)]) (m_Qi G r (x_ov Z u')) 0 0 (fun q => G.1 ≤ q) := by
  refine Met.ofW (cc := cX7_run) (maxL := 4) (ret := (some .boolean)) (by decide +kernel) rfl ?_
  intro p e s m args below meth c s₁ B hml hv
  obtain ⟨rfl, hM, hP⟩ := hv
  have hx := B.exec
  have hb := B.bytes
  have hr := B.returns
  have hts := atoms_spec (ws := wsX7_run) B.pre
  have hown : s.vm.findClass RX7 = some m.cls := findClass_of_methodNamed B.named
  have hlocks := B.notSynchronized
  have hin10 : ∀ w ∈ u_ws RX7 TX7 32, w ∈ wsX7_run := by decide +kernel
  have hS : va_S (fun q => G.1 ≤ q) s.heap s.heap [] := va_S.rf
  have J73 : ∀ (u : xS) (s0 : Int32) (H : Heap) (locs : List Loc) (ls : Array Slot), f_X7_run_73 u s0 = some (r, u') → mP G (x_ov Z u) H → va_S (fun q => G.1 ≤ q) s.heap H locs → lv_has ls 4 [] → W p l e ({ frames := 6, cells := 0, slots := 0, locals := 138 } : Room) s m ([.ref (Z.2.1), .int (p0), .int (p1)] : List Value).toArray below meth c H locs 0 0 (MQ below (m_Qi G r (x_ov Z u')) ([.ref (Z.2.1), .int (p0), .int (p1)] : List Value).toArray s 0 0 (fun q => G.1 ≤ q)) (F0 m 73 ls [.int (s0)]) := by
    intro u s0 H locs ls hd hP hS hl
    obtain ⟨hn623, hd⟩ := m_g_e hd
    obtain ⟨e1, e2⟩ := m_s_e hd
    have e2 := congrArg (x_ov Z) e2
    refine W.widen (k := 0) (n := 0) (Nat.le_of_ble_eq_true rfl) (Nat.le_of_ble_eq_true rfl) ?_
    exact W.zret hx hb hr (m_narZ hn623).1 (fun t ht hW => ⟨⟨_, (x_ov Z u), rfl, ⟨e1, e2⟩, by show mP _ _ t.heap; rw [ht]; exact hP⟩, hS.F ht⟩) hS.2.2 dX7_run_73
  have J72 : ∀ (u : xS) (H : Heap) (locs : List Loc) (ls : Array Slot), f_X7_run_72 u = some (r, u') → mP G (x_ov Z u) H → va_S (fun q => G.1 ≤ q) s.heap H locs → lv_has ls 4 [] → W p l e ({ frames := 6, cells := 0, slots := 0, locals := 138 } : Room) s m ([.ref (Z.2.1), .int (p0), .int (p1)] : List Value).toArray below meth c H locs 0 0 (MQ below (m_Qi G r (x_ov Z u')) ([.ref (Z.2.1), .int (p0), .int (p1)] : List Value).toArray s 0 0 (fun q => G.1 ≤ q)) (F0 m 72 ls []) := by
    intro u H locs ls hd hP hS hl
    refine lv_iconst (v := 0) hx hb dX7_run_72 (by decide) ?_
    refine W.widen (k := 0) (n := 0) (Nat.le_of_ble_eq_true rfl) (Nat.le_of_ble_eq_true rfl) ?_
    exact J73 u 0 _ _ _ hd hP hS (lv_sub hl [] rfl)
  have J52 : ∀ (u : xS) (x1 : Int32) (x2 : Int32) (s0 : Int32) (s1 : Int32) (H : Heap) (locs : List Loc) (ls : Array Slot), f_X7_run_52 u x1 x2 s0 s1 = some (r, u') → mP G (x_ov Z u) H → va_S (fun q => G.1 ≤ q) s.heap H locs → lv_has ls 4 [(0, .ref (Z.2.1)), (1, .int (x1)), (2, .int (x2))] → W p l e ({ frames := 6, cells := 0, slots := 0, locals := 138 } : Room) s m ([.ref (Z.2.1), .int (p0), .int (p1)] : List Value).toArray below meth c H locs 0 0 (MQ below (m_Qi G r (x_ov Z u')) ([.ref (Z.2.1), .int (p0), .int (p1)] : List Value).toArray s 0 0 (fun q => G.1 ≤ q)) (F0 m 52 ls [.int (s0), .int (s1), .ref (Z.2.1)]) := by
    intro u x1 x2 s0 s1 H locs ls hd hP hS hl
    refine lv_iconst (v := 1) hx hb dX7_run_52 (by decide) ?_
    obtain ⟨r415, u416, hc417, hd⟩ := m_b_e hd
    refine m_calli (k := 0) (n := 0) (va_runV (As := [.int (s1), .int (s0), .int (1)]) (rest := []) ⟨hx, hb, hml, hown, hts⟩ (c_X7_goes l G Z hZ u u416 s1 s0 1 r415 hc417) (cwV 3 hts gX7_run_X7_goes rfl rfl rfl (by decide +kernel) ⟨(Nat.le_of_ble_eq_true rfl), (Nat.le_of_ble_eq_true rfl)⟩) (m_preV (C := RX7) (T := TX7) (N := 32) hM hP hS rfl (by decide) hZ.1) rfl rfl hl.1 rfl (lv_room (Nat.le_of_ble_eq_true rfl)) dX7_run_53 ⟨(Nat.le_of_ble_eq_true rfl), (Nat.le_of_ble_eq_true rfl)⟩) hS ⟨(Nat.le_of_ble_eq_true rfl), (Nat.le_of_ble_eq_true rfl)⟩ (fun H locs hP hS => ?_)
    refine lv_if_eq (tgt := 72) hx hb dX7_run_56 (by decide) (fun c418 => ?_) (fun c418 => ?_)
    · have hd := m_i_t c418 hd
      refine W.widen (k := 0) (n := 0) (Nat.le_of_ble_eq_true rfl) (Nat.le_of_ble_eq_true rfl) ?_
      exact J72 u416 _ _ _ hd hP hS (lv_sub hl [] rfl)
    · have hd := m_i_f c418 hd
      refine lv_aload_n hx hb dX7_run_59 rfl (lv_at hl 0 rfl) ?_
      refine lv_iload_n hx hb dX7_run_60 rfl (lv_at hl 1 rfl) ?_
      refine lv_iload_n hx hb dX7_run_61 rfl (lv_at hl 2 rfl) ?_
      obtain ⟨r419, u420, hc421, hd⟩ := m_b_e hd
      refine m_calli (k := 0) (n := 0) (va_runV (As := [.int (x1), .int (x2)]) (rest := []) ⟨hx, hb, hml, hown, hts⟩ (c_X7_runs l G Z hZ u416 u420 x1 x2 r419 hc421) (cwV 2 hts gX7_run_X7_runs rfl rfl rfl (by decide +kernel) ⟨(Nat.le_of_ble_eq_true rfl), (Nat.le_of_ble_eq_true rfl)⟩) (m_preV (C := RX7) (T := TX7) (N := 32) hM hP hS rfl (by decide) hZ.1) rfl rfl hl.1 rfl (lv_room (Nat.le_of_ble_eq_true rfl)) dX7_run_62 ⟨(Nat.le_of_ble_eq_true rfl), (Nat.le_of_ble_eq_true rfl)⟩) hS ⟨(Nat.le_of_ble_eq_true rfl), (Nat.le_of_ble_eq_true rfl)⟩ (fun H locs hP hS => ?_)
      refine lv_if_eq (tgt := 72) hx hb dX7_run_65 (by decide) (fun c422 => ?_) (fun c422 => ?_)
      · have hd := m_i_t c422 hd
        refine W.widen (k := 0) (n := 0) (Nat.le_of_ble_eq_true rfl) (Nat.le_of_ble_eq_true rfl) ?_
        exact J72 u420 _ _ _ hd hP hS (lv_sub hl [] rfl)
      · have hd := m_i_f c422 hd
        refine lv_iconst (v := 1) hx hb dX7_run_68 (by decide) ?_
        refine lv_goto (tgt := 73) hx hb dX7_run_69 (by decide) ?_
        refine W.widen (k := 0) (n := 0) (Nat.le_of_ble_eq_true rfl) (Nat.le_of_ble_eq_true rfl) ?_
        exact J73 u420 1 _ _ _ hd hP hS (lv_sub hl [] rfl)
  have J51 : ∀ (u : xS) (x1 : Int32) (x2 : Int32) (s0 : Int32) (H : Heap) (locs : List Loc) (ls : Array Slot), f_X7_run_51 u x1 x2 s0 = some (r, u') → mP G (x_ov Z u) H → va_S (fun q => G.1 ≤ q) s.heap H locs → lv_has ls 4 [(0, .ref (Z.2.1)), (1, .int (x1)), (2, .int (x2))] → W p l e ({ frames := 6, cells := 0, slots := 0, locals := 138 } : Room) s m ([.ref (Z.2.1), .int (p0), .int (p1)] : List Value).toArray below meth c H locs 0 0 (MQ below (m_Qi G r (x_ov Z u')) ([.ref (Z.2.1), .int (p0), .int (p1)] : List Value).toArray s 0 0 (fun q => G.1 ≤ q)) (F0 m 51 ls [.int (s0), .ref (Z.2.1)]) := by
    intro u x1 x2 s0 H locs ls hd hP hS hl
    refine lv_iconst (v := 0) hx hb dX7_run_51 (by decide) ?_
    refine W.widen (k := 0) (n := 0) (Nat.le_of_ble_eq_true rfl) (Nat.le_of_ble_eq_true rfl) ?_
    exact J52 u x1 x2 0 s0 _ _ _ hd hP hS (lv_sub hl [0, 1, 2] rfl)
  have J20 : ∀ (u : xS) (x1 : Int32) (x2 : Int32) (s0 : Int32) (H : Heap) (locs : List Loc) (ls : Array Slot), f_X7_run_20 u x1 x2 s0 = some (r, u') → mP G (x_ov Z u) H → va_S (fun q => G.1 ≤ q) s.heap H locs → lv_has ls 4 [(0, .ref (Z.2.1)), (1, .int (x1)), (2, .int (x2))] → W p l e ({ frames := 6, cells := 0, slots := 0, locals := 138 } : Room) s m ([.ref (Z.2.1), .int (p0), .int (p1)] : List Value).toArray below meth c H locs 0 0 (MQ below (m_Qi G r (x_ov Z u')) ([.ref (Z.2.1), .int (p0), .int (p1)] : List Value).toArray s 0 0 (fun q => G.1 ≤ q)) (F0 m 20 ls [.int (s0)]) := by
    intro u x1 x2 s0 H locs ls hd hP hS hl
    refine lv_istore_n (lv' := [(3, .int (s0)), (0, .ref (Z.2.1)), (1, .int (x1)), (2, .int (x2))]) hx hb dX7_run_20 rfl hl (by decide) rfl (fun ls hl => ?_)
    refine lv_aload_n hx hb dX7_run_21 rfl (lv_at hl 1 rfl) ?_
    refine lv_iload_n hx hb dX7_run_22 rfl (lv_at hl 0 rfl) ?_
    refine lv_iload_n hx hb dX7_run_23 rfl (lv_at hl 0 rfl) ?_
    refine lv_if_eq (tgt := 51) hx hb dX7_run_24 (by decide) (fun c209 => ?_) (fun c209 => ?_)
    · have hd := m_i_t c209 hd
      refine W.widen (k := 0) (n := 0) (Nat.le_of_ble_eq_true rfl) (Nat.le_of_ble_eq_true rfl) ?_
      exact J51 u x1 x2 s0 _ _ _ hd hP hS (lv_sub hl [1, 2, 3] rfl)
    · have hd := m_i_f c209 hd
      refine lv_aload_n hx hb dX7_run_27 rfl (lv_at hl 1 rfl) ?_
      refine lv_iload_n hx hb dX7_run_28 rfl (lv_at hl 2 rfl) ?_
      refine lv_iload_n hx hb dX7_run_29 rfl (lv_at hl 3 rfl) ?_
      obtain ⟨r210, u211, hc212, hd⟩ := m_b_e hd
      refine m_calli (k := 0) (n := 0) (va_runV (As := [.int (x1), .int (x2)]) (rest := [.int (s0), .ref (Z.2.1)]) ⟨hx, hb, hml, hown, hts⟩ (c_X7_rightOf l G Z hZ u u211 x1 x2 r210 hc212) (cwV 2 hts gX7_run_X7_rightOf rfl rfl rfl (by decide +kernel) ⟨(Nat.le_of_ble_eq_true rfl), (Nat.le_of_ble_eq_true rfl)⟩) (m_preV (C := RX7) (T := TX7) (N := 32) hM hP hS rfl (by decide) hZ.1) rfl rfl hl.1 rfl (lv_room (Nat.le_of_ble_eq_true rfl)) dX7_run_30 ⟨(Nat.le_of_ble_eq_true rfl), (Nat.le_of_ble_eq_true rfl)⟩) hS ⟨(Nat.le_of_ble_eq_true rfl), (Nat.le_of_ble_eq_true rfl)⟩ (fun H locs hP hS => ?_)
      refine lv_iconst (v := 2) hx hb dX7_run_33 (by decide) ?_
      refine lv_icmp_lt (tgt := 51) hx hb dX7_run_34 (by decide) (fun c213 => ?_) (fun c213 => ?_)
      · have hd := m_i_t c213 hd
        refine W.widen (k := 0) (n := 0) (Nat.le_of_ble_eq_true rfl) (Nat.le_of_ble_eq_true rfl) ?_
        exact J51 u211 x1 x2 s0 _ _ _ hd hP hS (lv_sub hl [1, 2, 3] rfl)
      · have hd := m_i_f c213 hd
        refine lv_aload_n hx hb dX7_run_37 rfl (lv_at hl 1 rfl) ?_
        refine x_getI (own := RX7) (ref := RX7) hx hb hts hin10 hown hM.1 hZ hP 13 (by decide) (hts (.fieldLink RX7 115 "CellNotebookModel" "runs" "I") (by decide +kernel)) (fun _ h9 => h9) dX7_run_38 ?_
        refine lv_sipush (v := 400) hx hb dX7_run_41 (by decide) ?_
        refine lv_icmp_ge (tgt := 51) hx hb dX7_run_44 (by decide) (fun c214 => ?_) (fun c214 => ?_)
        · have hd := m_i_t c214 hd
          refine W.widen (k := 0) (n := 0) (Nat.le_of_ble_eq_true rfl) (Nat.le_of_ble_eq_true rfl) ?_
          exact J51 u211 x1 x2 s0 _ _ _ hd hP hS (lv_sub hl [1, 2, 3] rfl)
        · have hd := m_i_f c214 hd
          refine lv_iconst (v := 1) hx hb dX7_run_47 (by decide) ?_
          refine lv_goto (tgt := 52) hx hb dX7_run_48 (by decide) ?_
          refine W.widen (k := 0) (n := 0) (Nat.le_of_ble_eq_true rfl) (Nat.le_of_ble_eq_true rfl) ?_
          exact J52 u211 x1 x2 1 s0 _ _ _ hd hP hS (lv_sub hl [1, 2, 3] rfl)
  have J19 : ∀ (u : xS) (x1 : Int32) (x2 : Int32) (H : Heap) (locs : List Loc) (ls : Array Slot), f_X7_run_19 u x1 x2 = some (r, u') → mP G (x_ov Z u) H → va_S (fun q => G.1 ≤ q) s.heap H locs → lv_has ls 4 [(0, .ref (Z.2.1)), (1, .int (x1)), (2, .int (x2))] → W p l e ({ frames := 6, cells := 0, slots := 0, locals := 138 } : Room) s m ([.ref (Z.2.1), .int (p0), .int (p1)] : List Value).toArray below meth c H locs 0 0 (MQ below (m_Qi G r (x_ov Z u')) ([.ref (Z.2.1), .int (p0), .int (p1)] : List Value).toArray s 0 0 (fun q => G.1 ≤ q)) (F0 m 19 ls []) := by
    intro u x1 x2 H locs ls hd hP hS hl
    refine lv_iconst (v := 0) hx hb dX7_run_19 (by decide) ?_
    refine W.widen (k := 0) (n := 0) (Nat.le_of_ble_eq_true rfl) (Nat.le_of_ble_eq_true rfl) ?_
    exact J20 u x1 x2 0 _ _ _ hd hP hS (lv_sub hl [0, 1, 2] rfl)
  have hl := lv_entry ([.ref (Z.2.1), .int (p0), .int (p1)]) (n := 4) (Nat.le_of_ble_eq_true rfl)
  rw [lg_entry_eq]
  generalize (lg_sl ([.ref (Z.2.1), .int (p0), .int (p1)]) ++ List.replicate (4 - (lg_sl ([.ref (Z.2.1), .int (p0), .int (p1)])).length) Slot.unset).toArray = ls at hl ⊢
  have hl : lv_has ls 4 [(0, .ref (Z.2.1)), (1, .int (p0)), (2, .int (p1))] := hl
  refine lv_iload_n hx hb dX7_run_0 rfl (lv_at hl 1 rfl) ?_
  obtain ⟨r1, u2, hc3, hd⟩ := m_b_e hd
  refine m_calli (k := 0) (n := 0) (va_runS (As := [.int (p0)]) (rest := []) ⟨hx, hb, hml, hown, hts⟩ (c_X7_isUser l G Z hZ u u2 p0 r1 hc3) (va_cwS 1 hts gX7_run_X7_isUser rfl rfl rfl (by decide +kernel) ⟨(Nat.le_of_ble_eq_true rfl), (Nat.le_of_ble_eq_true rfl)⟩) (m_preS hM hP hS) rfl rfl hl.1 rfl (lv_room (Nat.le_of_ble_eq_true rfl)) dX7_run_1 ⟨(Nat.le_of_ble_eq_true rfl), (Nat.le_of_ble_eq_true rfl)⟩) hS ⟨(Nat.le_of_ble_eq_true rfl), (Nat.le_of_ble_eq_true rfl)⟩ (fun H locs hP hS => ?_)
  refine lv_if_eq (tgt := 19) hx hb dX7_run_4 (by decide) (fun c4 => ?_) (fun c4 => ?_)
  · have hd := m_i_t c4 hd
    refine W.widen (k := 0) (n := 0) (Nat.le_of_ble_eq_true rfl) (Nat.le_of_ble_eq_true rfl) ?_
    exact J19 u2 p0 p1 _ _ _ hd hP hS (lv_sub hl [0, 1, 2] rfl)
  · have hd := m_i_f c4 hd
    refine lv_aload_n hx hb dX7_run_7 rfl (lv_at hl 0 rfl) ?_
    refine lv_iload_n hx hb dX7_run_8 rfl (lv_at hl 2 rfl) ?_
    obtain ⟨r5, u6, hc7, hd⟩ := m_b_e hd
    refine m_calli (k := 0) (n := 0) (va_runV (As := [.int (p1)]) (rest := []) ⟨hx, hb, hml, hown, hts⟩ (c_X7_isCell l G Z hZ u2 u6 p1 r5 hc7) (cwV 1 hts gX7_run_X7_isCell rfl rfl rfl (by decide +kernel) ⟨(Nat.le_of_ble_eq_true rfl), (Nat.le_of_ble_eq_true rfl)⟩) (m_preV (C := RX7) (T := TX7) (N := 32) hM hP hS rfl (by decide) hZ.1) rfl rfl hl.1 rfl (lv_room (Nat.le_of_ble_eq_true rfl)) dX7_run_9 ⟨(Nat.le_of_ble_eq_true rfl), (Nat.le_of_ble_eq_true rfl)⟩) hS ⟨(Nat.le_of_ble_eq_true rfl), (Nat.le_of_ble_eq_true rfl)⟩ (fun H locs hP hS => ?_)
    refine lv_if_eq (tgt := 19) hx hb dX7_run_12 (by decide) (fun c8 => ?_) (fun c8 => ?_)
    · have hd := m_i_t c8 hd
      refine W.widen (k := 0) (n := 0) (Nat.le_of_ble_eq_true rfl) (Nat.le_of_ble_eq_true rfl) ?_
      exact J19 u6 p0 p1 _ _ _ hd hP hS (lv_sub hl [0, 1, 2] rfl)
    · have hd := m_i_f c8 hd
      refine lv_iconst (v := 1) hx hb dX7_run_15 (by decide) ?_
      refine lv_goto (tgt := 20) hx hb dX7_run_16 (by decide) ?_
      refine W.widen (k := 0) (n := 0) (Nat.le_of_ble_eq_true rfl) (Nat.le_of_ble_eq_true rfl) ?_
      exact J20 u6 p0 p1 1 _ _ _ hd hP hS (lv_sub hl [0, 1, 2] rfl)

