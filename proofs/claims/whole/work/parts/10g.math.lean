/-! a cell is moved -/
theorem map_erase {f : Nat → Nat} : ∀ (l : List Nat) (i : Nat), (l.map f).eraseIdx i = (l.eraseIdx i).map f
  | [], i => by cases i <;> rfl
  | a :: l, 0 => rfl
  | a :: l, i + 1 => by
    show f a :: (l.map f).eraseIdx i = f a :: (l.eraseIdx i).map f
    rw [map_erase l i]
theorem map_ins {f : Nat → Nat} : ∀ (l : List Nat) (i x : Nat), (l.map f).insertIdx i (f x) = (l.insertIdx i x).map f
  | l, 0, x => rfl
  | [], i + 1, x => rfl
  | a :: l, i + 1, x => by
    show f a :: (l.map f).insertIdx i (f x) = f a :: (l.insertIdx i x).map f
    rw [map_ins l i x]
theorem perm_er : ∀ (l : List Nat) (i : Nat) (h : i < l.length), (l[i] :: l.eraseIdx i).Perm l
  | a :: l, 0, _ => List.Perm.refl _
  | a :: l, i + 1, h => by
    have ih := perm_er l i (by rw [List.length_cons] at h; omega)
    exact (List.Perm.swap _ _ _).trans (ih.cons a)
section JM
variable {w : mW} {ρ : Nat → Nat} {t0 : Nat × Nat × Nat × Nat} {h : Nat} {σ : qS} {u : xS} {ca ra ia ad : Nat → Nat}
theorem C_placeOf_loop (H : HC w ρ t0.1 h σ ca ra ia ad) (hG : qG σ) {pos : Nat} (hp : pos < (q_O σ).length) : ∀ (d f i : Nat), d < f → i + d = pos → e_X6_placeOf_2 f w h (ca (q_O σ)[pos]) (nI i) = some (nI pos, w) := by
  have hN := hG.1
  have hl := hG.2.1.1
  have hA := HC_a1 H
  have hcp := (hG.2.1.2.2 _).mp (List.getElem_mem hp)
  have hnd := List.pairwise_iff_getElem.mp hG.2.1.2.1
  intro d
  induction d with
  | zero =>
    intro f i hf hi
    obtain ⟨f, rfl⟩ : ∃ q, f = q + 1 := ⟨f - 1, by omega⟩
    have hi2 : i = pos := by omega
    subst hi2
    show e_X6_placeOf_2_b (e_X6_placeOf_2 f) _ _ _ _ = _
    unfold e_X6_placeOf_2_b e_X6_placeOf_33
    rw [m_g_t (HC_kd H), HC_fr H (by decide), m_o_s, m_g_t (AL_k3 hA), AL_size3 hA, m_b_s, nb_1, pk_sub (by omega)]
    by_cases c : (q_O σ).length - 1 ≤ i
    · rw [if_pos (nI_le c (by omega))]
    · rw [if_neg (nI_ge (by omega) (by omega)), m_g_t (HC_kd H), HC_fr H (by decide), m_o_s, m_g_t (AL_k3 hA), AL_get3 hA hp, m_b_s, if_pos rfl]
  | succ d ih =>
    intro f i hf hi
    obtain ⟨f, rfl⟩ : ∃ q, f = q + 1 := ⟨f - 1, by omega⟩
    have hil : i < (q_O σ).length := by omega
    have hci := (hG.2.1.2.2 _).mp (List.getElem_mem hil)
    show e_X6_placeOf_2_b (e_X6_placeOf_2 f) _ _ _ _ = _
    unfold e_X6_placeOf_2_b e_X6_placeOf_33
    rw [m_g_t (HC_kd H), HC_fr H (by decide), m_o_s, m_g_t (AL_k3 hA), AL_size3 hA, m_b_s, nb_1, pk_sub (by omega), if_neg (nI_ge (by omega) (by omega)), m_g_t (HC_kd H), HC_fr H (by decide), m_o_s, m_g_t (AL_k3 hA), AL_get3 hA hil, m_b_s, if_neg (fun q => hnd i pos hil hp (by omega) (HC_inj H hci hcp (Option.some.inj q))), nI_add]
    exact ih f (i + 1) (by omega) (by omega)
/-- the state with another order -/
def z_ord (σ : qS) (O : List Nat) : qS := (q_N σ, O, q_P σ, q_C σ, q_R σ, σ.2.2.2.2.2)
theorem J_move (J : JI w ρ t0.1 h σ u) (p0 p1 : Int32) : JG w ρ t0.1 h (q_n σ) [(IOB, 1)] (e_X6_move t0 w h p0 p1) (f_X7_move u p0 p1) := by
  obtain ⟨hG, HXu, ca, ra, ia, ad, H⟩ := id J
  have hN := hG.1
  have hl := hG.2.1.1
  have hA := HC_a1 H
  unfold e_X6_move f_X7_move f_X7_move_27 f_X7_move_28
  rw [m_g_t (HC_kd H)]
  rcases X_ix (p := p0) (n := q_N σ) (by omega) with hp | ⟨c, hc, rfl⟩
  · rw [C_cellN H hp, m_t_x, X_cellN HXu.1.1 hN hp, m_b_s, if_pos rfl, X_goes0, m_b_s, if_pos rfl]
    exact JG_err J rfl rfl xs_rfl (List.mem_cons_self ..)
  rw [C_cellY H hG hc, m_t_s, m_g_t (HC_kd H), X_cellY HXu.1.1 hc hN, m_b_s, if_neg nb_10, HXu.1.1]
  rcases X_ix (p := p1) (n := q_N σ) (by omega) with hp | ⟨pl, hpl, rfl⟩
  · rw [C_placeN H hG hp, m_t_x, X_inN (by omega) hp, m_b_s, if_pos rfl, X_goes0, m_b_s, if_pos rfl]
    exact JG_err J rfl rfl xs_rfl (List.mem_cons_self ..)
  rw [C_placeY H hG hpl, m_t_s, m_g_t (HC_kd H), X_inY hpl (by omega), m_b_s, if_neg nb_10, X_goes1, m_b_s, if_neg nb_10]
  obtain ⟨pos, hpos, epos⟩ := List.getElem_of_mem ((hG.2.1.2.2 c).mpr hc)
  have hnd := List.pairwise_iff_getElem.mp hG.2.1.2.1
  -- the class
  have hplace : e_X6_placeOf w h (ca c) = some (nI pos, w) := by
    have := C_placeOf_loop H hG hpos pos m_N 0 (by show _ < 5000; omega) (Nat.zero_add _)
    rw [epos] at this
    exact this
  have hkc := HC_ck H hc
  have hlm : ((q_O σ).map ca).length = q_N σ := by rw [List.length_map, hl]
  obtain ⟨w1, q1, ⟨r, q2, q2r⟩, q3⟩ := AL_remove hA (by decide) (i := pos) (by omega)
  have a1 := p0 H.1 q3
  have hce := CE_kd (HC_ce H hc).choose_spec.1
  have hce1 := tg_ch hce q3
  have hler : (((q_O σ).map ca).eraseIdx pos).length = q_N σ - 1 := by rw [List.length_eraseIdx_of_lt (by omega), hlm]
  obtain ⟨w2, y1, y2, y3⟩ := AL_insert (t0 := t0) q2 q2r (by decide) (i := pl) (x := ca c) (by omega) ⟨hce1.2.2, by rw [hce1.1]; decide, by rw [hce1.1]; decide⟩
  rw [map_erase, map_ins] at y2
  have hk3 : m_kd w1 (ad 1) = 3 := by
    obtain ⟨z, _⟩ := q2
    exact z.1
  rw [hplace, m_b_s, m_g_t (HC_kd H), HC_fr H (by decide), m_o_s, m_g_t (AL_k3 hA), q1, m_b_s, m_g_t a1.1.1, a1.2.1 1 (by decide), m_o_s, m_g_t hk3, y1, m_b_s]
  have G : ch (S2 12) w ρ w2 ρ := ch_trans q3 y3
  -- the order that comes of it
  have hO2 : ∀ j, j < q_N σ → (((q_O σ).eraseIdx pos).insertIdx pl c).getD j 0 = if j = pl then c else (if pos ≤ j ∧ j < pl then (q_O σ).getD (j + 1) 0 else if pl < j ∧ j ≤ pos then (q_O σ).getD (j - 1) 0 else (q_O σ).getD j 0) := by
    intro j hj
    have hle : ((q_O σ).eraseIdx pos).length = q_N σ - 1 := by rw [List.length_eraseIdx_of_lt hpos, hl]
    rw [List.getD_eq_getElem?_getD, List.getD_eq_getElem?_getD, List.getD_eq_getElem?_getD, List.getD_eq_getElem?_getD]
    rcases Nat.lt_trichotomy j pl with e | e | e
    · rw [List.getElem?_insertIdx_of_lt e, if_neg (by omega)]
      by_cases c2 : j < pos
      · rw [List.getElem?_eraseIdx_of_lt c2, if_neg (by omega), if_neg (by omega)]
      · rw [List.getElem?_eraseIdx_of_ge (by omega), if_pos (by omega)]
    · rw [e, List.getElem?_insertIdx_self, if_pos (by omega), if_pos rfl]
      rfl
    · rw [List.getElem?_insertIdx_of_gt e, if_neg (by omega), if_neg (by omega)]
      by_cases c2 : j ≤ pos
      · rw [List.getElem?_eraseIdx_of_lt (by omega), if_pos (by omega)]
      · rw [List.getElem?_eraseIdx_of_ge (by omega), if_neg (by omega)]
        rw [show j - 1 + 1 = j by omega]
  have hperm : (((q_O σ).eraseIdx pos).insertIdx pl c).Perm (q_O σ) := by
    have p1 := List.perm_insertIdx c ((q_O σ).eraseIdx pos) (i := pl) (by rw [List.length_eraseIdx_of_lt hpos, hl]; omega)
    have p2 := perm_er (q_O σ) pos hpos
    rw [epos] at p2
    exact p1.trans p2
  generalize ((q_O σ).eraseIdx pos).insertIdx pl c = O2 at *
  -- the reference
  have hO : ∀ j, j < q_N σ → u.2 1 j = nI ((q_O σ).getD j 0) := HXu.2.1
  have hOp : (q_O σ).getD pos 0 = c := by rw [List.getD_eq_getElem?_getD, List.getElem?_eq_getElem hpos, epos]; rfl
  have fin : ∀ v : xS, v.1 = (x_sI u 31 0).1 → (∀ t, t ≠ 1 → v.2 t = u.2 t) → (∀ j, j < q_N σ → v.2 1 j = if pos ≤ j ∧ j < pl then u.2 1 (j + 1) else if pl < j ∧ j ≤ pos then u.2 1 (j - 1) else u.2 1 j) → JG w ρ t0.1 h (q_n σ) [(IOB, 1)] (some (.inl (nI pos), w2)) (m_g (¬ (nI pl < 0 ∨ 16 ≤ (nI pl).toNatClampNeg)) <| m_l (x_sA v 1 ((nI pl).toNatClampNeg) (nI c)) fun u521 => some (nI pos, u521)) := by
    intro v v1 v2 v3
    rw [m_g_t (nI_in (by omega) (by decide)), m_l_s, nI_clamp (by omega)]
    have rn : ∀ t, t ≠ 31 → (x_sA v 1 pl (nI c)).1 t = u.1 t := fun t ht => by
      show v.1 t = _
      rw [v1]; exact xI_n ht
    have rr : ∀ t, t ≠ 1 → (x_sA v 1 pl (nI c)).2 t = u.2 t := fun t ht => by rw [xA_n ht]; exact v2 t ht
    refine JG_do (σ' := z_ord σ O2) rfl rfl (by show v.1 31 = 0; rw [v1]; exact xI_s) ?_ ?_ (ca := ca) (ra := ra) (ia := ia) (ad := ad) ?_ (ch_mono G (fun q hq => by unfold SC; unfold S2 at hq; omega))
    · obtain ⟨g1, g2, g3⟩ := hG
      exact ⟨g1, ⟨hperm.length_eq.trans g2.1, hperm.nodup_iff.mpr g2.2.1, fun x => hperm.mem_iff.trans (g2.2.2 x)⟩, g3⟩
    · obtain ⟨⟨a1, a2, a3⟩, b1, b2, b3, b4, b5, b6, b7, b8, b9⟩ := HXu
      refine ⟨⟨(rn 0 (by decide)).trans a1, (rn 13 (by decide)).trans a2, (rn 21 (by decide)).trans a3⟩, fun k hk => ?_, fun k hk => ?_, fun k h1 h2 => ?_, fun k hk => ?_, fun i hi => ?_, fun i hi => ?_, fun i h1 h2 => ?_, ?_, fun i hi => ?_⟩
      · have hk' : k < q_N σ := hk
        show _ = nI (O2.getD k 0)
        rw [xA_s, hO2 k hk']
        by_cases e : k = pl
        · subst e
          rw [pk_us, if_pos rfl]
        · rw [pk_un e, if_neg e, v3 k hk']
          by_cases c1 : pos ≤ k ∧ k < pl
          · rw [if_pos c1, if_pos c1]; exact hO _ (by omega)
          · rw [if_neg c1, if_neg c1]
            by_cases c2 : pl < k ∧ k ≤ pos
            · rw [if_pos c2, if_pos c2]; exact hO _ (by omega)
            · rw [if_neg c2, if_neg c2]; exact hO _ hk'
      · rw [rr 2 (by decide), rr 7 (by decide), rr 9 (by decide), rr 3 (by decide), rr 4 (by decide), rr 5 (by decide), rr 6 (by decide)]; exact b2 k hk
      · rw [rr 2 (by decide), rr 7 (by decide), rr 9 (by decide)]; exact b3 k h1 h2
      · rw [rr 8 (by decide)]; exact b4 k hk
      · rw [rr 11 (by decide), rr 10 (by decide), rr 12 (by decide)]; exact b5 i hi
      · rw [rr 14 (by decide), rr 15 (by decide), rr 16 (by decide), rr 17 (by decide), rr 18 (by decide), rr 19 (by decide), rr 20 (by decide)]; exact b6 i hi
      · rw [rr 19 (by decide)]; exact b7 i h1 h2
      · rw [rr 16 (by decide), rr 18 (by decide)]; exact b8
      · rw [rr 23 (by decide), rr 22 (by decide), rr 24 (by decide)]; exact b9 i hi
    · have B0 := pAL (HC_a0 H) G
      have B2 := pAL (HC_a2 H) G
      have B3 := pAL (HC_a3 H) G
      have B4 := pAL (HC_a4 H) G
      exact ⟨p0 H.1 G, B0, y2, B2, B3, B4, pSEN H.2.2.2.2.2.2.1 G, pNM H.2.2.2.2.2.2.2.1 G, pAT0 H.2.2.2.2.2.2.2.2.1 G, pCEs H.2.2.2.2.2.2.2.2.2.1 (fun k hk => (hG.2.2.1 k hk).1) hN G, pRUs H.2.2.2.2.2.2.2.2.2.2.1 G, pIMs H.2.2.2.2.2.2.2.2.2.2.2 hG.2.2.2.2.2.2.2.1 G⟩
  -- down to the place
  have X90 : ∀ (d f k : Nat) (v : xS), d < f → pl + d = k → k ≤ pos → v.1 = (x_sI u 31 0).1 → (∀ t, t ≠ 1 → v.2 t = u.2 t) → (∀ j, j < q_N σ → v.2 1 j = if k < j ∧ j ≤ pos then u.2 1 (j - 1) else u.2 1 j) → JG w ρ t0.1 h (q_n σ) [(IOB, 1)] (some (.inl (nI pos), w2)) (f_X7_move_90 f v (nI c) (nI pl) (nI pos) (nI k)) := by
    intro d
    induction d with
    | zero =>
      intro f k v hf hk hkp v1 v2 v3
      obtain ⟨f, rfl⟩ : ∃ q, f = q + 1 := ⟨f - 1, by omega⟩
      have hk2 : k = pl := by omega
      subst hk2
      show JG w ρ t0.1 h (q_n σ) _ _ (f_X7_move_90_b (f_X7_move_90 f) _ _ _ _ _)
      unfold f_X7_move_90_b
      rw [if_pos (nI_le (Nat.le_refl _) (by omega))]
      refine fin v v1 v2 (fun j hj => ?_)
      rw [v3 j hj, if_neg (by omega : ¬ (pos ≤ j ∧ j < k))]
    | succ d ih =>
      intro f k v hf hk hkp v1 v2 v3
      obtain ⟨f, rfl⟩ : ∃ q, f = q + 1 := ⟨f - 1, by omega⟩
      obtain ⟨k, rfl⟩ : ∃ q, k = q + 1 := ⟨k - 1, by omega⟩
      show JG w ρ t0.1 h (q_n σ) _ _ (f_X7_move_90_b (f_X7_move_90 f) _ _ _ _ _)
      unfold f_X7_move_90_b
      rw [if_neg (nI_ge (by omega) (by omega)), nI_pred, m_g_t (nI_in (by omega) (by decide)), m_g_t (nI_in (by omega) (by decide)), m_l_s, nI_clamp (show k < 2 ^ 31 by omega), nI_clamp (show k + 1 < 2 ^ 31 by omega), pk_m1]
      refine ih f k _ (by omega) (by omega) (by omega) v1 (fun t ht => by rw [xA_n ht]; exact v2 t ht) (fun j hj => ?_)
      rw [xA_s]
      by_cases e : j = k + 1
      · subst e
        rw [pk_us, v3 k (by omega), if_neg (by omega), if_pos (by omega), Nat.add_sub_cancel]
      · rw [pk_un e, v3 j hj]
        by_cases c1 : k + 1 < j ∧ j ≤ pos
        · rw [if_pos c1, if_pos (by omega)]
        · rw [if_neg c1, if_neg (by omega)]
  -- up to the place
  have X59 : ∀ (d f k : Nat) (v : xS), d < f → k + d = pl → pos ≤ k → v.1 = (x_sI u 31 0).1 → (∀ t, t ≠ 1 → v.2 t = u.2 t) → (∀ j, j < q_N σ → v.2 1 j = if pos ≤ j ∧ j < k then u.2 1 (j + 1) else u.2 1 j) → JG w ρ t0.1 h (q_n σ) [(IOB, 1)] (some (.inl (nI pos), w2)) (f_X7_move_59 f v (nI c) (nI pl) (nI pos) (nI k)) := by
    intro d
    induction d with
    | zero =>
      intro f k v hf hk hkp v1 v2 v3
      obtain ⟨f, rfl⟩ : ∃ q, f = q + 1 := ⟨f - 1, by omega⟩
      have hk2 : k = pl := by omega
      subst hk2
      show JG w ρ t0.1 h (q_n σ) _ _ (f_X7_move_59_b (f_X7_move_59 f) _ _ _ _ _)
      unfold f_X7_move_59_b
      rw [if_pos (nI_le (Nat.le_refl _) (by omega))]
      show JG w ρ t0.1 h (q_n σ) _ _ (f_X7_move_90_b (f_X7_move_90 4999) _ _ _ _ _)
      unfold f_X7_move_90_b
      rw [if_pos (nI_le hkp (by omega))]
      refine fin v v1 v2 (fun j hj => ?_)
      rw [v3 j hj]
      by_cases c1 : pos ≤ j ∧ j < k
      · rw [if_pos c1, if_pos c1]
      · rw [if_neg c1, if_neg c1, if_neg (by omega)]
    | succ d ih =>
      intro f k v hf hk hkp v1 v2 v3
      obtain ⟨f, rfl⟩ : ∃ q, f = q + 1 := ⟨f - 1, by omega⟩
      show JG w ρ t0.1 h (q_n σ) _ _ (f_X7_move_59_b (f_X7_move_59 f) _ _ _ _ _)
      unfold f_X7_move_59_b
      rw [if_neg (nI_ge (by omega) (by omega)), nI_1, m_g_t (nI_in (by omega) (by decide)), m_g_t (nI_in (by omega) (by decide)), m_l_s, nI_clamp (show k < 2 ^ 31 by omega), nI_clamp (show k + 1 < 2 ^ 31 by omega)]
      refine ih f (k + 1) _ (by omega) (by omega) (by omega) v1 (fun t ht => by rw [xA_n ht]; exact v2 t ht) (fun j hj => ?_)
      rw [xA_s]
      by_cases e : j = k
      · subst e
        rw [pk_us, v3 (j + 1) (by omega), if_neg (by omega), if_pos (by omega)]
      · rw [pk_un e, v3 j hj]
        by_cases c1 : pos ≤ j ∧ j < k
        · rw [if_pos c1, if_pos (by omega)]
        · rw [if_neg c1, if_neg (by omega)]
  -- its place before
  have X40 : ∀ (d f k : Nat), d < f → k + d = pos → JG w ρ t0.1 h (q_n σ) [(IOB, 1)] (some (.inl (nI pos), w2)) (f_X7_move_40 f (x_sI u 31 0) (nI c) (nI pl) (nI k)) := by
    intro d
    induction d with
    | zero =>
      intro f k hf hk
      obtain ⟨f, rfl⟩ : ∃ q, f = q + 1 := ⟨f - 1, by omega⟩
      have hk2 : k = pos := by omega
      subst hk2
      show JG w ρ t0.1 h (q_n σ) _ _ (f_X7_move_40_b (f_X7_move_40 f) _ _ _ _)
      unfold f_X7_move_40_b
      have e1 : (x_sI u 31 0).2 1 k = nI c := (hO k (by omega)).trans (by rw [hOp])
      rw [m_g_t (nI_in (by omega) (by decide)), nI_clamp (by omega), e1, if_pos rfl]
      by_cases c1 : k ≤ pl
      · exact X59 (pl - k) m_N k _ (by show _ < 5000; omega) (by omega) (Nat.le_refl _) rfl (fun _ _ => rfl) (fun j _ => by rw [if_neg (by omega)]; rfl)
      · show JG w ρ t0.1 h (q_n σ) _ _ (f_X7_move_59_b (f_X7_move_59 4999) _ _ _ _ _)
        unfold f_X7_move_59_b
        rw [if_pos (nI_le (by omega) (by omega))]
        exact X90 (k - pl) m_N k _ (by show _ < 5000; omega) (by omega) (Nat.le_refl _) rfl (fun _ _ => rfl) (fun j _ => by rw [if_neg (by omega)]; rfl)
    | succ d ih =>
      intro f k hf hk
      obtain ⟨f, rfl⟩ : ∃ q, f = q + 1 := ⟨f - 1, by omega⟩
      show JG w ρ t0.1 h (q_n σ) _ _ (f_X7_move_40_b (f_X7_move_40 f) _ _ _ _)
      unfold f_X7_move_40_b
      have hkl : k < (q_O σ).length := by omega
      have hck := (hG.2.1.2.2 _).mp (List.getElem_mem hkl)
      have e1 : (x_sI u 31 0).2 1 k = nI (q_O σ)[k] := (hO k (by omega)).trans (by rw [List.getD_eq_getElem?_getD, List.getElem?_eq_getElem hkl]; rfl)
      rw [m_g_t (nI_in (by omega) (by decide)), nI_clamp (by omega), e1, if_neg (fun q => by
        have := (nI_eq (by omega) (by omega)).mp q
        exact hnd k pos hkl hpos (by omega) (by rw [this, epos])), nI_1]
      exact ih f (k + 1) (by omega) (by omega)
  exact X40 pos m_N 0 (by show _ < 5000; omega) (Nat.zero_add _)
end JM
