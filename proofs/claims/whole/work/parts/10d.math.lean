/-! runs, cells, sessions, the log -/
section JD
variable {w : mW} {ρ : Nat → Nat} {t0 : Nat × Nat × Nat × Nat} {h : Nat} {σ : qS} {u : xS}
theorem J_run (J : JI w ρ t0.1 h σ u) (p0 p1 : Int32) : JG w ρ t0.1 h (q_n σ) [(IOB, 1), (ISE, 2)] (e_X6_run t0 w h p0 p1) (f_X7_run u p0 p1) := by
  obtain ⟨hG, HXu, ca, ra, ia, ad, H⟩ := id J
  have hN := hG.1
  have hn := hG.2.2.2.1
  have hA := HC_a2 H
  unfold e_X6_run f_X7_run f_X7_run_19 f_X7_run_20 f_X7_run_51 f_X7_run_52 f_X7_run_72 f_X7_run_73
  rcases X_ix (p := p0) (n := 5) (by decide) with hp | ⟨i, hi, rfl⟩
  · rw [C_userN hp, m_t_x, X_userN hp, m_b_s, if_pos rfl, if_pos rfl, X_goes0, m_b_s, if_pos rfl, m_g_t vb0]
    exact JG_err J rfl rfl xs_rfl (List.mem_cons_self ..)
  rw [C_userY hi, m_t_s, m_g_t (HC_kd H), X_userY hi, m_b_s, if_neg nb_10]
  rcases X_ix (p := p1) (n := q_N σ) (by omega) with hp | ⟨k, hk, rfl⟩
  · rw [C_cellN H hp, m_t_x, X_cellN HXu.1.1 hN hp, m_b_s, if_pos rfl, if_pos rfl, X_goes0, m_b_s, if_pos rfl, m_g_t vb0]
    exact JG_err J rfl rfl xs_rfl (List.mem_cons_self ..)
  have hR := (hG.2.2.1 k hk).2.2.2.2 i hi
  rw [C_cellY H hG hk, m_t_s, show (2 : Int32) = nI 2 from rfl, C_right H hG hi hk (by decide), X_cellY HXu.1.1 hk hN, m_b_s, if_neg nb_10, if_neg nb_10, X_rightOf HXu hG hi hk, m_b_s]
  by_cases c : q_R σ k i < 2
  · rw [if_pos c, m_t_x, if_pos (nI_lt c (by decide)), X_goes10, m_b_s, if_pos rfl, m_g_t vb0]
    exact JG_err J rfl rfl xs_rfl (List.mem_cons_of_mem _ (List.mem_cons_self ..))
  rw [if_neg c, m_t_s, m_g_t (HC_kd H), HC_fr H (by decide), m_o_s, m_g_t (AL_k3 hA), AL_size2 hA, m_b_s, if_neg (nI_nlt (by omega) (by omega)), HXu.1.2.1]
  by_cases c2 : q_n σ < 400
  · have g : xs u (x_sI u 31 0) := xs_sI (by decide)
    obtain ⟨w1, ρ1, x, z1, z2, z3⟩ := HC_makeRun (t0 := t0) H hG hi hk c2
    obtain ⟨u1, y1, y2, y3⟩ := X_runs hG (HX_xs HXu g) hi hk c2
    rw [if_pos (show nI (q_n σ) < 400 from nI_lt (b := 400) c2 (by decide)), m_g_t (HC_kd H), z1, m_b_s, if_neg (show ¬ (400 : Int32) ≤ nI (q_n σ) from nI_ge (b := 400) c2 (by decide)), X_goes1, m_b_s, if_neg nb_10, y1, m_b_s]
    have h31 : u1.1 31 = 0 := y3.trans xI_s
    by_cases cf : (z_rr σ k).2 = true
    · rw [if_pos cf, m_g_t vb0, if_pos rfl, m_g_t vb0]
      exact JG_do rfl rfl h31 (z_mk_G hG hi hk c2) y2 z2 z3 (Nat.le_succ _)
    · rw [if_neg cf, m_g_t vb1, if_neg nb_10, m_g_t vb1]
      exact JG_do rfl rfl h31 (z_mk_G hG hi hk c2) y2 z2 z3 (Nat.le_succ _)
  · rw [if_neg (show ¬ nI (q_n σ) < 400 from nI_nlt (b := 400) (by omega) (by omega)), if_pos (show (400 : Int32) ≤ nI (q_n σ) from nI_le (a := 400) (by omega) (by omega)), X_goes10, m_b_s, if_pos rfl, m_g_t vb0]
    exact JG_err J rfl rfl xs_rfl (List.mem_cons_of_mem _ (List.mem_cons_self ..))
theorem C_needs {ca ra ia ad : Nat → Nat} (H : HC w ρ t0.1 h σ ca ra ia ad) (hG : qG σ) {k : Nat} (hk : k < q_N σ) : e_X6_needsRun w h (ca k) = some (if q_L σ k = 0 ∨ z_fr (q_S σ) (q_L σ) (q_C σ) (q_r σ) (q_n σ) k ≠ 0 then 1 else 0, w) := by
  have hN := hG.1
  have hn := hG.2.2.2.1
  have hL : q_L σ k ≤ q_n σ := (hG.2.2.2.2.1.2 k).1
  unfold e_X6_needsRun e_X6_needsRun_29 e_X6_needsRun_34
  rw [m_g_t (HC_kd H), HC_fr H (by decide), m_o_s, m_g_t (HC_ck H hk), m_g_t (SE_kd (HC_now H)).1, HC_cn H hk, HC_L H (by omega), m_b_s]
  by_cases c : q_L σ k = 0
  · rw [if_pos (by rw [c]; exact nI_0), m_g_t vb1, if_pos (Or.inl c)]
  · rw [if_neg (nI_ne0 (by omega) (by omega)), m_g_t (HC_kd H), HC_staleNow H hG, m_b_s, m_g_t (HC_ck H hk), HC_cn H hk]
    by_cases c2 : z_fr (q_S σ) (q_L σ) (q_C σ) (q_r σ) (q_n σ) k = 0
    · rw [if_pos ((nb_bit (by omega)).mpr (Bool.eq_false_iff.mpr (fun q => (z_stale_iff (qG_hL hG) (qG_hs hG) hL).mp q c2))), m_g_t vb0, if_neg (fun q => by
        rcases q with q | q
        · exact c q
        · exact q c2)]
    · rw [if_neg (fun q => by
        have := (nb_bit (by omega)).mp q
        rw [(z_stale_iff (qG_hL hG) (qG_hs hG) hL).mpr c2] at this
        cases this), m_g_t vb1, if_pos (Or.inr c2)]
theorem J_refresh_loop {N : Nat} {O : List Nat} {i : Nat} (hi : i < 5) : ∀ (d f f' k m : Nat) (w : mW) (ρ : Nat → Nat) (σ : qS) (u : xS), d < f → d < f' → k + d = N → m ≤ k → q_N σ = N → q_O σ = O → q_n σ + d ≤ 400 → u.1 31 = 0 → JI w ρ t0.1 h σ u →
    ∃ w' ρ' u' σ' m', e_X6_refresh_31 t0 f w h (nI i) (nI m) (nI k) = some (.inl (nI m'), w') ∧ f_X7_refresh_33 f' u (nI i) (nI m) (nI k) = some (nI m', u') ∧ JI w' ρ' t0.1 h σ' u' ∧ u'.1 31 = 0 ∧ ch SC w ρ w' ρ' ∧ q_n σ' + m = q_n σ + m' ∧ m' ≤ N := by
  intro d
  induction d with
  | zero =>
    intro f f' k m w ρ σ u hf hf' hk hm eN eO hn h31 J
    obtain ⟨f, rfl⟩ : ∃ q, f = q + 1 := ⟨f - 1, by omega⟩
    obtain ⟨f', rfl⟩ : ∃ q, f' = q + 1 := ⟨f' - 1, by omega⟩
    obtain ⟨hG, HXu, ca, ra, ia, ad, H⟩ := id J
    have hN := hG.1
    have hA := HC_a1 H
    refine ⟨w, ρ, u, σ, m, ?_, ?_, J, h31, ch_rfl, rfl, by omega⟩
    · show e_X6_refresh_31_b t0 (e_X6_refresh_31 t0 f) _ _ _ _ _ = _
      unfold e_X6_refresh_31_b
      rw [m_g_t (HC_kd H), HC_fr H (by decide), m_o_s, m_g_t (AL_k3 hA), AL_size3 hA, m_b_s, hG.2.1.1, if_pos (nI_le (by omega) (by omega))]
    · show f_X7_refresh_33_b (f_X7_refresh_33 f') _ _ _ _ = _
      unfold f_X7_refresh_33_b
      rw [HXu.1.1, if_pos (nI_le (by omega) (by omega))]
  | succ d ih =>
    intro f f' k m w ρ σ u hf hf' hk hm eN eO hn h31 J
    obtain ⟨f, rfl⟩ : ∃ q, f = q + 1 := ⟨f - 1, by omega⟩
    obtain ⟨f', rfl⟩ : ∃ q, f' = q + 1 := ⟨f' - 1, by omega⟩
    obtain ⟨hG, HXu, ca, ra, ia, ad, H⟩ := id J
    have hN := hG.1
    have hA := HC_a1 H
    have hl : k < (q_O σ).length := by rw [hG.2.1.1]; omega
    have hc := (hG.2.1.2.2 _).mp (List.getElem_mem hl)
    have hR := (hG.2.2.1 _ hc).2.2.2.2 i hi
    obtain ⟨u1, s1, s2, s3⟩ := X_reasons hG (HX_HY hG HXu)
    have HX1 := HX_xs HXu s2.1
    have t31 : u1.1 31 = 0 := by rw [s2.2]; exact h31
    have J1 : JI w ρ t0.1 h σ u1 := JI_xs J s2.1
    have eo : u.2 1 k = nI (q_O σ)[k] := by
      rw [HXu.2.1 k (by omega)]
      simp [hl]
    have hget := AL_get3 hA hl
    generalize (q_O σ)[k] = c at *
    have hL : q_L σ c ≤ q_n σ := (hG.2.2.2.2.1.2 c).1
    have hlt := z_fr_lt (S := q_S σ) (L := q_L σ) (C := q_C σ) (r := q_r σ) (n := q_n σ) (k := c)
    have r8 : u1.2 8 c = nI (q_L σ c) := HX1.2.2.2.2.1 c (by omega)
    have r30 := s3 c hc
    have eC : e_X6_refresh_31 t0 (f + 1) w h (nI i) (nI m) (nI k) = m_b (e_X1_allows w (ca c) (nI i) (nI 2)) fun r128 w129 => if r128 = (0 : Int32) then e_X6_refresh_31 t0 f w129 h (nI i) (nI m) (nI k + 1) else (m_g (m_kd w129 h = 10) <| m_b (e_X6_needsRun w129 h (ca c)) fun r133 w134 => if r133 = (0 : Int32) then e_X6_refresh_31 t0 f w134 h (nI i) (nI m) (nI k + 1) else (m_g (m_kd w134 h = 10) <| m_b (e_X6_makeRun t0 w134 h (nI i) (ca c)) fun r138 w139 => e_X6_refresh_31 t0 f w139 h (nI i) (nI m + 1) (nI k + 1))) := by
      show e_X6_refresh_31_b t0 (e_X6_refresh_31 t0 f) _ _ _ _ _ = _
      unfold e_X6_refresh_31_b
      rw [m_g_t (HC_kd H), HC_fr H (by decide), m_o_s, m_g_t (AL_k3 hA), AL_size3 hA, m_b_s, if_neg (nI_ge hl (by rw [hG.2.1.1]; omega)), m_g_t (HC_kd H), HC_fr H (by decide), m_o_s, m_g_t (AL_k3 hA), hget, m_b_s, m_g_t (HC_ck H hc)]
      rfl
    have eX : f_X7_refresh_33 (f' + 1) u (nI i) (nI m) (nI k) = if nI (q_R σ c i) < 2 then f_X7_refresh_33 f' u1 (nI i) (nI m) (nI k + 1) else (if nI (q_L σ c) = (0 : Int32) then f_X7_refresh_84 (f_X7_refresh_33 f') u1 (nI i) (nI m) (nI k) (nI c) else (if nI (z_fr (q_S σ) (q_L σ) (q_C σ) (q_r σ) (q_n σ) c) ≤ (0 : Int32) then f_X7_refresh_33 f' u1 (nI i) (nI m) (nI k + 1) else f_X7_refresh_84 (f_X7_refresh_33 f') u1 (nI i) (nI m) (nI k) (nI c))) := by
      show f_X7_refresh_33_b (f_X7_refresh_33 f') _ _ _ _ = _
      unfold f_X7_refresh_33_b f_X7_refresh_96
      rw [HXu.1.1, if_neg (nI_ge (by omega) (by omega)), m_g_t (nI_in (by omega) (by decide)), s1, m_b_s, nI_clamp (show k < 2 ^ 31 by omega), eo, X_rightOf HX1 hG hi hc, m_b_s, m_g_t (nI_in (by omega) (by decide)), m_g_t (nI_in (by omega) (by decide)), nI_clamp (show c < 2 ^ 31 by omega), r8, r30]
    rw [eC, eX, C_allows H hG hi hc (by decide), m_b_s, nI_1]
    by_cases c1 : q_R σ c i < 2
    · rw [if_pos c1, if_pos rfl, if_pos (show nI (q_R σ c i) < 2 from nI_lt (b := 2) c1 (by decide))]
      exact ih f f' (k + 1) m w ρ σ u1 (by omega) (by omega) (by omega) (by omega) eN eO (by omega) t31 J1
    rw [if_neg c1, if_neg nb_10, m_g_t (HC_kd H), C_needs H hG hc, m_b_s, if_neg (show ¬ nI (q_R σ c i) < 2 from nI_nlt (b := 2) (by omega) (by omega))]
    have run : ∃ w' ρ' u' σ' m', (m_g (m_kd w h = 10) <| m_b (e_X6_makeRun t0 w h (nI i) (ca c)) fun r138 w139 => e_X6_refresh_31 t0 f w139 h (nI i) (nI m + 1) (nI (k + 1))) = some (.inl (nI m'), w') ∧ f_X7_refresh_84 (f_X7_refresh_33 f') u1 (nI i) (nI m) (nI k) (nI c) = some (nI m', u') ∧ JI w' ρ' t0.1 h σ' u' ∧ u'.1 31 = 0 ∧ ch SC w ρ w' ρ' ∧ q_n σ' + m = q_n σ + m' ∧ m' ≤ N := by
      obtain ⟨w2, ρ2, x, z1, z2, z3⟩ := HC_makeRun (t0 := t0) H hG hi hc (by omega)
      obtain ⟨u2, y1, y2, y3⟩ := X_runs hG HX1 hi hc (by omega)
      unfold f_X7_refresh_84 f_X7_refresh_96
      rw [m_g_t (HC_kd H), z1, m_b_s, y1, m_b_s, nI_1, nI_1]
      obtain ⟨w3, ρ3, u3, σ3, m3, v1, v2, v3, v4, v5, v6, v7⟩ := ih f f' (k + 1) (m + 1) w2 ρ2 (z_mk σ i c) u2 (by omega) (by omega) (by omega) (by omega) eN eO (by show q_n σ + 1 + d ≤ 400; omega) (y3.trans t31) ⟨z_mk_G hG hi hc (by omega), y2, ca, _, ia, ad, z2⟩
      have v6' : q_n σ3 + (m + 1) = q_n σ + 1 + m3 := v6
      exact ⟨w3, ρ3, u3, σ3, m3, v1, v2, v3, v4, ch_trans z3 v5, by omega, v7⟩
    by_cases c2 : q_L σ c = 0
    · rw [if_pos (Or.inl c2), if_neg nb_10, if_pos (by rw [c2]; exact nI_0)]
      exact run
    · rw [if_neg (nI_ne0 (by omega) (by omega))]
      by_cases c3 : z_fr (q_S σ) (q_L σ) (q_C σ) (q_r σ) (q_n σ) c = 0
      · rw [if_neg (show ¬ (q_L σ c = 0 ∨ z_fr (q_S σ) (q_L σ) (q_C σ) (q_r σ) (q_n σ) c ≠ 0) from fun q => by
          rcases q with q | q
          · exact c2 q
          · exact q c3), if_pos rfl, if_pos ((pos_le (by omega)).mpr c3)]
        exact ih f f' (k + 1) m w ρ σ u1 (by omega) (by omega) (by omega) (by omega) eN eO (by omega) t31 J1
      · rw [if_pos (Or.inr c3), if_neg nb_10, if_neg (fun q => c3 ((pos_le (by omega)).mp q))]
        exact run
theorem J_refresh (J : JI w ρ t0.1 h σ u) (p0 : Int32) : ∃ K, (∀ r w1, e_X6_refresh t0 w h p0 = some (.inl r, w1) → r.toInt ≤ (K : Nat)) ∧ JG w ρ t0.1 h (q_n σ + K) [(IOB, 1), (ISE, 2)] (e_X6_refresh t0 w h p0) (f_X7_refresh u p0) := by
  obtain ⟨hG, HXu, ca, ra, ia, ad, H⟩ := id J
  have hN := hG.1
  have hn := hG.2.2.2.1
  have hA := HC_a2 H
  unfold f_X7_refresh f_X7_refresh_20
  rcases X_ix (p := p0) (n := 5) (by decide) with hp | ⟨i, hi, rfl⟩
  · have e : e_X6_refresh t0 w h p0 = some (.inr IOB, w) := by
      unfold e_X6_refresh
      rw [C_userN hp, m_t_x]
    rw [e, X_userN hp, m_b_s]
    refine ⟨0, fun r w1 q => (nomatch q), ?_⟩
    by_cases c : 380 < u.1 13
    · rw [if_pos c, X_goes0, m_b_s, if_pos rfl]
      exact JG_err J rfl rfl xs_rfl (List.mem_cons_self ..)
    · rw [if_neg c, X_goes0, m_b_s, if_pos rfl]
      exact JG_err J rfl rfl xs_rfl (List.mem_cons_self ..)
  have e : e_X6_refresh t0 w h (nI i) = if nI (q_n σ) ≤ 380 then e_X6_refresh_31 t0 m_N w h (nI i) 0 0 else some (.inr ISE, w) := by
    unfold e_X6_refresh
    rw [C_userY hi, m_t_s, m_g_t (HC_kd H), HC_fr H (by decide), m_o_s, m_g_t (AL_k3 hA), AL_size2 hA, m_b_s]
    rfl
  rw [e, X_userY hi, m_b_s, HXu.1.2.1]
  by_cases c : q_n σ ≤ 380
  · have g : xs u (x_sI u 31 0) := xs_sI (by decide)
    obtain ⟨w1, ρ1, u1, σ1, m1, z1, z2, z3, z4, z5, z6, z7⟩ := J_refresh_loop (t0 := t0) (h := h) (N := q_N σ) (O := q_O σ) hi (q_N σ) m_N m_N 0 0 w ρ σ (x_sI u 31 0) (by show _ < 5000; omega) (by show _ < 5000; omega) (Nat.zero_add _) (Nat.le_refl _) rfl rfl (by omega) xI_s (JI_xs J g)
    rw [show nI 0 = (0 : Int32) from rfl] at z1 z2
    rw [if_pos (show nI (q_n σ) ≤ 380 from nI_le (b := 380) c (by decide)), if_neg (show ¬ (380 : Int32) < nI (q_n σ) from nI_nlt (a := 380) c (by decide)), X_goes1, m_b_s, if_neg nb_10, z1, z2]
    refine ⟨m1, fun r w2 q => ?_, ⟨.inl (nI m1), w1, ρ1, nI m1, u1, σ1, rfl, rfl, ⟨fun r hr => by cases hr; exact ⟨z4, rfl⟩, fun F hF => (nomatch hF)⟩, z3, by omega, z5⟩⟩
    have q2 : nI m1 = r := Sum.inl.inj (Prod.mk.inj (Option.some.inj q)).1
    rw [← q2, nI_toInt (by omega)]
    exact Int.le_refl _
  · refine ⟨0, fun r w1 q => ?_, ?_⟩
    · rw [if_neg (show ¬ nI (q_n σ) ≤ 380 from nI_ge (a := 380) (by omega) (by omega))] at q
      exact nomatch q
    · rw [if_neg (show ¬ nI (q_n σ) ≤ 380 from nI_ge (a := 380) (by omega) (by omega)), if_pos (show (380 : Int32) < nI (q_n σ) from nI_lt (a := 380) (by omega) (by omega)), X_goes10, m_b_s, if_pos rfl]
      exact JG_err J rfl rfl xs_rfl (List.mem_cons_of_mem _ (List.mem_cons_self ..))
/-! sessions -/
theorem X_ones_loop (hG : qG σ) (HXu : HX u σ) : ∀ (d f j : Nat), d < f → j + d = 8 → f_X7_setOnes_4 f u (nI (nb_cnt (fun i => decide (¬ q_S σ i = 0)) j)) (nI j) = some (nI (nb_cnt (fun i => decide (¬ q_S σ i = 0)) 8), u) := by
  have hn := hG.2.2.2.1
  intro d
  induction d with
  | zero =>
    intro f j hf hj
    obtain ⟨f, rfl⟩ : ∃ q, f = q + 1 := ⟨f - 1, by omega⟩
    have hj8 : j = 8 := by omega
    subst hj8
    show f_X7_setOnes_4_b (f_X7_setOnes_4 f) _ _ _ = _
    unfold f_X7_setOnes_4_b
    rw [if_pos (by decide +kernel)]
  | succ d ih =>
    intro f j hf hj
    obtain ⟨f, rfl⟩ : ∃ q, f = q + 1 := ⟨f - 1, by omega⟩
    have hj8 : j < 8 := by omega
    have hS : q_S σ j ≤ q_n σ := (hG.2.2.2.2.1.1 j hj8).1
    have IH := ih f (j + 1) (by omega) (by omega)
    have e : nb_cnt (fun i => decide (¬ q_S σ i = 0)) (j + 1) = nb_cnt (fun i => decide (¬ q_S σ i = 0)) j + (if decide (¬ q_S σ j = 0) = true then 1 else 0) := rfl
    rw [e] at IH
    show f_X7_setOnes_4_b (f_X7_setOnes_4 f) _ _ _ = _
    unfold f_X7_setOnes_4_b f_X7_setOnes_25
    rw [if_neg (lge8 hj8), m_g_t (nI_in hj8 (by decide)), nI_clamp (by omega), (HXu.2.2.2.2.2.1 j hj8).1, nI_1]
    by_cases c : q_S σ j = 0
    · rw [if_neg (by simp [c])] at IH
      rw [if_pos ((pos_le (by omega)).mpr c), show (0 : Int32) = nI 0 from rfl, nI_add]
      exact IH
    · rw [if_pos (by simp [c])] at IH
      rw [if_neg (fun q => c ((pos_le (by omega)).mp q)), nI_1]
      exact IH
theorem X_ones (hG : qG σ) (HXu : HX u σ) : f_X7_setOnes u = some (nI (nb_cnt (fun i => decide (¬ q_S σ i = 0)) 8), u) := X_ones_loop hG HXu 8 m_N 0 (by decide) rfl
theorem C_ones {ca ra ia ad : Nat → Nat} (H : HC w ρ t0.1 h σ ca ra ia ad) (hG : qG σ) {na : Nat} (n3 : NM w ρ na 21 (q_V σ) (fun i => nI (q_S σ i))) : e_X2_howManySet w na = some (nI (nb_cnt (fun i => decide (¬ q_S σ i = 0)) 8), w) := by
  have hn := hG.2.2.2.1
  rw [NM_howMany n3]
  congr 3
  apply nb_cnt_cong
  intro k hk
  have hS : q_S σ k ≤ q_n σ := (hG.2.2.2.2.1.1 k hk).1
  apply z_bool_ext
  rw [decide_eq_true_eq, decide_eq_true_eq]
  constructor
  · intro q e
    exact q (by rw [e]; exact nI_0)
  · intro q
    exact nI_ne0 (by omega) (by omega)
/-- the state with other names and last runs of now -/
def z_now (σ : qS) (x : qN) : qS := (q_N σ, q_O σ, q_P σ, q_C σ, q_R σ, x, σ.2.2.2.2.2.2)
theorem z_now_G (hG : qG σ) {x : qN} (hx : nG (q_N σ) (q_n σ) (q_r σ) x) : qG (z_now σ x) := by
  obtain ⟨g1, g2, g3, g4, g5, g6, g7, g8, g9⟩ := hG
  exact ⟨g1, g2, g3, g4, hx, g6, g7, g8, g9⟩
theorem z_now_X {u' : xS} {x : qN} (HXu : HX u σ) (r1 : ∀ j, j < 25 → u'.1 j = u.1 j) (r2 : ∀ j, j < 25 → j ≠ 8 → j ≠ 10 → j ≠ 11 → j ≠ 20 → u'.2 j = u.2 j) (r3 : ∀ i, 8 ≤ i → u'.2 20 i = u.2 20 i) (r4 : ∀ k, k < 16 → u'.2 8 k = nI (x.2.2 k)) (r5 : ∀ i, i < 8 → u'.2 11 i = nI (x.2.1 i) ∧ (x.2.1 i ≠ 0 → u'.2 10 i = x.1 i)) : HX u' (z_now σ x) := by
  obtain ⟨⟨a1, a2, a3⟩, b1, b2, b3, b4, b5, b6, b7, ⟨b8, b8'⟩, b9⟩ := HXu
  refine ⟨⟨by rw [r1 _ (by decide)]; exact a1, by rw [r1 _ (by decide)]; exact a2, by rw [r1 _ (by decide)]; exact a3⟩, fun k hk => ?_, fun k hk => ?_, fun k h1 h2 => ?_, r4, fun i hi => ?_, fun i hi => ?_, fun i h1 h2 => ?_, ⟨?_, ?_⟩, fun i hi => ?_⟩
  · rw [r2 _ (by decide) (by decide) (by decide) (by decide) (by decide)]; exact b1 k hk
  · rw [r2 2 (by decide) (by decide) (by decide) (by decide) (by decide), r2 7 (by decide) (by decide) (by decide) (by decide) (by decide), r2 9 (by decide) (by decide) (by decide) (by decide) (by decide), r2 3 (by decide) (by decide) (by decide) (by decide) (by decide), r2 4 (by decide) (by decide) (by decide) (by decide) (by decide), r2 5 (by decide) (by decide) (by decide) (by decide) (by decide), r2 6 (by decide) (by decide) (by decide) (by decide) (by decide)]; exact b2 k hk
  · rw [r2 2 (by decide) (by decide) (by decide) (by decide) (by decide), r2 7 (by decide) (by decide) (by decide) (by decide) (by decide), r2 9 (by decide) (by decide) (by decide) (by decide) (by decide)]; exact b3 k h1 h2
  · rw [r2 12 (by decide) (by decide) (by decide) (by decide) (by decide)]
    exact ⟨(r5 i hi).1, (r5 i hi).2, (b5 i hi).2.2⟩
  · obtain ⟨c1, c2, c3, c4, c5, c6, c7⟩ := b6 i hi
    rw [r2 14 (by decide) (by decide) (by decide) (by decide) (by decide), r2 15 (by decide) (by decide) (by decide) (by decide) (by decide), r2 16 (by decide) (by decide) (by decide) (by decide) (by decide), r2 17 (by decide) (by decide) (by decide) (by decide) (by decide), r2 18 (by decide) (by decide) (by decide) (by decide) (by decide), r2 19 (by decide) (by decide) (by decide) (by decide) (by decide)]
    exact ⟨c1, c2, c3, c4, c5, c6, fun j hj => by rw [r3 _ (by omega)]; exact c7 j hj⟩
  · rw [r2 _ (by decide) (by decide) (by decide) (by decide) (by decide)]; exact b7 i h1 h2
  · rw [r2 _ (by decide) (by decide) (by decide) (by decide) (by decide)]; exact b8
  · rw [r2 _ (by decide) (by decide) (by decide) (by decide) (by decide)]; exact b8'
  · rw [r2 23 (by decide) (by decide) (by decide) (by decide) (by decide), r2 22 (by decide) (by decide) (by decide) (by decide) (by decide), r2 24 (by decide) (by decide) (by decide) (by decide) (by decide)]; exact b9 i hi
theorem HC_setNow {ca ra ia ad : Nat → Nat} {w' : mW} {ρ' : Nat → Nat} {S : Nat → Prop} (H : HC w ρ t0.1 h σ ca ra ia ad) (hG : qG σ) (g : ch S w ρ w' ρ') (hS : ∀ q, S q → 20 ≤ q ∧ q < 25) {x : qN} (hx : SEN w' ρ' (ad 5) 20 x) : HC w' ρ' t0.1 h (z_now σ x) ca ra ia ad := by
  have hs : ∀ q, (q < 20 ∨ 25 ≤ q) → ¬ S q := fun q h1 h2 => by have := hS q h2; omega
  obtain ⟨a0, b1, b2, b3, b4, b5, b6, b7, b8, b9, b10, b11⟩ := H
  exact ⟨p0 a0 g (hs _ (by omega)) (hs _ (by omega)), pAL b1 g (hs _ (by omega)) (hs _ (by omega)) (hs _ (by omega)), pAL b2 g (hs _ (by omega)) (hs _ (by omega)) (hs _ (by omega)), pAL b3 g (hs _ (by omega)) (hs _ (by omega)) (hs _ (by omega)), pAL b4 g (hs _ (by omega)) (hs _ (by omega)) (hs _ (by omega)), pAL b5 g (hs _ (by omega)) (hs _ (by omega)) (hs _ (by omega)),
    hx, pNM b7 g (hs _ (by omega)) (hs _ (by omega)) (hs _ (by omega)), pAT0 b8 g (fun q z1 z2 => hs q (by omega)), pCEs b9 (fun k hk => (hG.2.2.1 k hk).1) hG.1 g (hs _ (by omega)) (fun q z1 z2 => hs q (by omega)) (fun q z1 z2 => hs q (by omega)), pRUs b10 g (fun q z1 z2 => hs q (by omega)), pIMs b11 hG.2.2.2.2.2.2.2.1 g (fun q z1 z2 => hs q (by omega))⟩
theorem J_end (J : JI w ρ t0.1 h σ u) : JN w ρ t0.1 h (q_n σ) (e_X6_end w h) (f_X7_end u) := by
  obtain ⟨hG, HXu, ca, ra, ia, ad, H⟩ := id J
  obtain ⟨na, la, n1, n2, n3, n4, n5, n6, n7⟩ := id (HC_now H)
  obtain ⟨w1, q1, q2, q3⟩ := NM_unsetAll n4
  have X : ∀ (d f j : Nat) (v : xS), d < f → j + d = 8 → (v.1 = u.1 ∧ (∀ t, t ≠ 11 → v.2 t = u.2 t) ∧ ∀ i, i < 8 → i < j → v.2 11 i = 0) → ∃ v', f_X7_end_7 f v (nI (nb_cnt (fun i => decide (¬ q_S σ i = 0)) 8)) (nI j) = some (nI (nb_cnt (fun i => decide (¬ q_S σ i = 0)) 8), x_sI v' 31 0) ∧ (v'.1 = u.1 ∧ (∀ t, t ≠ 11 → v'.2 t = u.2 t) ∧ ∀ i, i < 8 → v'.2 11 i = 0) := by
    intro d
    induction d with
    | zero =>
      intro f j v hf hj hv
      obtain ⟨f, rfl⟩ : ∃ q, f = q + 1 := ⟨f - 1, by omega⟩
      have hj8 : j = 8 := by omega
      subst hj8
      refine ⟨v, ?_, hv.1, hv.2.1, fun i hi => hv.2.2 i hi hi⟩
      show f_X7_end_7_b (f_X7_end_7 f) _ _ _ = _
      unfold f_X7_end_7_b
      rw [if_pos (by decide +kernel), X_told, m_b_s]
    | succ d ih =>
      intro f j v hf hj hv
      obtain ⟨f, rfl⟩ : ∃ q, f = q + 1 := ⟨f - 1, by omega⟩
      have hj8 : j < 8 := by omega
      obtain ⟨v', y1, y2⟩ := ih f (j + 1) (x_sA v 11 j 0) (by omega) (by omega) ⟨hv.1, fun t ht => by rw [xA_n ht]; exact hv.2.1 t ht, fun i hi hij => by
        rw [xA_s]
        by_cases e : i = j
        · subst e; rw [pk_us]
        · rw [pk_un e]; exact hv.2.2 i hi (by omega)⟩
      refine ⟨v', ?_, y2⟩
      show f_X7_end_7_b (f_X7_end_7 f) _ _ _ = _
      unfold f_X7_end_7_b
      rw [if_neg (lge8 hj8), m_g_t (nI_in hj8 (by decide)), m_l_s, nI_clamp (by omega), nI_1]
      exact y1
  obtain ⟨v', y1, y2, y3, y4⟩ := X 8 m_N 0 u (by decide) rfl ⟨rfl, fun _ _ => rfl, fun i _ hi => absurd hi (by omega)⟩
  have a0 := H.1
  have S1 : SEN w1 ρ (ad 5) 20 ((fun _ => 0), (fun _ => 0), q_L σ) := by
    obtain ⟨-, s2, -, -, -⟩ := tg_sm n1 q3 (by unfold Sr; omega)
    obtain ⟨-, -, s3, -, -⟩ := tg_sm n5 q3 (by unfold Sr; omega)
    exact ⟨na, la, tg_ch n1 q3, (s2 _ _).trans n2, (s2 _ _).trans n3, q2, tg_ch n5 q3, (tg_ln n5 q3).trans n6, fun i hi => by rw [s3]; exact n7 i hi⟩
  refine ⟨w1, ρ, nI (nb_cnt (fun i => decide (¬ q_S σ i = 0)) 8), x_sI v' 31 0, z_now σ ((fun _ => 0), (fun _ => 0), q_L σ), ?_, ?_, ⟨z_now_G hG ⟨fun i hi => ⟨Nat.zero_le _, fun _ => rfl⟩, hG.2.2.2.2.1.2⟩, z_now_X HXu ?_ ?_ ?_ ?_ ?_, ca, ra, ia, ad, HC_setNow H hG q3 (fun q hq => by unfold Sr at hq; omega) S1⟩, Nat.le_refl _, ch_mono q3 (fun q hq => by unfold SC; unfold Sr at hq; omega)⟩
  · unfold e_X6_end
    rw [m_g_t (HC_kd H), HC_fr H (by decide), m_o_s, m_g_t n1.1, n2, m_o_s, m_g_t (NM_kd n4).1, C_ones H hG n4, m_b_s, m_g_t (HC_kd H), HC_fr H (by decide), m_o_s, m_g_t n1.1, n2, m_o_s, m_g_t (NM_kd n4).1, q1, m_b_s]
  · unfold f_X7_end
    rw [X_ones hG HXu, m_b_s]
    exact y1
  · intro j hj
    rw [xI_n (by omega), y2]
  · intro j _ _ _ j11 _
    exact y3 j j11
  · intro i _
    show v'.2 20 i = _
    rw [y3 20 (by decide)]
  · intro k hk
    show v'.2 8 k = _
    rw [y3 8 (by decide)]
    exact HXu.2.2.2.2.1 k hk
  · intro i hi
    exact ⟨y4 i hi, fun q => absurd rfl q⟩
theorem J_restore (J : JI w ρ t0.1 h σ u) (p : Int32) : JG w ρ t0.1 h (q_n σ) [(IOB, 1)] (e_X6_restore w h p) (f_X7_restore u p) := by
  obtain ⟨hG, HXu, ca, ra, ia, ad, H⟩ := id J
  have hm := hG.2.2.2.2.2.2.2.1
  have hA := HC_a4 H
  unfold e_X6_restore f_X7_restore e_X6_restore_15
  rw [HXu.1.2.2]
  rcases X_ix (p := p) (n := q_m σ) (by omega) with hp | ⟨i, hi, rfl⟩
  · rw [X_inN (by omega) hp, m_b_s, X_goes0, m_b_s, if_pos rfl]
    refine JG_err J ?_ rfl xs_rfl (List.mem_cons_self ..)
    by_cases c : p < 0
    · rw [if_pos c]; rfl
    · rw [if_neg c, m_g_t (HC_kd H), HC_fr H (by decide), m_o_s, m_g_t (AL_k3 hA), AL_size2 hA, m_b_s, if_neg (fun q => Int32.not_le.mpr q (hp.resolve_left c))]; rfl
  have hI := hG.2.2.2.2.2.2.2.2 i hi
  obtain ⟨r1, r2⟩ := HXu.2.2.2.2.2.2.2.2.2 i hi
  have SI : SEN w ρ (ia i) (200 + 5 * i) (q_I σ i) := H.2.2.2.2.2.2.2.2.2.2.2 i hi
  have S0 := HC_now H
  obtain ⟨w1, q1, q2, q3⟩ := SE_becomeLike (by omega) S0 SI
  have Hn : HC w1 ρ t0.1 h (z_now σ (q_I σ i)) ca ra ia ad := HC_setNow H hG q3 (fun q hq => by unfold Sr at hq; omega) q2
  have hGn : qG (z_now σ (q_I σ i)) := z_now_G hG hI
  obtain ⟨na, n1, n2, n3⟩ := HC_nm Hn
  -- the reference's two loops
  have X2 : ∀ (d f j : Nat) (v : xS), d < f → j + d = 16 → (v.1 = (x_sI u 31 0).1 ∧ (∀ t, t ≠ 8 → t ≠ 10 → t ≠ 11 → v.2 t = u.2 t) ∧ ∀ k, k < 16 → k < j → v.2 8 k = nI ((q_I σ i).2.2 k)) → ∃ v', f_X7_restore_72 f v (nI i) (nI j) = (m_b (f_X7_setOnes v') fun r216 u217 => some (r216, u217)) ∧ v'.1 = v.1 ∧ (∀ t, t ≠ 8 → v'.2 t = v.2 t) ∧ ∀ k, k < 16 → v'.2 8 k = nI ((q_I σ i).2.2 k) := by
    intro d
    induction d with
    | zero =>
      intro f j v hf hj hv
      obtain ⟨f, rfl⟩ : ∃ q, f = q + 1 := ⟨f - 1, by omega⟩
      have hj8 : j = 16 := by omega
      subst hj8
      refine ⟨v, ?_, rfl, fun _ _ => rfl, fun k hk => hv.2.2 k hk hk⟩
      show f_X7_restore_72_b (f_X7_restore_72 f) _ _ _ = _
      unfold f_X7_restore_72_b
      rw [if_pos (by decide +kernel)]
    | succ d ih =>
      intro f j v hf hj hv
      obtain ⟨f, rfl⟩ : ∃ q, f = q + 1 := ⟨f - 1, by omega⟩
      have hj8 : j < 16 := by omega
      have e24 : v.2 24 (16 * i + j) = nI ((q_I σ i).2.2 j) := by rw [hv.2.1 24 (by decide) (by decide) (by decide)]; exact r2 j hj8
      have e16 : 16 * nI i + nI j = nI (16 * i + j) := by rw [show (16 : Int32) = nI 16 from rfl, pk_mul, nI_add]
      obtain ⟨v', y1, y2, y3, y4⟩ := ih f (j + 1) (x_sA v 8 j (nI ((q_I σ i).2.2 j))) (by omega) (by omega) ⟨hv.1, fun t t8 t10 t11 => by rw [xA_n t8]; exact hv.2.1 t t8 t10 t11, fun k hk hkj => by
        rw [xA_s]
        by_cases e : k = j
        · subst e; rw [pk_us]
        · rw [pk_un e]; exact hv.2.2 k hk (by omega)⟩
      refine ⟨v', ?_, y2, fun t ht => by rw [y3 t ht, xA_n ht], y4⟩
      show f_X7_restore_72_b (f_X7_restore_72 f) _ _ _ = _
      unfold f_X7_restore_72_b
      rw [if_neg (lge16 hj8), e16, m_g_t (nI_in (by omega) (by decide)), m_g_t (nI_in hj8 (by decide)), m_l_s, nI_clamp (by omega), nI_clamp (by omega), e24, nI_1]
      exact y1
  have X1 : ∀ (d f j : Nat) (v : xS), d < f → j + d = 8 → (v.1 = (x_sI u 31 0).1 ∧ (∀ t, t ≠ 10 → t ≠ 11 → v.2 t = u.2 t) ∧ ∀ k, k < 8 → k < j → v.2 11 k = nI ((q_I σ i).2.1 k) ∧ ((q_I σ i).2.1 k ≠ 0 → v.2 10 k = (q_I σ i).1 k)) → ∃ v', f_X7_restore_24 f v (nI i) (nI j) = f_X7_restore_72 m_N v' (nI i) 0 ∧ v'.1 = (x_sI u 31 0).1 ∧ (∀ t, t ≠ 10 → t ≠ 11 → v'.2 t = u.2 t) ∧ ∀ k, k < 8 → v'.2 11 k = nI ((q_I σ i).2.1 k) ∧ ((q_I σ i).2.1 k ≠ 0 → v'.2 10 k = (q_I σ i).1 k) := by
    intro d
    induction d with
    | zero =>
      intro f j v hf hj hv
      obtain ⟨f, rfl⟩ : ∃ q, f = q + 1 := ⟨f - 1, by omega⟩
      have hj8 : j = 8 := by omega
      subst hj8
      refine ⟨v, ?_, hv.1, hv.2.1, fun k hk => hv.2.2 k hk hk⟩
      show f_X7_restore_24_b (f_X7_restore_24 f) _ _ _ = _
      unfold f_X7_restore_24_b
      rw [if_pos (by decide +kernel)]
    | succ d ih =>
      intro f j v hf hj hv
      obtain ⟨f, rfl⟩ : ∃ q, f = q + 1 := ⟨f - 1, by omega⟩
      have hj8 : j < 8 := by omega
      have e8 : 8 * nI i + nI j = nI (8 * i + j) := by rw [show (8 : Int32) = nI 8 from rfl, pk_mul, nI_add]
      obtain ⟨v', y1, y2⟩ := ih f (j + 1) (x_sA (x_sA v 10 j (v.2 22 (8 * i + j))) 11 j (v.2 23 (8 * i + j))) (by omega) (by omega) ⟨hv.1, fun t t10 t11 => by rw [xA_n t11, xA_n t10]; exact hv.2.1 t t10 t11, fun k hk hkj => by
        rw [xA_s, xA_n (t := 10) (by decide), xA_s, hv.2.1 22 (by decide) (by decide), hv.2.1 23 (by decide) (by decide)]
        by_cases e : k = j
        · subst e; rw [pk_us, pk_us]; exact r1 k hk
        · rw [pk_un e, xA_n (by decide), pk_un e]; exact hv.2.2 k hk (by omega)⟩
      refine ⟨v', ?_, y2⟩
      show f_X7_restore_24_b (f_X7_restore_24 f) _ _ _ = _
      unfold f_X7_restore_24_b
      rw [if_neg (lge8 hj8), e8, m_g_t (nI_in (by omega) (by decide)), m_g_t (nI_in hj8 (by decide)), m_l_s, m_g_t (nI_in (by omega) (by decide)), m_g_t (nI_in hj8 (by decide)), m_l_s, nI_clamp (by omega), nI_clamp (by omega), xA_n (t := 23) (by decide), nI_1]
      exact y1
  obtain ⟨v1, y1, y2, y3, y4⟩ := X1 8 m_N 0 (x_sI u 31 0) (by decide) rfl ⟨rfl, fun _ _ _ => rfl, fun k _ hk => absurd hk (by omega)⟩
  obtain ⟨v2, z1, z2, z3, z4⟩ := X2 16 m_N 0 v1 (by decide) rfl ⟨y2, fun t _ t10 t11 => y3 t t10 t11, fun k _ hk => absurd hk (by omega)⟩
  have y1' : f_X7_restore_24 m_N (x_sI u 31 0) (nI i) 0 = f_X7_restore_72 m_N v1 (nI i) 0 := y1
  have z1' : f_X7_restore_72 m_N v1 (nI i) 0 = (m_b (f_X7_setOnes v2) fun r216 u217 => some (r216, u217)) := z1
  have HXn : HX v2 (z_now σ (q_I σ i)) := z_now_X HXu (fun j hj => by rw [z2, y2]; exact xI_n (by omega)) (fun j _ j8 j10 j11 _ => by rw [z3 j j8, y3 j j10 j11]) (fun i _ => by rw [z3 20 (by decide), y3 20 (by decide) (by decide)]) z4 (fun k hk => by rw [z3 11 (by decide), z3 10 (by decide)]; exact y4 k hk)
  rw [if_neg (nI_pos (by omega)), m_g_t (HC_kd H), HC_fr H (by decide), m_o_s, m_g_t (AL_k3 hA), AL_size2 hA, m_b_s, if_pos (nI_lt hi (by omega)), m_g_t (HC_kd H), HC_fr H (by decide), m_o_s, HC_fr H (by decide), m_o_s, m_g_t (AL_k3 hA), AL_get2 hA hi, m_b_s, m_g_t (SE_kd SI).1, m_g_t (SE_kd S0).1, q1, m_b_s, m_g_t (HC_kd Hn), HC_fr Hn (by decide), m_o_s, m_g_t n1, n2, m_o_s, m_g_t (NM_kd n3).1, C_ones Hn hGn n3, m_b_s,
    X_inY hi (by omega), m_b_s, X_goes1, m_b_s, if_neg nb_10, y1', z1', X_ones hGn HXn, m_b_s]
  exact JG_do rfl rfl (by rw [z2, y2]; exact xI_s) hGn HXn Hn (ch_mono q3 (fun q hq => by unfold SC; unfold Sr at hq; omega))
end JD
