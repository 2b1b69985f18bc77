/-! one cell is changed -/
def z_cell (σ : qS) (c : Nat) (P : List nS) (C : Nat) (R : Nat → Nat) : qS := (q_N σ, q_O σ, va_up (q_P σ) c P, va_up (q_C σ) c C, va_up (q_R σ) c R, σ.2.2.2.2.2)
section JC
variable {w w' : mW} {ρ ρ' : Nat → Nat} {t0 : Nat × Nat × Nat × Nat} {h : Nat} {σ : qS} {u : xS} {ca ra ia ad : Nat → Nat}
theorem HC_setCell {S : Nat → Prop} (H : HC w ρ t0.1 h σ ca ra ia ad) (hG : qG σ) {c : Nat} (hc : c < q_N σ) (g : ch S w ρ w' ρ') (hS : ∀ q, S q → (100 + 4 * c ≤ q ∧ q < 104 + 4 * c) ∨ (2000 + 6 * c ≤ q ∧ q < 2006 + 6 * c)) {P : List nS} {C : Nat} {R : Nat → Nat} (hn : CEP w' ρ' t0.1 (ca c) c P C R) : HC w' ρ' t0.1 h (z_cell σ c P C R) ca ra ia ad := by
  have hN := hG.1
  have hs : ∀ q, (q < 100 ∨ 164 ≤ q) → (q < 2000 ∨ 2096 ≤ q) → ¬ S q := fun q h1 h2 h3 => by have := hS q h3; omega
  obtain ⟨a0, b1, b2, b3, b4, b5, b6, b7, b8, b9, b10, b11⟩ := H
  have hm := hG.2.2.2.2.2.2.2.1
  refine ⟨p0 a0 g (hs _ (by omega) (by omega)) (hs _ (by omega) (by omega)), pAL b1 g (hs _ (by omega) (by omega)) (hs _ (by omega) (by omega)) (hs _ (by omega) (by omega)), pAL b2 g (hs _ (by omega) (by omega)) (hs _ (by omega) (by omega)) (hs _ (by omega) (by omega)), pAL b3 g (hs _ (by omega) (by omega)) (hs _ (by omega) (by omega)) (hs _ (by omega) (by omega)), pAL b4 g (hs _ (by omega) (by omega)) (hs _ (by omega) (by omega)) (hs _ (by omega) (by omega)), pAL b5 g (hs _ (by omega) (by omega)) (hs _ (by omega) (by omega)) (hs _ (by omega) (by omega)),
    pSEN b6 g (fun q z1 z2 => hs q (by omega) (by omega)), pNM b7 g (hs _ (by omega) (by omega)) (hs _ (by omega) (by omega)) (hs _ (by omega) (by omega)), pAT0 b8 g (fun q z1 z2 => hs q (by omega) (by omega)), fun k hk => ?_, pRUs b10 g (fun q z1 z2 => hs q (by omega) (by omega)), pIMs b11 hm g (fun q z1 z2 => hs q (by omega) (by omega))⟩
  show CEP w' ρ' t0.1 (ca k) k (va_up (q_P σ) c P k) (va_up (q_C σ) c C k) (va_up (q_R σ) c R k)
  by_cases e : k = c
  · subst e
    rw [va_up_s, va_up_s, va_up_s]
    exact hn
  · rw [va_up_n e, va_up_n e, va_up_n e]
    have hk2 : k < q_N σ := hk
    exact CEP_ch (b9 k hk) g (hG.2.2.1 k hk).1 (hs _ (by omega) (by omega)) (fun q z1 z2 z3 => by have := hS q z3; omega) (fun q z1 z2 z3 => by have := hS q z3; omega)
theorem z_cell_G (hG : qG σ) {c : Nat} {P : List nS} {C : Nat} {R : Nat → Nat} (h1 : P.length ≤ 6) (h2 : ∀ x ∈ P, a_okS x) (h3 : C ≤ q_n σ) (h4 : R 0 = 3) (h5 : ∀ j, j < 5 → R j ≤ 3) : qG (z_cell σ c P C R) := by
  obtain ⟨g1, g2, g3, g4, g5, g6, g7, g8, g9⟩ := hG
  refine ⟨g1, g2, fun k hk => ?_, g4, g5, g6, g7, g8, g9⟩
  show (va_up (q_P σ) c P k).length ≤ 6 ∧ (∀ x ∈ va_up (q_P σ) c P k, a_okS x) ∧ va_up (q_C σ) c C k ≤ q_n σ ∧ va_up (q_R σ) c R k 0 = 3 ∧ ∀ j, j < 5 → va_up (q_R σ) c R k j ≤ 3
  by_cases e : k = c
  · subst e
    rw [va_up_s, va_up_s, va_up_s]
    exact ⟨h1, h2, h3, h4, h5⟩
  · rw [va_up_n e, va_up_n e, va_up_n e]
    exact g3 k hk
theorem z_cell_X {u' : xS} (HXu : HX u σ) {c : Nat} {P : List nS} {C : Nat} {R : Nat → Nat} (r1 : ∀ j, j < 25 → u'.1 j = u.1 j) (r2 : ∀ j, j < 25 → j ≠ 2 → j ≠ 3 → j ≠ 4 → j ≠ 5 → j ≠ 6 → j ≠ 7 → j ≠ 9 → j ≠ 20 → u'.2 j = u.2 j) (r3 : ∀ i, 8 ≤ i → u'.2 20 i = u.2 20 i)
    (r4 : ∀ k, k < 16 → k ≠ c → u'.2 2 k = u.2 2 k ∧ u'.2 7 k = u.2 7 k ∧ (∀ j, j < 5 → u'.2 9 (16 * j + k) = u.2 9 (16 * j + k)) ∧ ∀ j, j < 6 → u'.2 3 (6 * k + j) = u.2 3 (6 * k + j) ∧ u'.2 4 (6 * k + j) = u.2 4 (6 * k + j) ∧ u'.2 5 (6 * k + j) = u.2 5 (6 * k + j) ∧ u'.2 6 (6 * k + j) = u.2 6 (6 * k + j))
    (hG : qG σ) (hc : c < q_N σ) (r5 : u'.2 2 c = nI P.length ∧ u'.2 7 c = nI C ∧ (∀ j, 1 ≤ j → j < 5 → u'.2 9 (16 * j + c) = nI (R j)) ∧ ∀ j (hj : j < P.length), u'.2 3 (6 * c + j) = nI P[j].1 ∧ u'.2 4 (6 * c + j) = nI P[j].2.1 ∧ u'.2 5 (6 * c + j) = nI P[j].2.2.1 ∧ u'.2 6 (6 * c + j) = nI P[j].2.2.2) : HX u' (z_cell σ c P C R) := by
  have hN := hG.1
  obtain ⟨⟨a1, a2, a3⟩, b1, b2, b3, b4, b5, b6, b7, ⟨b8, b8'⟩, b9⟩ := HXu
  have e : ∀ j, j < 25 → j ≠ 2 → j ≠ 3 → j ≠ 4 → j ≠ 5 → j ≠ 6 → j ≠ 7 → j ≠ 9 → j ≠ 20 → u'.2 j = u.2 j := r2
  refine ⟨⟨by rw [r1 _ (by decide)]; exact a1, by rw [r1 _ (by decide)]; exact a2, by rw [r1 _ (by decide)]; exact a3⟩, fun k hk => ?_, fun k hk => ?_, fun k h1 h2 => ?_, fun k hk => ?_, fun i hi => ?_, fun i hi => ?_, fun i h1 h2 => ?_, ⟨?_, ?_⟩, fun i hi => ?_⟩
  · rw [e _ (by decide) (by decide) (by decide) (by decide) (by decide) (by decide) (by decide) (by decide) (by decide)]; exact b1 k hk
  · show u'.2 2 k = nI (va_up (q_P σ) c P k).length ∧ u'.2 7 k = nI (va_up (q_C σ) c C k) ∧ (∀ j, 1 ≤ j → j < 5 → u'.2 9 (16 * j + k) = nI (va_up (q_R σ) c R k j)) ∧ ∀ j (hj : j < (va_up (q_P σ) c P k).length), u'.2 3 (6 * k + j) = nI (va_up (q_P σ) c P k)[j].1 ∧ u'.2 4 (6 * k + j) = nI (va_up (q_P σ) c P k)[j].2.1 ∧ u'.2 5 (6 * k + j) = nI (va_up (q_P σ) c P k)[j].2.2.1 ∧ u'.2 6 (6 * k + j) = nI (va_up (q_P σ) c P k)[j].2.2.2
    have hk2 : k < q_N σ := hk
    by_cases ec : k = c
    · subst ec
      simp only [va_up_s]
      exact r5
    · simp only [va_up_n ec]
      obtain ⟨s1, s2, s3, s4⟩ := r4 k (by omega) ec
      obtain ⟨m1, m2, m3, m4⟩ := b2 k hk2
      have hl := (hG.2.2.1 k hk2).1
      refine ⟨s1.trans m1, s2.trans m2, fun j j1 j2 => (s3 j j2).trans (m3 j j1 j2), fun j hj => ?_⟩
      obtain ⟨v1, v2, v3, v4⟩ := s4 j (by omega)
      obtain ⟨x1, x2, x3, x4⟩ := m4 j hj
      exact ⟨v1.trans x1, v2.trans x2, v3.trans x3, v4.trans x4⟩
  · have h1' : q_N σ ≤ k := h1
    obtain ⟨s1, s2, s3, s4⟩ := r4 k h2 (by omega)
    obtain ⟨m1, m2, m3⟩ := b3 k h1 h2
    exact ⟨s1.trans m1, s2.trans m2, fun j j1 j2 => (s3 j j2).trans (m3 j j1 j2)⟩
  · rw [e _ (by decide) (by decide) (by decide) (by decide) (by decide) (by decide) (by decide) (by decide) (by decide)]; exact b4 k hk
  · rw [e 11 (by decide) (by decide) (by decide) (by decide) (by decide) (by decide) (by decide) (by decide) (by decide), e 10 (by decide) (by decide) (by decide) (by decide) (by decide) (by decide) (by decide) (by decide) (by decide), e 12 (by decide) (by decide) (by decide) (by decide) (by decide) (by decide) (by decide) (by decide) (by decide)]; exact b5 i hi
  · obtain ⟨c1, c2, c3, c4, c5, c6, c7⟩ := b6 i hi
    rw [e 14 (by decide) (by decide) (by decide) (by decide) (by decide) (by decide) (by decide) (by decide) (by decide), e 15 (by decide) (by decide) (by decide) (by decide) (by decide) (by decide) (by decide) (by decide) (by decide), e 16 (by decide) (by decide) (by decide) (by decide) (by decide) (by decide) (by decide) (by decide) (by decide), e 17 (by decide) (by decide) (by decide) (by decide) (by decide) (by decide) (by decide) (by decide) (by decide), e 18 (by decide) (by decide) (by decide) (by decide) (by decide) (by decide) (by decide) (by decide) (by decide), e 19 (by decide) (by decide) (by decide) (by decide) (by decide) (by decide) (by decide) (by decide) (by decide)]
    exact ⟨c1, c2, c3, c4, c5, c6, fun j hj => by rw [r3 _ (by omega)]; exact c7 j hj⟩
  · rw [e _ (by decide) (by decide) (by decide) (by decide) (by decide) (by decide) (by decide) (by decide) (by decide)]; exact b7 i h1 h2
  · rw [e _ (by decide) (by decide) (by decide) (by decide) (by decide) (by decide) (by decide) (by decide) (by decide)]; exact b8
  · rw [e _ (by decide) (by decide) (by decide) (by decide) (by decide) (by decide) (by decide) (by decide) (by decide)]; exact b8'
  · rw [e 23 (by decide) (by decide) (by decide) (by decide) (by decide) (by decide) (by decide) (by decide) (by decide), e 22 (by decide) (by decide) (by decide) (by decide) (by decide) (by decide) (by decide) (by decide) (by decide), e 24 (by decide) (by decide) (by decide) (by decide) (by decide) (by decide) (by decide) (by decide) (by decide)]; exact b9 i hi
theorem JG_do {u' : xS} {σ' : qS} {cs : List (String × Int32)} {e : Option ((Int32 ⊕ String) × mW)} {f : Option (Int32 × xS)} {b : Int32} (he : e = some (.inl b, w')) (hf : f = some (b, u')) (h0 : u'.1 31 = 0) (hG : qG σ') (hX : HX u' σ') (hH : HC w' ρ' t0.1 h σ' ca ra ia ad) (g : ch SC w ρ w' ρ') (hq : q_n σ ≤ q_n σ' := by exact Nat.le_refl _) : JG w ρ t0.1 h (q_n σ) cs e f :=
  ⟨.inl b, w', ρ', b, u', σ', he, hf, ⟨fun r hr => by cases hr; exact ⟨h0, rfl⟩, fun F hF => (nomatch hF)⟩, ⟨hG, hX, ca, ra, ia, ad, hH⟩, hq, g⟩
theorem X_in_any {p a c : Int32} : ∃ b, f_X7_in u p a c = some (b, u) := by
  unfold f_X7_in f_X7_in_14 f_X7_in_15
  by_cases c1 : p < a
  · rw [if_pos c1, m_g_t vb0]; exact ⟨_, rfl⟩
  · rw [if_neg c1]
    by_cases c2 : c < p
    · rw [if_pos c2, m_g_t vb0]; exact ⟨_, rfl⟩
    · rw [if_neg c2, m_g_t vb1]; exact ⟨_, rfl⟩
theorem X_in14 {i : Nat} (hi : i < 5) : f_X7_in u (nI i) 1 4 = some (if i = 0 then 0 else 1, u) := by
  unfold f_X7_in f_X7_in_14 f_X7_in_15
  by_cases c : i = 0
  · subst c
    rw [if_pos (by decide), m_g_t vb0, if_pos rfl]
  · rw [if_neg (show ¬ nI i < 1 from nI_nlt (b := 1) (by omega) (by omega)), if_neg (show ¬ (4 : Int32) < nI i from nI_nlt (a := 4) (by omega) (by decide)), m_g_t vb1, if_neg c]
theorem X_in14N {p : Int32} (hp : p < 0 ∨ nI 5 ≤ p) : f_X7_in u p 1 4 = some (0, u) := by
  unfold f_X7_in f_X7_in_14 f_X7_in_15
  by_cases c : p < 1
  · rw [if_pos c, m_g_t vb0]
  · rw [if_neg c]
    have h5 : nI 5 ≤ p := hp.resolve_left (fun q => c (Int32.lt_trans q (by decide)))
    rw [if_pos (show (4 : Int32) < p from Int32.lt_of_lt_of_le (by decide) h5), m_g_t vb0]
theorem J_grant (J : JI w ρ t0.1 h σ u) (p0 p1 p2 : Int32) : JG w ρ t0.1 h (q_n σ) [(IOB, 1), (IAE, 2)] (e_X6_grant w h p0 p1 p2) (f_X7_grant u p0 p1 p2) := by
  obtain ⟨hG, HXu, ca, ra, ia, ad, H⟩ := id J
  have hN := hG.1
  obtain ⟨y, hy⟩ := X_in_any (u := u) (p := p2) (a := 0) (c := 3)
  unfold e_X6_grant f_X7_grant f_X7_grant_22 f_X7_grant_23 e_X6_grant_34
  rcases X_ix (p := p0) (n := 5) (by decide) with hp | ⟨i, hi, rfl⟩
  · rw [C_userN hp, m_t_x, X_in14N hp, m_b_s, if_pos rfl, hy, m_b_s, X_goes0, m_b_s, if_pos rfl]
    exact JG_err J rfl rfl xs_rfl (List.mem_cons_self ..)
  · rw [C_userY hi, m_t_s, m_g_t (HC_kd H), X_in14 hi, m_b_s]
    rcases X_ix (p := p1) (n := q_N σ) (by omega) with hp | ⟨k, hk, rfl⟩
    · rw [C_cellN H hp, m_t_x]
      by_cases c : i = 0
      · rw [if_pos c, if_pos rfl, hy, m_b_s, X_goes0, m_b_s, if_pos rfl]
        exact JG_err J rfl rfl xs_rfl (List.mem_cons_self ..)
      · rw [if_neg c, if_neg nb_10, X_cellN HXu.1.1 hN hp, m_b_s, if_pos rfl, hy, m_b_s, X_goes0, m_b_s, if_pos rfl]
        exact JG_err J rfl rfl xs_rfl (List.mem_cons_self ..)
    · rw [C_cellY H hG hk, m_t_s]
      by_cases c : i = 0
      · rw [if_pos c, if_pos rfl, hy, m_b_s, X_goes0, m_b_s, if_pos rfl, if_pos (by rw [c]; exact nI_0)]
        exact JG_err J rfl rfl xs_rfl (List.mem_cons_self ..)
      · rw [if_neg c, if_neg nb_10, X_cellY HXu.1.1 hk hN, m_b_s, if_neg nb_10, if_neg (nI_ne0 (by omega) (by omega))]
        rcases X_ix (p := p2) (n := 4) (by decide) with hq | ⟨x, hx, rfl⟩
        · rw [show (3 : Int32) = nI 4 - 1 by decide +kernel, X_inN (by decide) hq, m_b_s, X_goes10, m_b_s, if_pos rfl]
          refine JG_err J ?_ rfl xs_rfl (List.mem_cons_of_mem _ (List.mem_cons_self ..))
          by_cases c2 : p2 < 0
          · rw [if_pos c2]; rfl
          · rw [if_neg c2, if_neg (fun q => ?_)]; rfl
            have h4 := hq.resolve_left c2
            exact absurd (Int32.le_trans h4 q) (by decide)
        · have hrow : u.2 9 (16 * i + k) = nI (q_R σ k i) := (HXu.2.2.1 k hk).2.2.1 i (by omega) hi
          have ei : 16 * nI i + nI k = nI (16 * i + k) := by rw [show (16 : Int32) = nI 16 from rfl, pk_mul, nI_add]
          obtain ⟨Lp, d1, d2⟩ := HC_ce H hk
          obtain ⟨w1, q1, q2, q3⟩ := CE_giveRight d1 (by omega) hi (nI x)
          rw [if_neg (nI_pos (by omega)), if_pos (show nI x ≤ 3 from nI_le (b := 3) (by omega) (by decide)), m_g_t (HC_ck H hk), C_rightOf H hi hk, m_b_s, m_g_t (HC_ck H hk), q1, m_b_s,
            show (3 : Int32) = nI 4 - 1 by decide +kernel, X_inY hx (by decide), m_b_s, X_goes1, m_b_s, if_neg nb_10, ei, m_g_t (nI_in (by omega) (by decide)), m_g_t (nI_in (by omega) (by decide)), m_l_s, nI_clamp (by omega)]
          have e9 : (x_sI u 31 0).2 9 (16 * i + k) = nI (q_R σ k i) := hrow
          rw [e9]
          refine JG_do (σ' := z_cell σ k (q_P σ k) (q_C σ k) (va_up (q_R σ k) i x)) rfl rfl (show (x_sI u 31 0).1 31 = 0 from xI_s) (z_cell_G hG (hG.2.2.1 k hk).1 (hG.2.2.1 k hk).2.1 (hG.2.2.1 k hk).2.2.1 ?_ ?_) (z_cell_X HXu ?_ ?_ ?_ ?_ hG hk ⟨?_, ?_, ?_, ?_⟩) (HC_setCell H hG hk q3 (fun q hq => by omega) ⟨Lp, CE_cong q2 (fun j hj => ?_), STs_ch d2 q3 (fun j hj => by omega)⟩) (ch_mono q3 (fun q hq => by unfold SC; omega))
          · rw [va_up_n (by omega)]; exact (hG.2.2.1 k hk).2.2.2.1
          · intro j hj
            by_cases e : j = i
            · subst e; rw [va_up_s]; omega
            · rw [va_up_n e]; exact (hG.2.2.1 k hk).2.2.2.2 j hj
          · intro j hj
            show (x_sI u 31 0).1 j = _
            exact xI_n (by omega)
          · intro j _ _ _ _ _ _ _ j9 _
            rw [xA_n j9]; rfl
          · intro j _
            rw [xA_n (by decide)]; rfl
          · intro k2 hk2 hn
            rw [xA_n (t := 2) (by decide), xA_n (t := 7) (by decide), xA_n (t := 3) (by decide), xA_n (t := 4) (by decide), xA_n (t := 5) (by decide), xA_n (t := 6) (by decide)]
            refine ⟨rfl, rfl, fun j hj => ?_, fun j hj => ⟨rfl, rfl, rfl, rfl⟩⟩
            rw [xA_s, pk_un (by omega)]; rfl
          · rw [xA_n (by decide)]; exact (HXu.2.2.1 k hk).1
          · rw [xA_n (by decide)]; exact (HXu.2.2.1 k hk).2.1
          · intro j j1 j2
            rw [xA_s]
            by_cases e : j = i
            · subst e; rw [pk_us, va_up_s]
            · rw [pk_un (by omega), va_up_n e]; exact (HXu.2.2.1 k hk).2.2.1 j j1 j2
          · intro j hj
            rw [xA_n (by decide), xA_n (by decide), xA_n (by decide), xA_n (by decide)]
            exact (HXu.2.2.1 k hk).2.2.2 j hj
          · show upd (fun i => nI (q_R σ k i)) i (nI x) j = nI (va_up (q_R σ k) i x j)
            by_cases e : j = i
            · subst e; rw [pk_us, va_up_s]
            · rw [pk_un e, va_up_n e]
theorem J_clear (J : JI w ρ t0.1 h σ u) (p0 p1 : Int32) : JG w ρ t0.1 h (q_n σ) [(IOB, 1), (ISE, 2)] (e_X6_clear w h p0 p1) (f_X7_clear u p0 p1) := by
  obtain ⟨hG, HXu, ca, ra, ia, ad, H⟩ := id J
  have hN := hG.1
  have hn := hG.2.2.2.1
  unfold e_X6_clear f_X7_clear f_X7_clear_19 f_X7_clear_20 f_X7_clear_41 f_X7_clear_42 e_X6_clear_48
  rcases X_ix (p := p0) (n := 5) (by decide) with hp | ⟨i, hi, rfl⟩
  · rw [C_userN hp, m_t_x, X_userN hp, m_b_s, if_pos rfl, if_pos rfl, X_goes0, m_b_s, if_pos rfl]
    exact JG_err J rfl rfl xs_rfl (List.mem_cons_self ..)
  · rw [C_userY hi, m_t_s, m_g_t (HC_kd H), X_userY hi, m_b_s, if_neg nb_10]
    rcases X_ix (p := p1) (n := q_N σ) (by omega) with hp | ⟨k, hk, rfl⟩
    · rw [C_cellN H hp, m_t_x, X_cellN HXu.1.1 hN hp, m_b_s, if_pos rfl, if_pos rfl, X_goes0, m_b_s, if_pos rfl]
      exact JG_err J rfl rfl xs_rfl (List.mem_cons_self ..)
    · have hR := (hG.2.2.1 k hk).2.2.2.2 i hi
      rw [C_cellY H hG hk, m_t_s, show (3 : Int32) = nI 3 from rfl, C_right H hG hi hk (by decide), X_cellY HXu.1.1 hk hN, m_b_s, if_neg nb_10, if_neg nb_10, X_rightOf HXu hG hi hk, m_b_s]
      by_cases c : q_R σ k i < 3
      · rw [if_pos c, m_t_x, if_neg (fun q => by have := (nI_eq (by omega) (by decide)).mp q; omega), X_goes10, m_b_s, if_pos rfl]
        exact JG_err J rfl rfl xs_rfl (List.mem_cons_of_mem _ (List.mem_cons_self ..))
      · have e3 : q_R σ k i = 3 := by omega
        obtain ⟨Lp, d1, d2⟩ := HC_ce H hk
        obtain ⟨pa, pr, x1, x2, x3, x4, x5, x6, x7, x8, x9⟩ := id d1
        have hlen := (hG.2.2.1 k hk).1
        have hi16 := nI_in (c := k) (N := 16) (by omega) (by decide)
        obtain ⟨m1, m2, m3, m4⟩ := HXu.2.2.1 k hk
        rw [if_neg c, m_t_s, m_g_t x1.1, x3, m_o_s, m_g_t (AL_k3 x6), AL_size x6, m_b_s, d2.1, if_pos (show nI (q_R σ k i) = nI 3 by rw [e3]), X_goes1, m_b_s, if_neg nb_10, m_g_t hi16, m_g_t hi16, m_l_s, nI_clamp (by omega)]
        have r2 : (x_sI u 31 0).2 2 k = nI (q_P σ k).length := m1
        rw [r2]
        by_cases c0 : (q_P σ k).length = 0
        · rw [if_pos ((pos_le (by omega)).mpr c0), if_pos ((pos_le (by omega)).mpr c0), m_g_t (nI_in2 (by omega) (by decide))]
          unfold f_X7_clear_89
          rw [m_g_t (nI_in (by omega) (by decide)), m_l_s, nI_clamp (by omega)]
          have hx : xs u (x_sA (x_sA (x_sI u 31 0) 2 k 0) 7 k ((x_sA (x_sI u 31 0) 2 k 0).2 7 k)) := by
            refine ⟨fun j hj => ⟨?_, fun j20 => ?_⟩, fun j hj => ?_⟩
            · show (x_sI u 31 0).1 j = _
              exact xI_n (by omega)
            · by_cases e7 : j = 7
              · subst e7
                funext a
                rw [xA_s]
                by_cases ea : a = k
                · subst ea; rw [pk_us, xA_n (by decide)]; rfl
                · rw [pk_un ea, xA_n (by decide)]; rfl
              · rw [xA_n e7]
                by_cases e2 : j = 2
                · subst e2
                  funext a
                  rw [xA_s]
                  by_cases ea : a = k
                  · subst ea; rw [pk_us, m1, c0]; rfl
                  · rw [pk_un ea]; rfl
                · rw [xA_n e2]; rfl
            · rw [xA_n (by decide), xA_n (by decide)]; rfl
          exact JG_ok J rfl rfl hx (show (x_sI u 31 0).1 31 = 0 from xI_s)
        · have c0' : Lp ≠ [] := fun q => by
            have := d2.1
            rw [q] at this
            exact c0 this.symm
          obtain ⟨w1, q1, q2, q3⟩ := AL_clear x6 c0'
          have y1 := tg_ch x1 q3
          obtain ⟨s1, s2, -, -, -⟩ := tg_sm x1 q3 (by unfold S2; omega)
          obtain ⟨-, -, s3, -, -⟩ := tg_sm x7 q3 (by unfold S2; omega)
          have a0 := p0 H.1 q3
          have A2 := pAL (HC_a2 H) q3
          rw [if_neg (fun q => c0 ((pos_le (by omega)).mp q)), if_neg (fun q => c0 ((pos_le (by omega)).mp q)), m_g_t x1.1, x3, m_o_s, m_g_t (AL_k3 x6), q1, m_b_s, m_g_t a0.1.1, a0.2.1 2 (by decide), m_o_s, m_g_t (AL_k3 A2), AL_size2 A2, m_b_s, m_g_t y1.1, m_l_s]
          unfold f_X7_clear_89
          have r13 : (x_sA (x_sI u 31 0) 2 k 0).1 13 = nI (q_n σ) := HXu.1.2.1
          rw [m_g_t (nI_in (by omega) (by decide)), m_l_s, nI_clamp (by omega), r13]
          have g2 : ch (fun q => q = 100 + 4 * k) w1 ρ (m_sI w1 4 2 (ca k) (nI (q_n σ))) ρ := ch_sI y1.2.1
          have G : ch (fun q => S2 (100 + 4 * k + 1) q ∨ q = 100 + 4 * k) w ρ (m_sI w1 4 2 (ca k) (nI (q_n σ))) ρ := ch_trans (ch_mono q3 (fun _ hq => Or.inl hq)) (ch_mono g2 (fun _ hq => Or.inr hq))
          refine JG_do (σ' := z_cell σ k [] (q_n σ) (q_R σ k)) rfl rfl (show (x_sI u 31 0).1 31 = 0 from xI_s) (z_cell_G hG (by decide) (fun x hx => nomatch hx) (Nat.le_refl _) (hG.2.2.1 k hk).2.2.2.1 (hG.2.2.1 k hk).2.2.2.2) (z_cell_X HXu ?_ ?_ ?_ ?_ hG hk ⟨?_, ?_, ?_, ?_⟩) (HC_setCell H hG hk G (fun q hq => by unfold S2 at hq; omega) ⟨[], ⟨pa, pr, y1, ?_, ?_, ?_, ?_, AL_ch q2 g2 (by omega) (by omega) (by omega), tg_ch x7 G, (tg_ln x7 G).trans x8, fun j hj => ?_⟩, ⟨rfl, fun j hj => absurd hj (by show ¬ j < 0; omega)⟩⟩) (ch_mono G (fun q hq => by unfold SC; unfold S2 at hq; omega))
          · intro j hj
            show (x_sI u 31 0).1 j = _
            exact xI_n (by omega)
          · intro j _ j2 _ _ _ _ j7 _ _
            rw [xA_n j7, xA_n j2]; rfl
          · intro j _
            rw [xA_n (by decide), xA_n (by decide)]; rfl
          · intro k2 hk2 hn2
            rw [xA_n (t := 2) (by decide), xA_s, pk_un hn2, xA_s, pk_un hn2]
            rw [xA_n (t := 7) (by decide), xA_n (t := 9) (by decide), xA_n (t := 9) (by decide), xA_n (t := 3) (by decide), xA_n (t := 3) (by decide), xA_n (t := 4) (by decide), xA_n (t := 4) (by decide), xA_n (t := 5) (by decide), xA_n (t := 5) (by decide), xA_n (t := 6) (by decide), xA_n (t := 6) (by decide)]
            exact ⟨rfl, rfl, fun _ _ => rfl, fun _ _ => ⟨rfl, rfl, rfl, rfl⟩⟩
          · rw [xA_n (by decide), xA_s, pk_us]; rfl
          · rw [xA_s, pk_us]
          · intro j j1 j2
            rw [xA_n (by decide), xA_n (by decide)]; exact m3 j j1 j2
          · intro j hj; exact absurd hj (by show ¬ j < 0; omega)
          · simp only [kd_sI, fi_sI, fr_sI, ln_sI, ia_sI, oa_sI, la_sI, nx_sI, kd_sR, fi_sR, fr_sR, ln_sR, ia_sR, oa_sR, la_sR, nx_sR, kd_sA, fi_sA, fr_sA, ln_sA, ia_sA, oa_sA, la_sA, nx_sA, kd_sO, fi_sO, fr_sO, ln_sO, ia_sO, oa_sO, la_sO, nx_sO, kd_sL, fi_sL, fr_sL, ln_sL, ia_sL, oa_sL, la_sL, nx_sL, kd_sF, fi_sF, fr_sF, ln_sF, ia_sF, oa_sF, la_sF, nx_sF, kd_sG, fi_sG, fr_sG, ln_sG, ia_sG, oa_sG, la_sG, nx_sG, kd_sX, fi_sX, fr_sX, ln_sX, ia_sX, oa_sX, la_sX, nx_sX, kd_nO, fi_nO, fr_nO, ln_nO, ia_nO, oa_nO, la_nO, nx_nO, kd_nA, fi_nA, fr_nA, ln_nA, ia_nA, oa_nA, la_nA, nx_nA]; rw [u3_j (by decide)]; exact (s1 _ _).trans x2
          · simp only [kd_sI, fi_sI, fr_sI, ln_sI, ia_sI, oa_sI, la_sI, nx_sI, kd_sR, fi_sR, fr_sR, ln_sR, ia_sR, oa_sR, la_sR, nx_sR, kd_sA, fi_sA, fr_sA, ln_sA, ia_sA, oa_sA, la_sA, nx_sA, kd_sO, fi_sO, fr_sO, ln_sO, ia_sO, oa_sO, la_sO, nx_sO, kd_sL, fi_sL, fr_sL, ln_sL, ia_sL, oa_sL, la_sL, nx_sL, kd_sF, fi_sF, fr_sF, ln_sF, ia_sF, oa_sF, la_sF, nx_sF, kd_sG, fi_sG, fr_sG, ln_sG, ia_sG, oa_sG, la_sG, nx_sG, kd_sX, fi_sX, fr_sX, ln_sX, ia_sX, oa_sX, la_sX, nx_sX, kd_nO, fi_nO, fr_nO, ln_nO, ia_nO, oa_nO, la_nO, nx_nO, kd_nA, fi_nA, fr_nA, ln_nA, ia_nA, oa_nA, la_nA, nx_nA]; exact (s2 _ _).trans x3
          · simp only [kd_sI, fi_sI, fr_sI, ln_sI, ia_sI, oa_sI, la_sI, nx_sI, kd_sR, fi_sR, fr_sR, ln_sR, ia_sR, oa_sR, la_sR, nx_sR, kd_sA, fi_sA, fr_sA, ln_sA, ia_sA, oa_sA, la_sA, nx_sA, kd_sO, fi_sO, fr_sO, ln_sO, ia_sO, oa_sO, la_sO, nx_sO, kd_sL, fi_sL, fr_sL, ln_sL, ia_sL, oa_sL, la_sL, nx_sL, kd_sF, fi_sF, fr_sF, ln_sF, ia_sF, oa_sF, la_sF, nx_sF, kd_sG, fi_sG, fr_sG, ln_sG, ia_sG, oa_sG, la_sG, nx_sG, kd_sX, fi_sX, fr_sX, ln_sX, ia_sX, oa_sX, la_sX, nx_sX, kd_nO, fi_nO, fr_nO, ln_nO, ia_nO, oa_nO, la_nO, nx_nO, kd_nA, fi_nA, fr_nA, ln_nA, ia_nA, oa_nA, la_nA, nx_nA, u3_s]
          · simp only [kd_sI, fi_sI, fr_sI, ln_sI, ia_sI, oa_sI, la_sI, nx_sI, kd_sR, fi_sR, fr_sR, ln_sR, ia_sR, oa_sR, la_sR, nx_sR, kd_sA, fi_sA, fr_sA, ln_sA, ia_sA, oa_sA, la_sA, nx_sA, kd_sO, fi_sO, fr_sO, ln_sO, ia_sO, oa_sO, la_sO, nx_sO, kd_sL, fi_sL, fr_sL, ln_sL, ia_sL, oa_sL, la_sL, nx_sL, kd_sF, fi_sF, fr_sF, ln_sF, ia_sF, oa_sF, la_sF, nx_sF, kd_sG, fi_sG, fr_sG, ln_sG, ia_sG, oa_sG, la_sG, nx_sG, kd_sX, fi_sX, fr_sX, ln_sX, ia_sX, oa_sX, la_sX, nx_sX, kd_nO, fi_nO, fr_nO, ln_nO, ia_nO, oa_nO, la_nO, nx_nO, kd_nA, fi_nA, fr_nA, ln_nA, ia_nA, oa_nA, la_nA, nx_nA]; exact (s2 _ _).trans x5
          · simp only [kd_sI, fi_sI, fr_sI, ln_sI, ia_sI, oa_sI, la_sI, nx_sI, kd_sR, fi_sR, fr_sR, ln_sR, ia_sR, oa_sR, la_sR, nx_sR, kd_sA, fi_sA, fr_sA, ln_sA, ia_sA, oa_sA, la_sA, nx_sA, kd_sO, fi_sO, fr_sO, ln_sO, ia_sO, oa_sO, la_sO, nx_sO, kd_sL, fi_sL, fr_sL, ln_sL, ia_sL, oa_sL, la_sL, nx_sL, kd_sF, fi_sF, fr_sF, ln_sF, ia_sF, oa_sF, la_sF, nx_sF, kd_sG, fi_sG, fr_sG, ln_sG, ia_sG, oa_sG, la_sG, nx_sG, kd_sX, fi_sX, fr_sX, ln_sX, ia_sX, oa_sX, la_sX, nx_sX, kd_nO, fi_nO, fr_nO, ln_nO, ia_nO, oa_nO, la_nO, nx_nO, kd_nA, fi_nA, fr_nA, ln_nA, ia_nA, oa_nA, la_nA, nx_nA]; rw [s3]; exact x9 j hj
theorem J_write (J : JI w ρ t0.1 h σ u) (p0 p1 p2 p3 p4 p5 : Int32) : JG w ρ t0.1 h (q_n σ) [(IOB, 1), (IAE, 2), (ISE, 3)] (e_X6_write t0 w h p0 p1 p2 p3 p4 p5) (f_X7_write u p0 p1 p2 p3 p4 p5) := by
  obtain ⟨hG, HXu, ca, ra, ia, ad, H⟩ := id J
  have hN := hG.1
  have hn := hG.2.2.2.1
  have m2 : ∀ {a b : String × Int32} {l : List (String × Int32)}, b ∈ a :: b :: l := fun {a b l} => List.mem_cons_of_mem _ (List.mem_cons_self ..)
  -- what the reference does where 'is' does not hold
  have bad : ∃ b, f_X7_write_26 u p0 p1 p2 p3 p4 p5 = some (b, x_sI u 31 1) := by
    have key : ∀ s, ∃ b, f_X7_write_60 u p0 p1 p2 p3 p4 p5 0 s = some (b, x_sI u 31 1) := fun s => by
      unfold f_X7_write_60 f_X7_write_97 f_X7_write_98
      rw [if_pos rfl, X_goes0, m_b_s, if_pos rfl]
      exact ⟨_, rfl⟩
    unfold f_X7_write_26 f_X7_write_27 f_X7_write_59
    obtain ⟨y, hy⟩ := X_in_any (u := u) (p := p3) (a := 0) (c := 3)
    rw [hy, m_b_s]
    by_cases cy : y = 0
    · rw [if_pos cy]; exact key 0
    · rw [if_neg cy]
      rcases X_op (p := p4) with ⟨a, ha, rfl, f1, f2⟩ | ⟨f1, f2⟩
      · rw [f2, m_b_s, if_neg nb_10]
        rcases X_op (p := p5) with ⟨b, hb, rfl, e1, e2⟩ | ⟨e1, e2⟩
        · rw [e2, m_b_s, if_neg nb_10]; exact key 1
        · rw [e2, m_b_s, if_pos rfl]; exact key 0
      · rw [f2, m_b_s, if_pos rfl]; exact key 0
  obtain ⟨bb, hbad⟩ := bad
  unfold e_X6_write f_X7_write e_X6_write_26 e_X6_write_52
  rcases X_ix (p := p0) (n := 5) (by decide) with hp | ⟨i, hi, rfl⟩
  · rw [C_userN hp, m_t_x, X_userN hp, m_b_s, if_pos rfl, hbad]
    exact JG_err J rfl rfl xs_rfl (List.mem_cons_self ..)
  rw [C_userY hi, m_t_s, m_g_t (HC_kd H), X_userY hi, m_b_s, if_neg nb_10]
  rcases X_ix (p := p1) (n := q_N σ) (by omega) with hp | ⟨k, hk, rfl⟩
  · rw [C_cellN H hp, m_t_x, X_cellN HXu.1.1 hN hp, m_b_s, if_pos rfl, hbad]
    exact JG_err J rfl rfl xs_rfl (List.mem_cons_self ..)
  rw [C_cellY H hG hk, m_t_s, X_cellY HXu.1.1 hk hN, m_b_s, if_neg nb_10]
  rcases X_ix (p := p2) (n := 8) (by decide) with hp | ⟨nm, hnm, rfl⟩
  · rw [C_nameN hp, m_t_x, X_nameN hp, m_b_s, if_pos rfl, hbad]
    exact JG_err J rfl rfl xs_rfl (List.mem_cons_self ..)
  rw [C_nameY hnm, m_t_s, X_nameY hnm, m_b_s, if_neg nb_10]
  have hR := (hG.2.2.1 k hk).2.2.2.2 i hi
  have hlen := (hG.2.2.1 k hk).1
  obtain ⟨m1, mC, m3, m4⟩ := HXu.2.2.1 k hk
  -- where the arguments are out of their range
  have arg : ∃ b, f_X7_write_60 u (nI i) (nI k) (nI nm) p3 p4 p5 1 0 = some (b, x_sI u 31 2) := by
    unfold f_X7_write_60 f_X7_write_97 f_X7_write_98
    rw [if_neg nb_10, X_rightOf HXu hG hi hk, m_b_s]
    have z : ∀ s, ∃ b, (m_b (f_X7_goes u 1 0 s) fun r632 u633 => if r632 = (0 : Int32) then some (0, u633) else f_X7_write_98 u (nI k) (nI nm) p3 p4 p5 s 0 1) = some (b, x_sI u 31 2) := fun s => by
      rw [X_goes10, m_b_s, if_pos rfl]; exact ⟨_, rfl⟩
    by_cases c : nI (q_R σ k i) = 3
    · rw [if_pos c, m_g_t (nI_in (by omega) (by decide)), nI_clamp (by omega), m1]
      by_cases c2 : 6 ≤ nI (q_P σ k).length
      · rw [if_pos c2, X_goes10, m_b_s, if_pos rfl]; exact ⟨_, rfl⟩
      · rw [if_neg c2, X_goes10, m_b_s, if_pos rfl]; exact ⟨_, rfl⟩
    · rw [if_neg c, X_goes10, m_b_s, if_pos rfl]; exact ⟨_, rfl⟩
  obtain ⟨ba, harg⟩ := arg
  unfold f_X7_write_27 f_X7_write_59
  rcases X_ix (p := p3) (n := 4) (by decide) with hq | ⟨op, hop, rfl⟩
  · rw [show (3 : Int32) = nI 4 - 1 by decide +kernel, X_inN (by decide) hq, m_b_s, if_pos rfl, harg]
    refine JG_err J ?_ rfl xs_rfl m2
    by_cases c2 : p3 < 0
    · rw [if_pos c2]; rfl
    · rw [if_neg c2, if_neg (fun q => ?_)]; rfl
      exact absurd (Int32.le_trans (hq.resolve_left c2) q) (by decide)
  have e33 : (3 : Int32) = nI 4 - 1 := by decide +kernel
  rw [show f_X7_in u (nI op) 0 3 = some (1, u) by rw [e33]; exact X_inY hop (by decide), m_b_s, if_neg nb_10, if_neg (nI_pos (by omega)), if_pos (show nI op ≤ 3 from nI_le (b := 3) (by omega) (by decide))]
  rcases X_op (p := p4) with ⟨l, hl, rfl, f1, f2⟩ | ⟨f1, f2⟩
  · rw [f1, m_b_s, if_neg nb_10, f2, m_b_s, if_neg nb_10]
    rcases X_op (p := p5) with ⟨r, hr, rfl, g1, g2⟩ | ⟨g1, g2⟩
    · rw [g1, m_b_s, if_neg nb_10, g2, m_b_s, if_neg nb_10, show e_X6_requireRight w (ca k) (nI i) 3 = _ from C_right H hG hi hk (x := 3) (by decide)]
      unfold f_X7_write_60 f_X7_write_97
      rw [if_neg nb_10, X_rightOf HXu hG hi hk, m_b_s]
      by_cases c : q_R σ k i < 3
      · rw [if_pos c, m_t_x, if_neg (show ¬ nI (q_R σ k i) = 3 from fun q => by have := (nI_eq (b := 3) (by omega) (by decide)).mp q; omega)]
        unfold f_X7_write_98
        rw [X_goes110, m_b_s, if_pos rfl]
        exact JG_err J rfl rfl xs_rfl (List.mem_cons_of_mem _ m2)
      · have e3 : q_R σ k i = 3 := by omega
        obtain ⟨Lp, d1, d2⟩ := HC_ce H hk
        obtain ⟨pa, pr, x1, x2, x3, x4, x5, x6, x7, x8, x9⟩ := id d1
        have hLp := d2.1
        rw [if_neg c, m_t_s, m_g_t x1.1, x3, m_o_s, m_g_t (AL_k3 x6), AL_size x6, m_b_s, hLp, if_pos (show nI (q_R σ k i) = 3 by rw [e3]; rfl), m_g_t (nI_in (by omega) (by decide)), nI_clamp (by omega), m1]
        by_cases c6 : (q_P σ k).length < 6
        · rw [if_pos (show nI (q_P σ k).length < 6 from nI_lt (b := 6) c6 (by decide)), if_neg (show ¬ (6 : Int32) ≤ nI (q_P σ k).length from nI_ge (b := 6) c6 (by decide)), m_g_t x1.1, x3, m_o_s, m_l_s]
          -- the class: the statement's object
          have q1 : ch (fun _ => False) w ρ (m_nO w 8) (va_up ρ (m_nx w) (2000 + 6 * k + (q_P σ k).length)) := ch_nO
          have t1 : tg (m_nO w 8) (va_up ρ (m_nx w) (2000 + 6 * k + (q_P σ k).length)) (m_nx w) 9 (2000 + 6 * k + (q_P σ k).length) := ⟨by simp only [kd_sI, fi_sI, fr_sI, ln_sI, ia_sI, oa_sI, la_sI, nx_sI, kd_sR, fi_sR, fr_sR, ln_sR, ia_sR, oa_sR, la_sR, nx_sR, kd_sA, fi_sA, fr_sA, ln_sA, ia_sA, oa_sA, la_sA, nx_sA, kd_sO, fi_sO, fr_sO, ln_sO, ia_sO, oa_sO, la_sO, nx_sO, kd_sL, fi_sL, fr_sL, ln_sL, ia_sL, oa_sL, la_sL, nx_sL, kd_sF, fi_sF, fr_sF, ln_sF, ia_sF, oa_sF, la_sF, nx_sF, kd_sG, fi_sG, fr_sG, ln_sG, ia_sG, oa_sG, la_sG, nx_sG, kd_sX, fi_sX, fr_sX, ln_sX, ia_sX, oa_sX, la_sX, nx_sX, kd_nO, fi_nO, fr_nO, ln_nO, ia_nO, oa_nO, la_nO, nx_nO, kd_nA, fi_nA, fr_nA, ln_nA, ia_nA, oa_nA, la_nA, nx_nA, va_up_s], va_up_s, by simp only [kd_sI, fi_sI, fr_sI, ln_sI, ia_sI, oa_sI, la_sI, nx_sI, kd_sR, fi_sR, fr_sR, ln_sR, ia_sR, oa_sR, la_sR, nx_sR, kd_sA, fi_sA, fr_sA, ln_sA, ia_sA, oa_sA, la_sA, nx_sA, kd_sO, fi_sO, fr_sO, ln_sO, ia_sO, oa_sO, la_sO, nx_sO, kd_sL, fi_sL, fr_sL, ln_sL, ia_sL, oa_sL, la_sL, nx_sL, kd_sF, fi_sF, fr_sF, ln_sF, ia_sF, oa_sF, la_sF, nx_sF, kd_sG, fi_sG, fr_sG, ln_sG, ia_sG, oa_sG, la_sG, nx_sG, kd_sX, fi_sX, fr_sX, ln_sX, ia_sX, oa_sX, la_sX, nx_sX, kd_nO, fi_nO, fr_nO, ln_nO, ia_nO, oa_nO, la_nO, nx_nO, kd_nA, fi_nA, fr_nA, ln_nA, ia_nA, oa_nA, la_nA, nx_nA]; omega⟩
          obtain ⟨w2, y1, y2, y3⟩ := ST_init t1 (nm, op, l, r)
          have y1' : e_X5_init (m_nO w 8) (m_nx w) (nI nm) (nI op) (nI l) (nI r) = some ((), w2) := y1
          have G1 : ch (fun q => q = 2000 + 6 * k + (q_P σ k).length) w ρ w2 (va_up ρ (m_nx w) (2000 + 6 * k + (q_P σ k).length)) := ch_trans (ch_mono q1 (fun _ hq => hq.elim)) y3
          generalize va_up ρ (m_nx w) (2000 + 6 * k + (q_P σ k).length) = ρ1 at *
          generalize m_nx w = x at *
          have A1 := AL_ch x6 G1 (by omega) (by omega) (by omega)
          rw [y1', m_b_s, m_g_t (AL_k3 A1)]
          obtain ⟨w3, ρ3, z1, z2, z3⟩ := AL_add (t0 := t0) A1 (by omega) (by rw [hLp]; omega) (x := x) ⟨y2.1.2.2, by rw [y2.1.1]; decide, by rw [y2.1.1]; decide⟩
          have G3 : ch (fun q => q = 2000 + 6 * k + (q_P σ k).length ∨ S2 (100 + 4 * k + 1) q) w ρ w3 ρ3 := ch_trans (ch_mono G1 (fun _ hq => Or.inl hq)) (ch_mono z3 (fun _ hq => Or.inr hq))
          have a0 := p0 H.1 G3
          have A2 := pAL (HC_a2 H) G3
          have x1' := tg_ch x1 G3
          have Y3 := ST_ch y2 z3 (by unfold S2; omega)
          obtain ⟨s1, s2, -, -, -⟩ := tg_sm x1 G3 (by unfold S2; omega)
          obtain ⟨-, -, s3, -, -⟩ := tg_sm x7 G3 (by unfold S2; omega)
          have g4 : ch (fun q => q = 100 + 4 * k) w3 ρ3 (m_sI w3 4 2 (ca k) (nI (q_n σ))) ρ3 := ch_sI x1'.2.1
          have A4 := AL_ch z2 g4 (by omega) (by omega) (by omega)
          have G4 : ch (fun q => (q = 2000 + 6 * k + (q_P σ k).length ∨ S2 (100 + 4 * k + 1) q) ∨ q = 100 + 4 * k) w ρ (m_sI w3 4 2 (ca k) (nI (q_n σ))) ρ3 := ch_trans (ch_mono G3 (fun _ hq => Or.inl hq)) (ch_mono g4 (fun _ hq => Or.inr hq))
          rw [z1, m_b_s, m_g_t a0.1.1, a0.2.1 2 (by decide), m_o_s, m_g_t (AL_k3 A2), AL_size2 A2, m_b_s, m_g_t x1'.1, m_l_s, show m_fr (m_sI w3 4 2 (ca k) (nI (q_n σ))) 4 1 (ca k) = some pa from (s2 _ _).trans x3, m_o_s, m_g_t (AL_k3 A4), AL_size A4, m_b_s, List.length_append, List.length_singleton, hLp]
          -- the reference
          unfold f_X7_write_98
          have e6 : 6 * nI k + nI (q_P σ k).length = nI (6 * k + (q_P σ k).length) := by rw [show (6 : Int32) = nI 6 from rfl, pk_mul, nI_add]
          have i16 := nI_in (c := k) (N := 16) (by omega) (by decide)
          have j16 := nI_in2 (c := k) (N := 16) (by omega) (by decide)
          have j96 := nI_in2 (c := 6 * k + (q_P σ k).length) (N := 96) (by omega) (by decide)
          have r2 : (x_sI u 31 0).2 2 k = nI (q_P σ k).length := m1
          rw [X_goes1, m_b_s, if_neg nb_10, m_g_t i16, nI_clamp (by omega), r2, e6, m_g_t (nI_in (by omega) (by decide)), m_l_s, nI_clamp (by omega), m_g_t j96, m_l_s, m_g_t j96, m_l_s, m_g_t j96, m_l_s, m_g_t j16, m_g_t j16, m_l_s, m_g_t j16, m_l_s, m_g_t j16]
          generalize hv : x_sA (x_sA (x_sA (x_sA (x_sI u 31 0) 3 (6 * k + (q_P σ k).length) (nI nm)) 4 (6 * k + (q_P σ k).length) (nI op)) 5 (6 * k + (q_P σ k).length) (nI l)) 6 (6 * k + (q_P σ k).length) (nI r) = v
          have v1 : v.1 = (x_sI u 31 0).1 := by rw [← hv]; rfl
          have v2 : ∀ t, t ≠ 3 → t ≠ 4 → t ≠ 5 → t ≠ 6 → v.2 t = u.2 t := fun t t3 t4 t5 t6 => by rw [← hv, xA_n t6, xA_n t5, xA_n t4, xA_n t3]; rfl
          have v3 : ∀ a, v.2 3 a = upd (u.2 3) (6 * k + (q_P σ k).length) (nI nm) a := fun a => by rw [← hv, xA_n (by decide), xA_n (by decide), xA_n (by decide), xA_s]; rfl
          have v4 : ∀ a, v.2 4 a = upd (u.2 4) (6 * k + (q_P σ k).length) (nI op) a := fun a => by rw [← hv, xA_n (by decide), xA_n (by decide), xA_s, xA_n (by decide)]; rfl
          have v5 : ∀ a, v.2 5 a = upd (u.2 5) (6 * k + (q_P σ k).length) (nI l) a := fun a => by rw [← hv, xA_n (by decide), xA_s, xA_n (by decide), xA_n (by decide)]; rfl
          have v6 : ∀ a, v.2 6 a = upd (u.2 6) (6 * k + (q_P σ k).length) (nI r) a := fun a => by rw [← hv, xA_s, xA_n (by decide), xA_n (by decide), xA_n (by decide)]; rfl
          have r2v : v.2 2 k = nI (q_P σ k).length := by rw [v2 2 (by decide) (by decide) (by decide) (by decide)]; exact m1
          have r13 : (x_sA v 2 k (nI ((q_P σ k).length + 1))).1 13 = nI (q_n σ) := by
            show v.1 13 = _
            rw [v1]
            exact HXu.1.2.1
          rw [r2v, nI_1, r13, show (x_sA (x_sA v 2 k (nI ((q_P σ k).length + 1))) 7 k (nI (q_n σ))).2 2 k = nI ((q_P σ k).length + 1) by rw [xA_n (by decide), xA_s, pk_us]]
          refine JG_do (σ' := z_cell σ k (q_P σ k ++ [(nm, op, l, r)]) (q_n σ) (q_R σ k)) rfl rfl ?_ (z_cell_G hG ?_ ?_ (Nat.le_refl _) (hG.2.2.1 k hk).2.2.2.1 (hG.2.2.1 k hk).2.2.2.2) (z_cell_X HXu ?_ ?_ ?_ ?_ hG hk ⟨?_, ?_, ?_, ?_⟩) (HC_setCell H hG hk G4 (fun q hq => by unfold S2 at hq; omega) ⟨Lp ++ [x], ⟨pa, pr, tg_ch x1 G4, ?_, (s2 _ _).trans x3, ?_, (s2 _ _).trans x5, A4, tg_ch x7 G4, (tg_ln x7 G4).trans x8, fun j hj => ?_⟩, ⟨?_, fun j hj hj2 => ?_⟩⟩) (ch_mono G4 (fun q hq => by unfold SC; unfold S2 at hq; omega))
          · show v.1 31 = 0
            rw [v1]; exact xI_s
          · rw [List.length_append, List.length_singleton]; omega
          · intro y hy
            rcases List.mem_append.mp hy with z | z
            · exact (hG.2.2.1 k hk).2.1 y z
            · rw [List.mem_singleton.mp z]
              exact ⟨hnm, hop, hl, hr⟩
          · intro j hj
            show v.1 j = _
            rw [v1]; exact xI_n (by omega)
          · intro j _ j2 j3 j4 j5 j6 j7 _ _
            rw [xA_n j7, xA_n j2]; exact v2 j j3 j4 j5 j6
          · intro j _
            rw [xA_n (by decide), xA_n (by decide), v2 20 (by decide) (by decide) (by decide) (by decide)]
          · intro k2 hk2 hn2
            refine ⟨?_, ?_, fun j hj => ?_, fun j hj => ⟨?_, ?_, ?_, ?_⟩⟩
            · rw [xA_n (by decide), xA_s, pk_un hn2, v2 2 (by decide) (by decide) (by decide) (by decide)]
            · rw [xA_s, pk_un hn2, xA_n (by decide), v2 7 (by decide) (by decide) (by decide) (by decide)]
            · rw [xA_n (by decide), xA_n (by decide), v2 9 (by decide) (by decide) (by decide) (by decide)]
            · rw [xA_n (by decide), xA_n (by decide), v3, pk_un (by omega)]
            · rw [xA_n (by decide), xA_n (by decide), v4, pk_un (by omega)]
            · rw [xA_n (by decide), xA_n (by decide), v5, pk_un (by omega)]
            · rw [xA_n (by decide), xA_n (by decide), v6, pk_un (by omega)]
          · rw [xA_n (by decide), xA_s, pk_us, List.length_append, List.length_singleton]
          · rw [xA_s, pk_us]
          · intro j j1 j2
            rw [xA_n (by decide), xA_n (by decide), v2 9 (by decide) (by decide) (by decide) (by decide)]; exact m3 j j1 j2
          · intro j hj
            rw [xA_n (by decide), xA_n (by decide), xA_n (by decide), xA_n (by decide), xA_n (by decide), xA_n (by decide), xA_n (by decide), xA_n (by decide), v3, v4, v5, v6]
            rw [List.length_append, List.length_singleton] at hj
            by_cases e : j = (q_P σ k).length
            · subst e
              rw [pk_us, pk_us, pk_us, pk_us]
              simp
            · rw [pk_un (by omega), pk_un (by omega), pk_un (by omega), pk_un (by omega)]
              have hj2 : j < (q_P σ k).length := by omega
              rw [List.getElem_append_left hj2]
              exact m4 j hj2
          · simp only [kd_sI, fi_sI, fr_sI, ln_sI, ia_sI, oa_sI, la_sI, nx_sI, kd_sR, fi_sR, fr_sR, ln_sR, ia_sR, oa_sR, la_sR, nx_sR, kd_sA, fi_sA, fr_sA, ln_sA, ia_sA, oa_sA, la_sA, nx_sA, kd_sO, fi_sO, fr_sO, ln_sO, ia_sO, oa_sO, la_sO, nx_sO, kd_sL, fi_sL, fr_sL, ln_sL, ia_sL, oa_sL, la_sL, nx_sL, kd_sF, fi_sF, fr_sF, ln_sF, ia_sF, oa_sF, la_sF, nx_sF, kd_sG, fi_sG, fr_sG, ln_sG, ia_sG, oa_sG, la_sG, nx_sG, kd_sX, fi_sX, fr_sX, ln_sX, ia_sX, oa_sX, la_sX, nx_sX, kd_nO, fi_nO, fr_nO, ln_nO, ia_nO, oa_nO, la_nO, nx_nO, kd_nA, fi_nA, fr_nA, ln_nA, ia_nA, oa_nA, la_nA, nx_nA]; rw [u3_j (by decide)]; exact (s1 _ _).trans x2
          · simp only [kd_sI, fi_sI, fr_sI, ln_sI, ia_sI, oa_sI, la_sI, nx_sI, kd_sR, fi_sR, fr_sR, ln_sR, ia_sR, oa_sR, la_sR, nx_sR, kd_sA, fi_sA, fr_sA, ln_sA, ia_sA, oa_sA, la_sA, nx_sA, kd_sO, fi_sO, fr_sO, ln_sO, ia_sO, oa_sO, la_sO, nx_sO, kd_sL, fi_sL, fr_sL, ln_sL, ia_sL, oa_sL, la_sL, nx_sL, kd_sF, fi_sF, fr_sF, ln_sF, ia_sF, oa_sF, la_sF, nx_sF, kd_sG, fi_sG, fr_sG, ln_sG, ia_sG, oa_sG, la_sG, nx_sG, kd_sX, fi_sX, fr_sX, ln_sX, ia_sX, oa_sX, la_sX, nx_sX, kd_nO, fi_nO, fr_nO, ln_nO, ia_nO, oa_nO, la_nO, nx_nO, kd_nA, fi_nA, fr_nA, ln_nA, ia_nA, oa_nA, la_nA, nx_nA, u3_s]
          · simp only [kd_sI, fi_sI, fr_sI, ln_sI, ia_sI, oa_sI, la_sI, nx_sI, kd_sR, fi_sR, fr_sR, ln_sR, ia_sR, oa_sR, la_sR, nx_sR, kd_sA, fi_sA, fr_sA, ln_sA, ia_sA, oa_sA, la_sA, nx_sA, kd_sO, fi_sO, fr_sO, ln_sO, ia_sO, oa_sO, la_sO, nx_sO, kd_sL, fi_sL, fr_sL, ln_sL, ia_sL, oa_sL, la_sL, nx_sL, kd_sF, fi_sF, fr_sF, ln_sF, ia_sF, oa_sF, la_sF, nx_sF, kd_sG, fi_sG, fr_sG, ln_sG, ia_sG, oa_sG, la_sG, nx_sG, kd_sX, fi_sX, fr_sX, ln_sX, ia_sX, oa_sX, la_sX, nx_sX, kd_nO, fi_nO, fr_nO, ln_nO, ia_nO, oa_nO, la_nO, nx_nO, kd_nA, fi_nA, fr_nA, ln_nA, ia_nA, oa_nA, la_nA, nx_nA]; rw [s3]; exact x9 j hj
          · rw [List.length_append, List.length_append, hLp]; rfl
          · rw [List.length_append, List.length_singleton, hLp] at hj
            by_cases e : j = (q_P σ k).length
            · subst e
              have e1 : (Lp ++ [x])[(q_P σ k).length] = x := by
                rw [List.getElem_append_right (by omega)]
                simp
              have e2 : (q_P σ k ++ [(nm, op, l, r)])[(q_P σ k).length] = (nm, op, l, r) := by simp
              rw [e1, e2]
              exact ST_ch Y3 g4 (by show ¬ (2000 + 6 * k + (q_P σ k).length = 100 + 4 * k); omega)
            · have hj3 : j < Lp.length := by omega
              have hj4 : j < (q_P σ k).length := by omega
              rw [List.getElem_append_left hj3, List.getElem_append_left hj4]
              exact ST_ch (d2.2 j hj3 hj4) G4 (by
                show ¬ ((2000 + 6 * k + j = 2000 + 6 * k + (q_P σ k).length ∨ S2 (100 + 4 * k + 1) (2000 + 6 * k + j)) ∨ 2000 + 6 * k + j = 100 + 4 * k)
                unfold S2
                omega)
        · rw [if_neg (show ¬ nI (q_P σ k).length < 6 from nI_nlt (b := 6) (by omega) (by omega)), if_pos (show (6 : Int32) ≤ nI (q_P σ k).length from nI_le (a := 6) (by omega) (by omega))]
          unfold f_X7_write_98
          rw [X_goes110, m_b_s, if_pos rfl]
          exact JG_err J rfl rfl xs_rfl (List.mem_cons_of_mem _ m2)
    · rw [g1, m_b_s, if_pos rfl, g2, m_b_s, if_pos rfl, harg]
      exact JG_err J rfl rfl xs_rfl m2
  · rw [f1, m_b_s, if_pos rfl, f2, m_b_s, if_pos rfl, harg]
    exact JG_err J rfl rfl xs_rfl m2
end JC
