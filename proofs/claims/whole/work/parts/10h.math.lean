/-! all cells in their order -/
def z_go (σ : qS) : Nat → (Nat → Int32) × (Nat → Int32)
  | 0 => ((fun _ => 0), (fun _ => 0))
  | k + 1 => if (a_run (q_P σ ((q_O σ).getD k 0)) ((z_go σ k).1, (z_go σ k).2, 0, 0, (fun _ => 0), none) 1).2 = true then z_go σ k else ((a_run (q_P σ ((q_O σ).getD k 0)) ((z_go σ k).1, (z_go σ k).2, 0, 0, (fun _ => 0), none) 1).1.1, (a_run (q_P σ ((q_O σ).getD k 0)) ((z_go σ k).1, (z_go σ k).2, 0, 0, (fun _ => 0), none) 1).1.2.1)
theorem qG_O {σ : qS} (hG : qG σ) {k : Nat} (hk : k < q_N σ) : (q_O σ).getD k 0 < q_N σ := by
  have hl : k < (q_O σ).length := by rw [hG.2.1.1]; exact hk
  rw [List.getD_eq_getElem?_getD, List.getElem?_eq_getElem hl]
  exact (hG.2.1.2.2 _).mp (List.getElem_mem hl)
theorem z_go_0 {σ : qS} (hG : qG σ) : ∀ {k : Nat}, k ≤ q_N σ → ∀ i, i < 8 → (z_go σ k).2 i = 0 → (z_go σ k).1 i = 0
  | 0, _, _, _, _ => rfl
  | k + 1, hk, i, hi, h0 => by
    have ih := z_go_0 hG (k := k) (by omega) i hi
    have hin : a_in (z_go σ k).1 (z_go σ k).2 1 (a_run (q_P σ ((q_O σ).getD k 0)) ((z_go σ k).1, (z_go σ k).2, 0, 0, (fun _ => 0), none) 1).1 := a_in_run (hG.2.2.1 _ (qG_O hG (by omega))).2.1 a_in_0
    obtain ⟨h1, h2, h3⟩ := hin.1 i hi
    unfold z_go at h0 ⊢
    by_cases e : (a_run (q_P σ ((q_O σ).getD k 0)) ((z_go σ k).1, (z_go σ k).2, 0, 0, (fun _ => 0), none) 1).2 = true
    · rw [if_pos e] at h0 ⊢
      exact ih h0
    · rw [if_neg e] at h0 ⊢
      by_cases e2 : (a_run (q_P σ ((q_O σ).getD k 0)) ((z_go σ k).1, (z_go σ k).2, 0, 0, (fun _ => 0), none) 1).1.2.2.1.testBit i = true
      · have h0' : (a_run (q_P σ ((q_O σ).getD k 0)) ((z_go σ k).1, (z_go σ k).2, 0, 0, (fun _ => 0), none) 1).1.2.1 i = 0 := h0
        rw [h2 e2] at h0'
        exact absurd h0' nb_10
      · obtain ⟨g1, g2⟩ := h1 (Bool.eq_false_iff.mpr e2)
        have h0' : (a_run (q_P σ ((q_O σ).getD k 0)) ((z_go σ k).1, (z_go σ k).2, 0, 0, (fun _ => 0), none) 1).1.2.1 i = 0 := h0
        show (a_run (q_P σ ((q_O σ).getD k 0)) ((z_go σ k).1, (z_go σ k).2, 0, 0, (fun _ => 0), none) 1).1.1 i = 0
        rw [g1]
        rw [g2] at h0'
        exact ih h0'
section JO
variable {w : mW} {ρ : Nat → Nat} {t0 : Nat × Nat × Nat × Nat} {h : Nat} {σ : qS} {u : xS} {ca ra ia ad : Nat → Nat}
theorem HC_setOrd {w' : mW} {ρ' : Nat → Nat} {S : Nat → Prop} (H : HC w ρ t0.1 h σ ca ra ia ad) (hG : qG σ) (g : ch S w ρ w' ρ') (hS : ∀ q, S q → (30 ≤ q ∧ q < 33) ∨ (40 ≤ q ∧ q < 45)) (hx : ∃ v s, NM w' ρ' (ad 6) 30 v s) (hy : AT0 w' ρ' (ad 7)) : HC w' ρ' t0.1 h σ ca ra ia ad := by
  have hs : ∀ q, (q < 30 ∨ 45 ≤ q) → ¬ S q := fun q h1 h2 => by have := hS q h2; omega
  obtain ⟨a0, b1, b2, b3, b4, b5, b6, b7, b8, b9, b10, b11⟩ := H
  exact ⟨p0 a0 g (hs _ (by omega)) (hs _ (by omega)), pAL b1 g (hs _ (by omega)) (hs _ (by omega)) (hs _ (by omega)), pAL b2 g (hs _ (by omega)) (hs _ (by omega)) (hs _ (by omega)), pAL b3 g (hs _ (by omega)) (hs _ (by omega)) (hs _ (by omega)), pAL b4 g (hs _ (by omega)) (hs _ (by omega)) (hs _ (by omega)), pAL b5 g (hs _ (by omega)) (hs _ (by omega)) (hs _ (by omega)),
    pSEN b6 g (fun q z1 z2 => hs q (by omega)), hx, hy, pCEs b9 (fun k hk => (hG.2.2.1 k hk).1) hG.1 g (hs _ (by omega)) (fun q z1 z2 => hs q (by omega)) (fun q z1 z2 => hs q (by omega)), pRUs b10 g (fun q z1 z2 => hs q (by omega)), pIMs b11 hG.2.2.2.2.2.2.2.1 g (fun q z1 z2 => hs q (by omega))⟩
theorem C_go_loop (hG : qG σ) : ∀ (d f k : Nat) (w : mW) (ρ : Nat → Nat), d < f → k + d = q_N σ → HC w ρ t0.1 h σ ca ra ia ad → NM w ρ (ad 6) 30 (z_go σ k).1 (z_go σ k).2 →
    ∃ w' ρ', e_X6_runAllInOrder_9 f w h (nI k) = some ((), w') ∧ HC w' ρ' t0.1 h σ ca ra ia ad ∧ NM w' ρ' (ad 6) 30 (z_go σ (q_N σ)).1 (z_go σ (q_N σ)).2 ∧ ch (fun q => (30 ≤ q ∧ q < 33) ∨ (40 ≤ q ∧ q < 45)) w ρ w' ρ' := by
  have hN := hG.1
  have hl := hG.2.1.1
  intro d
  induction d with
  | zero =>
    intro f k w ρ hf hk H h3
    obtain ⟨f, rfl⟩ : ∃ q, f = q + 1 := ⟨f - 1, by omega⟩
    have hA := HC_a1 H
    have hk2 : k = q_N σ := by omega
    subst hk2
    refine ⟨w, ρ, ?_, H, h3, ch_rfl⟩
    show e_X6_runAllInOrder_9_b (e_X6_runAllInOrder_9 f) _ _ _ = _
    unfold e_X6_runAllInOrder_9_b
    rw [m_g_t (HC_kd H), HC_fr H (by decide), m_o_s, m_g_t (AL_k3 hA), AL_size3 hA, m_b_s, hl, if_pos (nI_le (Nat.le_refl _) (by omega))]
  | succ d ih =>
    intro f k w ρ hf hk H h3
    obtain ⟨f, rfl⟩ : ∃ q, f = q + 1 := ⟨f - 1, by omega⟩
    have hA := HC_a1 H
    have hkl : k < (q_O σ).length := by omega
    have hge : (q_O σ).getD k 0 = (q_O σ)[k] := by rw [List.getD_eq_getElem?_getD, List.getElem?_eq_getElem hkl]; rfl
    have hc := qG_O hG (k := k) (by omega)
    have hget := AL_get3 hA hkl
    rw [← hge] at hget
    have hgo : z_go σ (k + 1) = if (a_run (q_P σ ((q_O σ).getD k 0)) ((z_go σ k).1, (z_go σ k).2, 0, 0, (fun _ => 0), none) 1).2 = true then z_go σ k else ((a_run (q_P σ ((q_O σ).getD k 0)) ((z_go σ k).1, (z_go σ k).2, 0, 0, (fun _ => 0), none) 1).1.1, (a_run (q_P σ ((q_O σ).getD k 0)) ((z_go σ k).1, (z_go σ k).2, 0, 0, (fun _ => 0), none) 1).1.2.1) := rfl
    generalize (q_O σ).getD k 0 = c at *
    obtain ⟨Lp, d1, d2⟩ := HC_ce H hc
    obtain ⟨pa, pr, e1, e2, e3, e4, e5, e6, e7, e8, e9⟩ := d1
    obtain ⟨p1, p2, -⟩ := hG.2.2.1 c hc
    have b8 := H.2.2.2.2.2.2.2.2.1
    obtain ⟨w1, o, q1, q2, q3, q4, q5⟩ := AT_perform (k := 1) (ts := fun j => 2000 + 6 * c + j) (fun i => Or.inr (by omega)) (t := 30) (by omega) (tp := 100 + 4 * c + 1) (by omega) (fun q hq => by unfold Sr at hq; omega) p2 p1 e6 d2 h3 b8
    have g1 : ch (fun q => (30 ≤ q ∧ q < 33) ∨ (40 ≤ q ∧ q < 45)) w ρ w1 ρ := ch_mono q5 (fun q hq => by unfold Sr at hq; omega)
    have h4 : NM w1 ρ (ad 6) 30 (z_go σ (k + 1)).1 (z_go σ (k + 1)).2 := by
      rw [hgo]
      by_cases e : (a_run (q_P σ c) ((z_go σ k).1, (z_go σ k).2, 0, 0, (fun _ => 0), none) 1).2 = true
      · rw [if_pos e, if_pos e] at q4
        rw [if_pos e]
        exact q4
      · rw [if_neg e, if_neg e] at q4
        rw [if_neg e]
        exact q4
    have H1 := HC_setOrd H hG g1 (fun q hq => hq) ⟨_, _, h4⟩ (AT_0 q2)
    obtain ⟨w2, ρ2, y1, y2, y3, y4⟩ := ih f (k + 1) w1 ρ (by omega) (by omega) H1 h4
    refine ⟨w2, ρ2, ?_, y2, y3, ch_trans g1 y4⟩
    show e_X6_runAllInOrder_9_b (e_X6_runAllInOrder_9 f) _ _ _ = _
    unfold e_X6_runAllInOrder_9_b
    rw [m_g_t (HC_kd H), HC_fr H (by decide), m_o_s, m_g_t (AL_k3 hA), AL_size3 hA, m_b_s, if_neg (nI_ge hkl (by omega)), m_g_t (HC_kd H), HC_fr H (by decide), m_o_s, HC_fr H (by decide), m_o_s, m_g_t (AL_k3 hA), hget, m_b_s, m_g_t e1.1, e3, m_o_s, m_g_t (HC_kd H), HC_fr H (by decide), m_o_s, m_g_t (AT0_kd b8).1, q1, m_b_s, nI_1]
    exact y1
theorem C_go (H : HC w ρ t0.1 h σ ca ra ia ad) (hG : qG σ) : ∃ w' ρ', e_X6_runAllInOrder w h = some ((), w') ∧ HC w' ρ' t0.1 h σ ca ra ia ad ∧ NM w' ρ' (ad 6) 30 (z_go σ (q_N σ)).1 (z_go σ (q_N σ)).2 ∧ ch SC w ρ w' ρ' := by
  have hN := hG.1
  obtain ⟨v, s, h3⟩ := H.2.2.2.2.2.2.2.1
  obtain ⟨w1, q1, q2, q3⟩ := NM_unsetAll h3
  have g1 : ch (fun q => (30 ≤ q ∧ q < 33) ∨ (40 ≤ q ∧ q < 45)) w ρ w1 ρ := ch_mono q3 (fun q hq => by unfold Sr at hq; omega)
  have H1 := HC_setOrd H hG q3 (fun q hq => by unfold Sr at hq; omega) ⟨_, _, q2⟩ (pAT0 H.2.2.2.2.2.2.2.2.1 q3)
  obtain ⟨w2, ρ2, y1, y2, y3, y4⟩ := C_go_loop hG (q_N σ) m_N 0 w1 ρ (by show _ < 5000; omega) (Nat.zero_add _) H1 q2
  refine ⟨w2, ρ2, ?_, y2, y3, ch_mono (ch_trans g1 y4) (fun q hq => by unfold SC; omega)⟩
  unfold e_X6_runAllInOrder
  rw [m_g_t (HC_kd H), HC_fr H (by decide), m_o_s, m_g_t (NM_kd h3).1, q1, m_b_s]
  exact y1
/-- a program apart -/
theorem X_apart (hG : qG σ) (HXu : HX u σ) {c th : Nat} (hc : c < q_N σ) {v s : Nat → Int32} (h1 : u.1 26 = nI th) (h2 : th < 256) (h3 : ∀ i, i < 8 → (th.testBit i = true ↔ ¬ s i = 0)) (h4 : ∀ i, i < 8 → ¬ s i = 0 → u.2 25 i = v i) :
    ∃ u', f_X7_doesAllApart u (nI c) = some (if (a_run (q_P σ c) (v, s, 0, 0, (fun _ => 0), none) 1).2 = true then 0 else 1, u') ∧ xv u u' ∧ u'.1 26 = nI th ∧ (∃ sm, u'.1 27 = nI sm ∧ sm < 256 ∧ ((a_run (q_P σ c) (v, s, 0, 0, (fun _ => 0), none) 1).2 = false → ∀ i, i < 8 → ((th.testBit i = true ∨ sm.testBit i = true) ↔ ¬ (a_run (q_P σ c) (v, s, 0, 0, (fun _ => 0), none) 1).1.2.1 i = 0))) ∧
      ((a_run (q_P σ c) (v, s, 0, 0, (fun _ => 0), none) 1).2 = true → ∀ i, i < 8 → ¬ s i = 0 → u'.2 25 i = v i) ∧ ((a_run (q_P σ c) (v, s, 0, 0, (fun _ => 0), none) 1).2 = false → ∀ i, i < 8 → ¬ (a_run (q_P σ c) (v, s, 0, 0, (fun _ => 0), none) 1).1.2.1 i = 0 → u'.2 25 i = (a_run (q_P σ c) (v, s, 0, 0, (fun _ => 0), none) 1).1.1 i) := by
  -- the way back
  have X34 : ∀ (d f j : Nat) (x : xS), d < f → j + d = 8 → (∀ i, i < j → x.2 25 i = u.2 25 i) → (∀ i, i < 8 → x.2 20 i = u.2 25 i) → ∃ x', f_X7_doesAllApart_34 f x 0 (nI j) = some (0, x') ∧ xv x x' ∧ x'.1 = x.1 ∧ ∀ i, i < 8 → x'.2 25 i = u.2 25 i := by
    intro d
    induction d with
    | zero =>
      intro f j x hf hj a b
      obtain ⟨f, rfl⟩ : ∃ q, f = q + 1 := ⟨f - 1, by omega⟩
      have hj8 : j = 8 := by omega
      subst hj8
      refine ⟨x, ?_, xv_rfl, rfl, a⟩
      show f_X7_doesAllApart_34_b (f_X7_doesAllApart_34 f) _ _ _ = _
      unfold f_X7_doesAllApart_34_b f_X7_doesAllApart_62
      rw [if_pos (by decide +kernel), m_g_t vb0]
    | succ d ih =>
      intro f j x hf hj a b
      obtain ⟨f, rfl⟩ : ∃ q, f = q + 1 := ⟨f - 1, by omega⟩
      have hj8 : j < 8 := by omega
      obtain ⟨x', y1, y2, y3, y4⟩ := ih f (j + 1) (x_sA x 25 j (u.2 25 j)) (by omega) (by omega) (fun i hi => by
        rw [xA_s]
        by_cases e : i = j
        · subst e; rw [pk_us]
        · rw [pk_un e]; exact a i (by omega)) (fun i hi => by rw [xA_n (by decide)]; exact b i hi)
      refine ⟨x', ?_, xv_trans (xv_sA (by decide)) y2, y3, y4⟩
      show f_X7_doesAllApart_34_b (f_X7_doesAllApart_34 f) _ _ _ = _
      unfold f_X7_doesAllApart_34_b
      rw [if_neg (lge8 hj8), if_pos rfl, m_g_t (nI_in (by omega) (by decide)), m_g_t (nI_in hj8 (by decide)), m_l_s, nI_clamp (by omega), b j hj8, nI_1]
      exact y1
  have X2 : ∀ (d f j : Nat) (x : xS), d < f → j + d = 8 → xv u x → x.1 = u.1 → x.2 25 = u.2 25 → (∀ i, i < j → x.2 20 i = u.2 25 i) → ∃ x', f_X7_doesAllApart_2 f x (nI c) (nI j) = (m_b (f_X7_doesAll x' (nI c)) fun r102 u103 => f_X7_doesAllApart_34 m_N u103 r102 0) ∧ xv u x' ∧ x'.1 = u.1 ∧ x'.2 25 = u.2 25 ∧ ∀ i, i < 8 → x'.2 20 i = u.2 25 i := by
    intro d
    induction d with
    | zero =>
      intro f j x hf hj a1 a2 a3 a4
      obtain ⟨f, rfl⟩ : ∃ q, f = q + 1 := ⟨f - 1, by omega⟩
      have hj8 : j = 8 := by omega
      subst hj8
      refine ⟨x, ?_, a1, a2, a3, a4⟩
      show f_X7_doesAllApart_2_b (f_X7_doesAllApart_2 f) _ _ _ = _
      unfold f_X7_doesAllApart_2_b
      rw [if_pos (by decide +kernel)]
    | succ d ih =>
      intro f j x hf hj a1 a2 a3 a4
      obtain ⟨f, rfl⟩ : ∃ q, f = q + 1 := ⟨f - 1, by omega⟩
      have hj8 : j < 8 := by omega
      obtain ⟨x', y1, y2⟩ := ih f (j + 1) (x_sA x 20 j (u.2 25 j)) (by omega) (by omega) (xv_trans a1 (xv_s20 hj8)) a2 (by rw [xA_n (by decide)]; exact a3) (fun i hi => by
        rw [xA_s]
        by_cases e : i = j
        · subst e; rw [pk_us]
        · rw [pk_un e]; exact a4 i (by omega))
      refine ⟨x', ?_, y2⟩
      show f_X7_doesAllApart_2_b (f_X7_doesAllApart_2 f) _ _ _ = _
      unfold f_X7_doesAllApart_2_b
      rw [if_neg (lge8 hj8), m_g_t (nI_in hj8 (by decide)), m_g_t (nI_in (by omega) (by decide)), m_l_s, nI_clamp (by omega), a3, nI_1]
      exact y1
  obtain ⟨x1, y1, y2, y3, y4, y5⟩ := X2 8 m_N 0 u (by decide) rfl xv_rfl rfl rfl (fun i hi => absurd hi (by omega))
  obtain ⟨x2, s1, s2, s3⟩ := X_doesAll (k := 1) hG (HX_xs HXu y2.1) nb_10 hc (v := v) (s := s) (by rw [y3]; exact h1) h2 h3 (fun i hi hn => by rw [y4]; exact h4 i hi hn)
  have y1' : f_X7_doesAllApart u (nI c) = (m_b (f_X7_doesAll x1 (nI c)) fun r102 u103 => f_X7_doesAllApart_34 m_N u103 r102 0) := y1
  obtain ⟨t1, t2, t3, t4, t5, t6, t7, t8, t9⟩ := s2
  rw [y1', s1, m_b_s]
  by_cases e : (a_run (q_P σ c) (v, s, 0, 0, (fun _ => 0), none) 1).2 = true
  · have hx2 : ∀ i, i < 8 → x2.2 20 i = u.2 25 i := fun i hi => by rw [s3.2.2]; exact y5 i hi
    obtain ⟨x3, z1, z2, z3, z4⟩ := X34 8 m_N 0 x2 (by decide) rfl (fun i hi => absurd hi (by omega)) hx2
    rw [if_pos e]
    refine ⟨x3, z1, xv_trans y2 (xv_trans (xt_v s3) z2), by rw [z3]; exact t1, ⟨_, by rw [z3]; exact t2, t5, fun q => by rw [e] at q; cases q⟩, fun _ i hi hn => by rw [z4 i hi]; exact h4 i hi hn, fun q => by rw [e] at q; cases q⟩
  · rw [if_neg e]
    have h34 : f_X7_doesAllApart_34 m_N x2 1 0 = some (1, x2) := by
      show f_X7_doesAllApart_34_b (f_X7_doesAllApart_34 4999) _ _ _ = _
      unfold f_X7_doesAllApart_34_b f_X7_doesAllApart_62
      rw [if_neg (by decide), if_neg nb_10, m_g_t vb1]
    refine ⟨x2, h34, xv_trans y2 (xt_v s3), t1, ⟨_, t2, t5, fun _ => t7⟩, fun q => absurd q e, fun _ => t8⟩
theorem X_go_loop (hG : qG σ) : ∀ (d f k th : Nat) (u : xS), d < f → k + d = q_N σ → HX u σ → u.1 26 = nI th → th < 256 → (∀ i, i < 8 → (th.testBit i = true ↔ ¬ (z_go σ k).2 i = 0)) → (∀ i, i < 8 → ¬ (z_go σ k).2 i = 0 → u.2 25 i = (z_go σ k).1 i) →
    ∃ u' th', f_X7_goesThrough_7 f u (nI k) = some ((), u') ∧ xv u u' ∧ u'.1 26 = nI th' ∧ th' < 256 ∧ (∀ i, i < 8 → (th'.testBit i = true ↔ ¬ (z_go σ (q_N σ)).2 i = 0)) ∧ (∀ i, i < 8 → ¬ (z_go σ (q_N σ)).2 i = 0 → u'.2 25 i = (z_go σ (q_N σ)).1 i) := by
  have hN := hG.1
  intro d
  induction d with
  | zero =>
    intro f k th u hf hk H h1 h2 h3 h4
    obtain ⟨f, rfl⟩ : ∃ q, f = q + 1 := ⟨f - 1, by omega⟩
    have hk2 : k = q_N σ := by omega
    subst hk2
    refine ⟨u, th, ?_, xv_rfl, h1, h2, h3, h4⟩
    show f_X7_goesThrough_7_b (f_X7_goesThrough_7 f) _ _ = _
    unfold f_X7_goesThrough_7_b
    rw [H.1.1, if_pos (nI_le (Nat.le_refl _) (by omega))]
  | succ d ih =>
    intro f k th u hf hk H h1 h2 h3 h4
    obtain ⟨f, rfl⟩ : ∃ q, f = q + 1 := ⟨f - 1, by omega⟩
    have hkN : k < q_N σ := by omega
    have hc := qG_O hG hkN
    have eo := H.2.1 k hkN
    have hgo : z_go σ (k + 1) = if (a_run (q_P σ ((q_O σ).getD k 0)) ((z_go σ k).1, (z_go σ k).2, 0, 0, (fun _ => 0), none) 1).2 = true then z_go σ k else ((a_run (q_P σ ((q_O σ).getD k 0)) ((z_go σ k).1, (z_go σ k).2, 0, 0, (fun _ => 0), none) 1).1.1, (a_run (q_P σ ((q_O σ).getD k 0)) ((z_go σ k).1, (z_go σ k).2, 0, 0, (fun _ => 0), none) 1).1.2.1) := rfl
    generalize (q_O σ).getD k 0 = c at *
    obtain ⟨u1, s1, s2, s3, ⟨sm, s4, s5, s6⟩, s7, s8⟩ := X_apart hG H hc h1 h2 h3 h4
    have g1 : ∀ x, xv u (x_sI u1 26 x) := fun x => xv_trans s2 (xv_sI (by decide))
    show ∃ u' th', f_X7_goesThrough_7_b (f_X7_goesThrough_7 f) _ _ = _ ∧ _
    unfold f_X7_goesThrough_7_b f_X7_goesThrough_46
    rw [H.1.1, if_neg (nI_ge hkN (by omega)), m_g_t (nI_in (by omega) (by decide)), nI_clamp (by omega), eo, s1, m_b_s, h1, s4, fa_or, nI_1]
    by_cases e : (a_run (q_P σ c) ((z_go σ k).1, (z_go σ k).2, 0, 0, (fun _ => 0), none) 1).2 = true
    · rw [if_pos e] at hgo
      rw [if_pos e, if_pos rfl, m_l_s]
      obtain ⟨u2, th2, y1, y2, y3⟩ := ih f (k + 1) th (x_sI u1 26 (nI th)) (by omega) (by omega) (HX_xs H (g1 _).1) xI_s h2 (by rw [hgo]; exact h3) (by rw [hgo]; exact s7 e)
      exact ⟨u2, th2, y1, xv_trans (g1 _) y2, y3⟩
    · have e' := Bool.eq_false_iff.mpr e
      rw [if_neg e] at hgo
      rw [if_neg e, if_neg nb_10, m_l_s]
      obtain ⟨u2, th2, y1, y2, y3⟩ := ih f (k + 1) (th ||| sm) (x_sI u1 26 (nI (th ||| sm))) (by omega) (by omega) (HX_xs H (g1 _).1) xI_s (Nat.or_lt_two_pow (n := 8) h2 s5) (fun i hi => by
        rw [hgo, Nat.testBit_or, Bool.or_eq_true]
        exact s6 e' i hi) (by rw [hgo]; exact s8 e')
      exact ⟨u2, th2, y1, xv_trans (g1 _) y2, y3⟩
theorem X_go (hG : qG σ) (HXu : HX u σ) : ∃ u' th', f_X7_goesThrough u = some ((), u') ∧ xv u u' ∧ u'.1 26 = nI th' ∧ th' < 256 ∧ (∀ i, i < 8 → (th'.testBit i = true ↔ ¬ (z_go σ (q_N σ)).2 i = 0)) ∧ (∀ i, i < 8 → ¬ (z_go σ (q_N σ)).2 i = 0 → u'.2 25 i = (z_go σ (q_N σ)).1 i) := by
  have hN := hG.1
  have g : xv u (x_sI u 26 0) := xv_sI (by decide)
  unfold f_X7_goesThrough
  rw [m_l_s]
  obtain ⟨u2, th2, y1, y2, y3⟩ := X_go_loop hG (q_N σ) m_N 0 0 (x_sI u 26 0) (by show _ < 5000; omega) (Nat.zero_add _) (HX_xs HXu g.1) xI_s (by decide) (fun i hi => by
    rw [Nat.zero_testBit]
    exact ⟨fun q => (nomatch q), fun q => absurd rfl q⟩) (fun i hi q => absurd rfl q)
  exact ⟨u2, th2, y1, xv_trans g y2, y3⟩
theorem J_isSetInOrder (J : JI w ρ t0.1 h σ u) (p : Int32) : JG w ρ t0.1 h (q_n σ) [(IOB, 1)] (e_X6_isSetInOrder w h p) (f_X7_isSetInOrder u p) := by
  obtain ⟨hG, HXu, ca, ra, ia, ad, H⟩ := id J
  obtain ⟨u1, th, x1, x2, x3, x4, x5, x6⟩ := X_go hG HXu
  unfold e_X6_isSetInOrder f_X7_isSetInOrder f_X7_isSetInOrder_32 f_X7_isSetInOrder_33
  rw [x1, m_b_s]
  rcases X_ix (p := p) (n := 8) (by decide) with hp | ⟨k, hk, rfl⟩
  · rw [C_nameN hp, m_t_x, X_nameN hp, m_b_s, X_goes0, m_b_s, if_pos rfl, m_g_t vb0]
    exact JG_err J rfl rfl x2.1 (List.mem_cons_self ..)
  obtain ⟨w1, ρ1, y1, y2, y3, y4⟩ := C_go H hG
  have e26 : (x_sI u1 31 0).1 26 = nI th := by rw [xI_n (by decide)]; exact x3
  rw [C_nameY hk, m_t_s, m_g_t (HC_kd H), y1, m_b_s, m_g_t (HC_kd y2), HC_fr y2 (by decide), m_o_s, m_g_t (NM_kd y3).1, NM_hold y3 hk, m_b_s, X_nameY hk, m_b_s, X_goes1, m_b_s, if_neg nb_10, e26, X_has (by omega) (by omega), m_b_s]
  have hx := HX_xs HXu (xs_trans x2.1 (xs_sI (j := 31) (v := 0) (by decide)))
  by_cases c : (z_go σ (q_N σ)).2 k = 0
  · have hb : ¬ th.testBit k = true := fun q => (x5 k hk).mp q c
    rw [if_pos c, m_g_t vb0, if_neg hb, if_pos rfl, m_g_t vb0]
    exact JG_do rfl rfl xI_s hG hx y2 y4
  · have hb : th.testBit k = true := (x5 k hk).mpr c
    rw [if_neg c, m_g_t vb1, if_pos hb, if_neg nb_10, m_g_t vb1]
    exact JG_do rfl rfl xI_s hG hx y2 y4
theorem J_valueInOrder (J : JI w ρ t0.1 h σ u) (p : Int32) : JG w ρ t0.1 h (q_n σ) [(IOB, 1), (ISE, 2)] (e_X6_valueInOrder w h p) (f_X7_valueInOrder u p) := by
  obtain ⟨hG, HXu, ca, ra, ia, ad, H⟩ := id J
  obtain ⟨u1, th, x1, x2, x3, x4, x5, x6⟩ := X_go hG HXu
  unfold e_X6_valueInOrder f_X7_valueInOrder f_X7_valueInOrder_30 f_X7_valueInOrder_31 f_X7_valueInOrder_48 e_X6_requireValue
  rw [x1, m_b_s]
  rcases X_ix (p := p) (n := 8) (by decide) with hp | ⟨k, hk, rfl⟩
  · rw [C_nameN hp, m_t_x, X_nameN hp, m_b_s, if_pos rfl, X_goes0, m_b_s, if_pos rfl]
    exact JG_err J rfl rfl x2.1 (List.mem_cons_self ..)
  obtain ⟨w1, ρ1, y1, y2, y3, y4⟩ := C_go H hG
  rw [C_nameY hk, m_t_s, m_g_t (HC_kd H), y1, m_b_s, m_g_t (HC_kd y2), HC_fr y2 (by decide), m_o_s, m_g_t (NM_kd y3).1, NM_hold y3 hk, m_b_s, X_nameY hk, m_b_s, if_neg nb_10, x3, X_has (by omega) (by omega), m_b_s]
  have hx : ∀ z, HX (x_sI u1 31 z) σ := fun z => HX_xs HXu (xs_trans x2.1 (xs_sI (j := 31) (v := z) (by decide)))
  by_cases c : (z_go σ (q_N σ)).2 k = 0
  · have hb : ¬ th.testBit k = true := fun q => (x5 k hk).mp q c
    rw [if_pos c, if_pos rfl, m_t_x, if_neg hb, if_pos rfl, X_goes10, m_b_s, if_pos rfl]
    exact ⟨.inr ISE, w1, ρ1, 0, x_sI u1 31 2, σ, rfl, rfl, ⟨fun r hr => (nomatch hr), fun F hF => by cases hF; rw [xI_s]; exact List.mem_cons_of_mem _ (List.mem_cons_self ..)⟩, ⟨hG, hx 2, ca, ra, ia, ad, y2⟩, Nat.le_refl _, y4⟩
  · have hb : th.testBit k = true := (x5 k hk).mpr c
    have e25 : (x_sI u1 31 0).2 25 k = (z_go σ (q_N σ)).1 k := x6 k hk c
    rw [if_neg c, if_neg nb_10, m_g_t (NM_kd y3).1, NM_valueOf y3 hk, m_b_s, m_t_s, if_pos hb, if_neg nb_10, X_goes1, m_b_s, if_neg nb_10, m_g_t (nI_in hk (by decide)), nI_clamp (by omega), e25]
    exact JG_do rfl rfl xI_s hG (hx 0) y2 y4
theorem J_unlikeInOrder (J : JI w ρ t0.1 h σ u) : JN w ρ t0.1 h (q_n σ) (e_X6_unlikeInOrder w h) (f_X7_unlikeInOrder u) := by
  obtain ⟨hG, HXu, ca, ra, ia, ad, H⟩ := id J
  have hn := hG.2.2.2.1
  obtain ⟨u1, th, x1, x2, x3, x4, x5, x6⟩ := X_go hG HXu
  obtain ⟨w1, ρ1, y1, y2, y3, y4⟩ := C_go H hG
  have HX1 := HX_xs HXu x2.1
  obtain ⟨na, n1, n2, n3⟩ := HC_nm y2
  have key : ∀ (d f f' j : Nat) (m : Int32), d < f → d < f' → j + d = 8 → ∃ b, e_X6_unlikeInOrder_8 f w1 h m (nI j) = some (b, w1) ∧ f_X7_unlikeInOrder_8 f' u1 m (nI j) = some (b, x_sI u1 31 0) := by
    intro d
    induction d with
    | zero =>
      intro f f' j m hf hf' hj
      obtain ⟨f, rfl⟩ : ∃ q, f = q + 1 := ⟨f - 1, by omega⟩
      obtain ⟨f', rfl⟩ : ∃ q, f' = q + 1 := ⟨f' - 1, by omega⟩
      have hj8 : j = 8 := by omega
      subst hj8
      refine ⟨m, ?_, ?_⟩
      · show e_X6_unlikeInOrder_8_b (e_X6_unlikeInOrder_8 f) _ _ _ _ = _
        unfold e_X6_unlikeInOrder_8_b
        rw [if_pos (by decide +kernel)]
      · show f_X7_unlikeInOrder_8_b (f_X7_unlikeInOrder_8 f') _ _ _ = _
        unfold f_X7_unlikeInOrder_8_b
        rw [if_pos (by decide +kernel), X_told, m_b_s]
    | succ d ih =>
      intro f f' j m hf hf' hj
      obtain ⟨f, rfl⟩ : ∃ q, f = q + 1 := ⟨f - 1, by omega⟩
      obtain ⟨f', rfl⟩ : ∃ q, f' = q + 1 := ⟨f' - 1, by omega⟩
      have hj8 : j < 8 := by omega
      have hS : q_S σ j ≤ q_n σ := (hG.2.2.2.2.1.1 j hj8).1
      have hV : q_S σ j = 0 → q_V σ j = 0 := (hG.2.2.2.2.1.1 j hj8).2
      have hZ := z_go_0 hG (Nat.le_refl (q_N σ)) j hj8
      have a5 := x5 j hj8
      have a6 := x6 j hj8
      obtain ⟨r1, r2, -⟩ := HX1.2.2.2.2.2.1 j hj8
      show ∃ b, e_X6_unlikeInOrder_8_b (e_X6_unlikeInOrder_8 f) _ _ _ _ = _ ∧ f_X7_unlikeInOrder_8_b (f_X7_unlikeInOrder_8 f') _ _ _ = _
      unfold e_X6_unlikeInOrder_8_b e_X6_unlikeInOrder_58 e_X6_unlikeInOrder_64 f_X7_unlikeInOrder_8_b f_X7_unlikeInOrder_39 f_X7_unlikeInOrder_67 f_X7_unlikeInOrder_61 f_X7_unlikeInOrder_68
      have j8 := nI_in2 (c := j) (N := 8) hj8 (by decide)
      rw [if_neg (lge8 hj8), if_neg (lge8 hj8), m_g_t (HC_kd y2), HC_fr y2 (by decide), m_o_s, m_g_t n1, n2, m_o_s, m_g_t (NM_kd n3).1, NM_hold n3 hj8, m_b_s, m_g_t (HC_kd y2), HC_fr y2 (by decide), m_o_s, m_g_t (NM_kd y3).1, NM_hold y3 hj8, m_b_s, m_g_t (HC_kd y2), HC_fr y2 (by decide), m_o_s, m_g_t n1, n2, m_o_s, m_g_t (NM_kd n3).1, NM_valueOf n3 hj8, m_b_s, m_g_t (HC_kd y2), HC_fr y2 (by decide), m_o_s, m_g_t (NM_kd y3).1, NM_valueOf y3 hj8, m_b_s,
        x3, X_has (by omega) (by omega), m_b_s, m_g_t (nI_in hj8 (by decide)), nI_clamp (by omega), r1, nI_1]
      have or0 : m ||| 0 = m := by
        apply Int32.toBitVec_inj.1
        show m.toBitVec ||| 0#32 = m.toBitVec
        simp
      by_cases c1 : q_S σ j = 0
      · rw [if_pos (show nI (q_S σ j) = 0 by rw [c1]; exact nI_0), if_pos ((pos_le (by omega)).mpr c1)]
        by_cases c2 : (z_go σ (q_N σ)).2 j = 0
        · have hb : ¬ th.testBit j = true := fun q => a5.mp q c2
          rw [if_pos c2, if_pos rfl, if_pos (by rw [hV c1, hZ c2]), if_neg hb, if_pos rfl, if_pos rfl, or0]
          exact ih f f' (j + 1) m (by omega) (by omega) (by omega)
        · have hb : th.testBit j = true := a5.mpr c2
          rw [if_neg c2, if_neg (show ¬ (0 : Int32) = 1 by decide), if_pos hb, if_neg (show ¬ (1 : Int32) = 0 by decide)]
          exact ih f f' (j + 1) _ (by omega) (by omega) (by omega)
      · rw [if_neg (nI_ne0 (by omega) (by omega)), if_neg (fun q => c1 ((pos_le (by omega)).mp q))]
        by_cases c2 : (z_go σ (q_N σ)).2 j = 0
        · have hb : ¬ th.testBit j = true := fun q => a5.mp q c2
          rw [if_pos c2, if_neg (show ¬ (1 : Int32) = 0 by decide), if_neg hb, if_neg (show ¬ (0 : Int32) = 1 by decide)]
          exact ih f f' (j + 1) _ (by omega) (by omega) (by omega)
        · have hb : th.testBit j = true := a5.mpr c2
          rw [if_neg c2, if_pos rfl, if_pos hb, if_pos rfl, if_neg nb_10, m_g_t j8, m_g_t j8, a6 c2, r2 c1]
          by_cases c3 : q_V σ j = (z_go σ (q_N σ)).1 j
          · rw [if_pos c3, if_pos c3.symm, or0]
            exact ih f f' (j + 1) m (by omega) (by omega) (by omega)
          · rw [if_neg c3, if_neg (fun q => c3 q.symm)]
            exact ih f f' (j + 1) _ (by omega) (by omega) (by omega)
  obtain ⟨b, z1, z2⟩ := key 8 m_N m_N 0 0 (by decide) (by decide) rfl
  refine ⟨w1, ρ1, b, x_sI u1 31 0, σ, ?_, ?_, ⟨hG, HX_xs HX1 (xs_sI (by decide)), ca, ra, ia, ad, y2⟩, Nat.le_refl _, y4⟩
  · unfold e_X6_unlikeInOrder
    rw [m_g_t (HC_kd H), y1, m_b_s]
    exact z1
  · unfold f_X7_unlikeInOrder
    rw [x1, m_b_s]
    exact z2
end JO
