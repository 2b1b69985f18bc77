/-! cells and images added -/
section JE
variable {w : mW} {ρ : Nat → Nat} {t0 : Nat × Nat × Nat × Nat} {h : Nat} {σ : qS} {u : xS}
def z_add (σ : qS) : qS := (q_N σ + 1, q_O σ ++ [q_N σ], va_up (q_P σ) (q_N σ) [], va_up (q_C σ) (q_N σ) 0, va_up (q_R σ) (q_N σ) (fun j => if j = 0 then 3 else 0), σ.2.2.2.2.2)
theorem z_add_G (hG : qG σ) (h16 : q_N σ < 16) : qG (z_add σ) := by
  obtain ⟨g1, ⟨g2, g2', g2''⟩, g3, g4, g5, g6, g7, g8, g9⟩ := hG
  have hn : ∀ x, nG (q_N σ) (q_n σ) (q_r σ) x → nG (q_N σ + 1) (q_n σ) (q_r σ) x := fun x hx => ⟨hx.1, fun k => ⟨(hx.2 k).1, fun hk => (hx.2 k).2.1 (by omega), (hx.2 k).2.2⟩⟩
  refine ⟨(show q_N σ + 1 ≤ 16 by omega), ⟨?_, ?_, fun x => ?_⟩, fun k hk => ?_, g4, hn _ g5, fun i hi => ?_, g7, g8, fun i hi => hn _ (g9 i hi)⟩
  · show (q_O σ ++ [q_N σ]).length = q_N σ + 1
    rw [List.length_append, List.length_singleton, g2]
  · show (q_O σ ++ [q_N σ]).Nodup
    rw [List.nodup_append]
    refine ⟨g2', List.pairwise_singleton _ _, fun a ha b hb => ?_⟩
    rw [List.mem_singleton.mp hb]
    have := (g2'' a).mp ha
    omega
  · show x ∈ q_O σ ++ [q_N σ] ↔ x < q_N σ + 1
    rw [List.mem_append, List.mem_singleton, g2'']
    omega
  · have hk' : k < q_N σ + 1 := hk
    show (va_up (q_P σ) (q_N σ) [] k).length ≤ 6 ∧ (∀ x ∈ va_up (q_P σ) (q_N σ) [] k, a_okS x) ∧ va_up (q_C σ) (q_N σ) 0 k ≤ q_n σ ∧ va_up (q_R σ) (q_N σ) (fun j => if j = 0 then 3 else 0) k 0 = 3 ∧ ∀ j, j < 5 → va_up (q_R σ) (q_N σ) (fun j => if j = 0 then 3 else 0) k j ≤ 3
    by_cases e : k = q_N σ
    · subst e
      rw [va_up_s, va_up_s, va_up_s]
      refine ⟨by decide, fun x hx => (nomatch hx), Nat.zero_le _, rfl, fun j _ => ?_⟩
      show (if j = 0 then 3 else 0) ≤ 3
      split <;> decide
    · rw [va_up_n e, va_up_n e, va_up_n e]
      exact g3 k (by omega)
  · obtain ⟨a, b, c, d⟩ := g6 i hi
    exact ⟨Nat.lt_succ_of_lt a, b, c, d⟩
theorem J_addCell (J : JI w ρ t0.1 h σ u) : JG w ρ t0.1 h (q_n σ) [(ISE, 1)] (e_X6_addCell t0 w h) (f_X7_addCell u) := by
  obtain ⟨hG, HXu, ca, ra, ia, ad, H⟩ := id J
  have hN := hG.1
  have hA := HC_a0 H
  unfold e_X6_addCell f_X7_addCell f_X7_addCell_15
  rw [m_g_t (HC_kd H), HC_fr H (by decide), m_o_s, m_g_t (AL_k3 hA), AL_size2 hA, m_b_s, HXu.1.1]
  by_cases c : q_N σ < 16
  · have q1 : ch (fun _ => False) w ρ (m_nO w 4) (va_up ρ (m_nx w) (100 + 4 * q_N σ)) := ch_nO
    have t1 : tg (m_nO w 4) (va_up ρ (m_nx w) (100 + 4 * q_N σ)) (m_nx w) 5 (100 + 4 * q_N σ) := ⟨by simp only [kd_sI, fi_sI, fr_sI, ln_sI, ia_sI, oa_sI, la_sI, nx_sI, kd_sR, fi_sR, fr_sR, ln_sR, ia_sR, oa_sR, la_sR, nx_sR, kd_sA, fi_sA, fr_sA, ln_sA, ia_sA, oa_sA, la_sA, nx_sA, kd_sO, fi_sO, fr_sO, ln_sO, ia_sO, oa_sO, la_sO, nx_sO, kd_sL, fi_sL, fr_sL, ln_sL, ia_sL, oa_sL, la_sL, nx_sL, kd_sF, fi_sF, fr_sF, ln_sF, ia_sF, oa_sF, la_sF, nx_sF, kd_sG, fi_sG, fr_sG, ln_sG, ia_sG, oa_sG, la_sG, nx_sG, kd_sX, fi_sX, fr_sX, ln_sX, ia_sX, oa_sX, la_sX, nx_sX, kd_nO, fi_nO, fr_nO, ln_nO, ia_nO, oa_nO, la_nO, nx_nO, kd_nA, fi_nA, fr_nA, ln_nA, ia_nA, oa_nA, la_nA, nx_nA, va_up_s], va_up_s, by simp only [kd_sI, fi_sI, fr_sI, ln_sI, ia_sI, oa_sI, la_sI, nx_sI, kd_sR, fi_sR, fr_sR, ln_sR, ia_sR, oa_sR, la_sR, nx_sR, kd_sA, fi_sA, fr_sA, ln_sA, ia_sA, oa_sA, la_sA, nx_sA, kd_sO, fi_sO, fr_sO, ln_sO, ia_sO, oa_sO, la_sO, nx_sO, kd_sL, fi_sL, fr_sL, ln_sL, ia_sL, oa_sL, la_sL, nx_sL, kd_sF, fi_sF, fr_sF, ln_sF, ia_sF, oa_sF, la_sF, nx_sF, kd_sG, fi_sG, fr_sG, ln_sG, ia_sG, oa_sG, la_sG, nx_sG, kd_sX, fi_sX, fr_sX, ln_sX, ia_sX, oa_sX, la_sX, nx_sX, kd_nO, fi_nO, fr_nO, ln_nO, ia_nO, oa_nO, la_nO, nx_nO, kd_nA, fi_nA, fr_nA, ln_nA, ia_nA, oa_nA, la_nA, nx_nA]; omega⟩
    have D1 := DF_ch H.1.2.2 q1 (fun q => q)
    obtain ⟨w2, ρ2, y1, y2, y3⟩ := CE_init t1 (by omega) D1 (q_N σ)
    have G2 : ch (Sr (100 + 4 * q_N σ) 4) w ρ w2 ρ2 := ch_trans (ch_mono q1 (fun _ hq => hq.elim)) y3
    generalize m_nx w = x at *
    have a2 := p0 H.1 G2
    have A2 := pAL hA G2
    have x2 := CE_kd y2
    obtain ⟨w3, ρ3, z1, z2, z3⟩ := AL_add (t0 := t0) A2 (by decide) (by rw [List.length_map, List.length_range]; omega) (x := x) ⟨x2.2.2, by rw [x2.1]; decide, by rw [x2.1]; decide⟩
    have a3 := p0 a2 z3
    have Y3 := CE_ch y2 z3 (by unfold S2; omega) (fun q _ _ => by unfold S2; omega)
    have G3 : ch (fun q => Sr (100 + 4 * q_N σ) 4 q ∨ S2 10 q) w ρ w3 ρ3 := ch_trans (ch_mono G2 (fun _ hq => Or.inl hq)) (ch_mono z3 (fun _ hq => Or.inr hq))
    have A3 := pAL (HC_a1 H) G3
    have x3 := CE_kd Y3
    obtain ⟨w4, ρ4, v1, v2, v3⟩ := AL_add (t0 := t0) A3 (by decide) (by rw [List.length_map, hG.2.1.1]; omega) (x := x) ⟨x3.2.2, by rw [x3.1]; decide, by rw [x3.1]; decide⟩
    have G4 : ch (fun q => (Sr (100 + 4 * q_N σ) 4 q ∨ S2 10 q) ∨ S2 12 q) w ρ w4 ρ4 := ch_trans (ch_mono G3 (fun _ hq => Or.inl hq)) (ch_mono v3 (fun _ hq => Or.inr hq))
    have Y4 := CE_ch Y3 v3 (by unfold S2; omega) (fun q _ _ => by unfold S2; omega)
    have ck : ∀ i, i < q_n σ → va_up ca (q_N σ) x (q_r σ i).1 = ca (q_r σ i).1 := fun i hi => by
      have := (hG.2.2.2.2.2.1 i hi).1
      exact va_up_n (by omega)
    rw [if_pos (show nI (q_N σ) < 16 from nI_lt (b := 16) c (by decide)), m_l_s, y1, m_b_s, m_g_t a2.1.1, a2.2.1 0 (by decide), m_o_s, m_g_t (AL_k3 A2), z1, m_b_s, m_g_t a3.1.1, a3.2.1 1 (by decide), m_o_s, m_g_t (AL_k3 A3), v1, m_b_s,
      if_neg (show ¬ (16 : Int32) ≤ nI (q_N σ) from nI_ge (b := 16) c (by decide)), X_goes1, m_b_s, if_neg nb_10, show (x_sI u 31 0).1 0 = nI (q_N σ) from HXu.1.1, m_g_t (nI_in c (by decide)), m_l_s, nI_clamp (by omega),
      show (x_sA (x_sI u 31 0) 1 (q_N σ) (nI (q_N σ))).1 0 = nI (q_N σ) from HXu.1.1, nI_1, m_l_s, xI_s, nI_pred]
    have B2 := pAL (HC_a2 H) G4
    have B3 := pAL (HC_a3 H) G4
    have B4 := pAL (HC_a4 H) G4
    refine JG_do (ca := va_up ca (q_N σ) x) (ra := ra) (ia := ia) (ad := ad) (σ' := z_add σ) rfl rfl ?_ (z_add_G hG c) ?_ ⟨p0 a3 v3, ?_, ?_, B2, B3, B4, pSEN H.2.2.2.2.2.2.1 G4, pNM H.2.2.2.2.2.2.2.1 G4, pAT0 H.2.2.2.2.2.2.2.2.1 G4, fun k hk => ?_, fun i hi => ?_, pIMs H.2.2.2.2.2.2.2.2.2.2.2 hG.2.2.2.2.2.2.2.1 G4⟩ (ch_mono G4 (fun q hq => by unfold SC; unfold Sr S2 at hq; omega))
    · rw [xI_n (by decide)]; exact (show (x_sI u 31 0).1 31 = 0 from xI_s)
    · obtain ⟨⟨a1, a2, a3⟩, b1, b2, b3, b4, b5, b6, b7, b8, b9⟩ := HXu
      have r2 : ∀ t, t ≠ 1 → (x_sI (x_sA (x_sI u 31 0) 1 (q_N σ) (nI (q_N σ))) 0 (nI (q_N σ + 1))).2 t = u.2 t := fun t ht => xA_n ht
      refine ⟨⟨xI_s, (xI_n (by decide)).trans a2, (xI_n (by decide)).trans a3⟩, fun k hk => ?_, fun k hk => ?_, fun k h1 h2 => ?_, fun k hk => ?_, fun i hi => ?_, fun i hi => ?_, fun i h1 h2 => ?_, ?_, fun i hi => ?_⟩
      · have hk' : k < q_N σ + 1 := hk
        show (x_sA (x_sI u 31 0) 1 (q_N σ) (nI (q_N σ))).2 1 k = nI ((q_O σ ++ [q_N σ]).getD k 0)
        rw [xA_s]
        by_cases e : k = q_N σ
        · subst e
          rw [pk_us, List.getD_eq_getElem?_getD, List.getElem?_append_right (by rw [hG.2.1.1]; exact Nat.le_refl _), hG.2.1.1, Nat.sub_self]
          rfl
        · rw [pk_un e, List.getD_eq_getElem?_getD, List.getElem?_append_left (by rw [hG.2.1.1]; omega), ← List.getD_eq_getElem?_getD]
          exact b1 k (by omega)
      · have hk' : k < q_N σ + 1 := hk
        rw [r2 2 (by decide), r2 7 (by decide), r2 9 (by decide), r2 3 (by decide), r2 4 (by decide), r2 5 (by decide), r2 6 (by decide)]
        show u.2 2 k = nI (va_up (q_P σ) (q_N σ) [] k).length ∧ u.2 7 k = nI (va_up (q_C σ) (q_N σ) 0 k) ∧ (∀ j, 1 ≤ j → j < 5 → u.2 9 (16 * j + k) = nI (va_up (q_R σ) (q_N σ) (fun j => if j = 0 then 3 else 0) k j)) ∧ ∀ j (hj : j < (va_up (q_P σ) (q_N σ) [] k).length), u.2 3 (6 * k + j) = nI (va_up (q_P σ) (q_N σ) [] k)[j].1 ∧ u.2 4 (6 * k + j) = nI (va_up (q_P σ) (q_N σ) [] k)[j].2.1 ∧ u.2 5 (6 * k + j) = nI (va_up (q_P σ) (q_N σ) [] k)[j].2.2.1 ∧ u.2 6 (6 * k + j) = nI (va_up (q_P σ) (q_N σ) [] k)[j].2.2.2
        by_cases e : k = q_N σ
        · subst e
          simp only [va_up_s]
          obtain ⟨m1, m2, m3⟩ := b3 (q_N σ) (Nat.le_refl _) c
          refine ⟨m1, m2, fun j j1 j2 => ?_, fun j hj => absurd hj (by show ¬ j < 0; omega)⟩
          rw [if_neg (by omega)]
          exact m3 j j1 j2
        · simp only [va_up_n e]
          exact b2 k (by omega)
      · have h1' : q_N σ + 1 ≤ k := h1
        rw [r2 2 (by decide), r2 7 (by decide), r2 9 (by decide)]
        exact b3 k (by omega) h2
      · rw [r2 8 (by decide)]; exact b4 k hk
      · rw [r2 11 (by decide), r2 10 (by decide), r2 12 (by decide)]; exact b5 i hi
      · rw [r2 14 (by decide), r2 15 (by decide), r2 16 (by decide), r2 17 (by decide), r2 18 (by decide), r2 19 (by decide), r2 20 (by decide)]; exact b6 i hi
      · rw [r2 19 (by decide)]; exact b7 i h1 h2
      · rw [r2 16 (by decide), r2 18 (by decide)]; exact b8
      · rw [r2 23 (by decide), r2 22 (by decide), r2 24 (by decide)]; exact b9 i hi
    · have := pAL z2 v3
      rw [← map_up] at this
      exact this
    · show AL w4 ρ4 t0.1 (ad 1) 12 ((q_O σ ++ [q_N σ]).map (va_up ca (q_N σ) x))
      rw [List.map_append, map_up2 (fun k hk => (hG.2.1.2.2 k).mp hk), List.map_singleton, va_up_s]
      exact v2
    · have hk' : k < q_N σ + 1 := hk
      show CEP w4 ρ4 t0.1 (va_up ca (q_N σ) x k) k (va_up (q_P σ) (q_N σ) [] k) (va_up (q_C σ) (q_N σ) 0 k) (va_up (q_R σ) (q_N σ) (fun j => if j = 0 then 3 else 0) k)
      by_cases e : k = q_N σ
      · subst e
        rw [va_up_s, va_up_s, va_up_s, va_up_s]
        refine ⟨[], CE_cong Y4 (fun i hi => ?_), rfl, fun j hj => absurd hj (by show ¬ j < 0; omega)⟩
        show upd (fun _ => 0) 0 3 i = nI (if i = 0 then 3 else 0)
        by_cases e : i = 0
        · subst e; rw [pk_us, if_pos rfl]; rfl
        · rw [pk_un e, if_neg e]; rfl
      · rw [va_up_n e, va_up_n e, va_up_n e, va_up_n e]
        have hk2 : k < q_N σ := by omega
        exact CEP_ch (H.2.2.2.2.2.2.2.2.2.1 k hk2) G4 (hG.2.2.1 k hk2).1 (by unfold Sr S2; omega) (fun q z1 z2 => by unfold Sr S2; omega) (fun q z1 z2 => by unfold Sr S2; omega)
    · show RU w4 ρ4 (ra i) (3000 + 2 * i) (i + 1) (va_up ca (q_N σ) x (q_r σ i).1) (q_r σ i)
      rw [ck i hi]
      exact RU_ch (HC_ru H hi) G4 (by unfold Sr S2; omega) (by unfold Sr S2; omega)
  · rw [if_neg (show ¬ nI (q_N σ) < 16 from nI_nlt (b := 16) (by omega) (by omega)), if_pos (show (16 : Int32) ≤ nI (q_N σ) from nI_le (a := 16) (by omega) (by omega)), X_goes0, m_b_s, if_pos rfl]
    exact JG_err J rfl rfl xs_rfl (List.mem_cons_self ..)
def z_keep (σ : qS) : qS := (q_N σ, q_O σ, q_P σ, q_C σ, q_R σ, (q_V σ, q_S σ, q_L σ), (q_n σ, q_r σ), q_G σ, (q_m σ + 1, va_up (q_I σ) (q_m σ) (q_V σ, q_S σ, q_L σ)))
theorem J_keep (J : JI w ρ t0.1 h σ u) : JG w ρ t0.1 h (q_n σ) [(ISE, 1)] (e_X6_keep t0 w h) (f_X7_keep u) := by
  obtain ⟨hG, HXu, ca, ra, ia, ad, H⟩ := id J
  have hN := hG.1
  have hm := hG.2.2.2.2.2.2.2.1
  have hA := HC_a4 H
  unfold e_X6_keep f_X7_keep f_X7_keep_15
  rw [m_g_t (HC_kd H), HC_fr H (by decide), m_o_s, m_g_t (AL_k3 hA), AL_size2 hA, m_b_s, HXu.1.2.2]
  by_cases c : q_m σ < 10
  · have q1 : ch (fun _ => False) w ρ (m_nO w 7) (va_up ρ (m_nx w) (200 + 5 * q_m σ)) := ch_nO
    have t1 : tg (m_nO w 7) (va_up ρ (m_nx w) (200 + 5 * q_m σ)) (m_nx w) 8 (200 + 5 * q_m σ) := ⟨by simp only [kd_sI, fi_sI, fr_sI, ln_sI, ia_sI, oa_sI, la_sI, nx_sI, kd_sR, fi_sR, fr_sR, ln_sR, ia_sR, oa_sR, la_sR, nx_sR, kd_sA, fi_sA, fr_sA, ln_sA, ia_sA, oa_sA, la_sA, nx_sA, kd_sO, fi_sO, fr_sO, ln_sO, ia_sO, oa_sO, la_sO, nx_sO, kd_sL, fi_sL, fr_sL, ln_sL, ia_sL, oa_sL, la_sL, nx_sL, kd_sF, fi_sF, fr_sF, ln_sF, ia_sF, oa_sF, la_sF, nx_sF, kd_sG, fi_sG, fr_sG, ln_sG, ia_sG, oa_sG, la_sG, nx_sG, kd_sX, fi_sX, fr_sX, ln_sX, ia_sX, oa_sX, la_sX, nx_sX, kd_nO, fi_nO, fr_nO, ln_nO, ia_nO, oa_nO, la_nO, nx_nO, kd_nA, fi_nA, fr_nA, ln_nA, ia_nA, oa_nA, la_nA, nx_nA, va_up_s], va_up_s, by simp only [kd_sI, fi_sI, fr_sI, ln_sI, ia_sI, oa_sI, la_sI, nx_sI, kd_sR, fi_sR, fr_sR, ln_sR, ia_sR, oa_sR, la_sR, nx_sR, kd_sA, fi_sA, fr_sA, ln_sA, ia_sA, oa_sA, la_sA, nx_sA, kd_sO, fi_sO, fr_sO, ln_sO, ia_sO, oa_sO, la_sO, nx_sO, kd_sL, fi_sL, fr_sL, ln_sL, ia_sL, oa_sL, la_sL, nx_sL, kd_sF, fi_sF, fr_sF, ln_sF, ia_sF, oa_sF, la_sF, nx_sF, kd_sG, fi_sG, fr_sG, ln_sG, ia_sG, oa_sG, la_sG, nx_sG, kd_sX, fi_sX, fr_sX, ln_sX, ia_sX, oa_sX, la_sX, nx_sX, kd_nO, fi_nO, fr_nO, ln_nO, ia_nO, oa_nO, la_nO, nx_nO, kd_nA, fi_nA, fr_nA, ln_nA, ia_nA, oa_nA, la_nA, nx_nA]; omega⟩
    obtain ⟨w2, ρ2, y1, y2, y3⟩ := SE_init t1
    have G2 : ch (Sr (200 + 5 * q_m σ) 5) w ρ w2 ρ2 := ch_trans (ch_mono q1 (fun _ hq => hq.elim)) (ch_mono y3 (fun q hq => by unfold Sr; omega))
    generalize m_nx w = x at *
    have a2 := p0 H.1 G2
    have S2' := pSEN H.2.2.2.2.2.2.1 G2
    obtain ⟨w3, z1, z2, z3⟩ := SE_becomeLike (by omega) y2 S2'
    have z2' : SEN w3 ρ2 x (200 + 5 * q_m σ) (q_V σ, q_S σ, q_L σ) := z2
    have a3 := p0 a2 z3
    have G3 : ch (Sr (200 + 5 * q_m σ) 5) w ρ w3 ρ2 := ch_trans G2 z3
    have A3 := pAL hA G3
    have x3 := SE_kd z2
    obtain ⟨w4, ρ4, v1, v2, v3⟩ := AL_add (t0 := t0) A3 (by decide) (by rw [List.length_map, List.length_range]; omega) (x := x) ⟨x3.2.2, by rw [x3.1]; decide, by rw [x3.1]; decide⟩
    have G4 : ch (fun q => Sr (200 + 5 * q_m σ) 5 q ∨ S2 18 q) w ρ w4 ρ4 := ch_trans (ch_mono G3 (fun _ hq => Or.inl hq)) (ch_mono v3 (fun _ hq => Or.inr hq))
    have S3' := pSEN S2' z3
    -- the reference's loops
    have hrow : ∀ j, j < 8 → u.2 11 j = nI (q_S σ j) ∧ (q_S σ j ≠ 0 → u.2 10 j = q_V σ j) := fun j hj => ⟨(HXu.2.2.2.2.2.1 j hj).1, (HXu.2.2.2.2.2.1 j hj).2.1⟩
    have X2 : ∀ (d f j : Nat) (v : xS), d < f → j + d = 16 → (v.1 = (x_sI u 31 0).1 ∧ (∀ t, t ≠ 22 → t ≠ 23 → t ≠ 24 → v.2 t = u.2 t) ∧ (∀ i, i < 16 * q_m σ → v.2 24 i = u.2 24 i) ∧ ∀ k, k < 16 → k < j → v.2 24 (16 * q_m σ + k) = nI (q_L σ k)) → ∃ v', f_X7_keep_81 f v (nI j) = some (nI (q_m σ), x_sI v' 21 (nI (q_m σ + 1))) ∧ v'.1 = (x_sI u 31 0).1 ∧ (∀ t, t ≠ 24 → v'.2 t = v.2 t) ∧ (∀ i, i < 16 * q_m σ → v'.2 24 i = u.2 24 i) ∧ ∀ k, k < 16 → v'.2 24 (16 * q_m σ + k) = nI (q_L σ k) := by
      intro d
      induction d with
      | zero =>
        intro f j v hf hj hv
        obtain ⟨f, rfl⟩ : ∃ q, f = q + 1 := ⟨f - 1, by omega⟩
        have hj8 : j = 16 := by omega
        subst hj8
        refine ⟨v, ?_, hv.1, fun _ _ => rfl, hv.2.2.1, fun k hk => hv.2.2.2 k hk hk⟩
        show f_X7_keep_81_b (f_X7_keep_81 f) _ _ = _
        unfold f_X7_keep_81_b
        have e21 : v.1 21 = nI (q_m σ) := by rw [hv.1]; exact HXu.1.2.2
        rw [if_pos (by decide +kernel), e21, nI_1, m_l_s, xI_s, nI_pred]
      | succ d ih =>
        intro f j v hf hj hv
        obtain ⟨f, rfl⟩ : ∃ q, f = q + 1 := ⟨f - 1, by omega⟩
        have hj8 : j < 16 := by omega
        have e21 : v.1 21 = nI (q_m σ) := by rw [hv.1]; exact HXu.1.2.2
        have e8 : v.2 8 j = nI (q_L σ j) := by rw [hv.2.1 8 (by decide) (by decide) (by decide)]; exact HXu.2.2.2.2.1 j hj8
        have e16 : 16 * nI (q_m σ) + nI j = nI (16 * q_m σ + j) := by rw [show (16 : Int32) = nI 16 from rfl, pk_mul, nI_add]
        obtain ⟨v', y1, y2, y3, y4⟩ := ih f (j + 1) (x_sA v 24 (16 * q_m σ + j) (nI (q_L σ j))) (by omega) (by omega) ⟨hv.1, fun t t22 t23 t24 => by rw [xA_n t24]; exact hv.2.1 t t22 t23 t24, fun i hi => by rw [xA_s, pk_un (by omega)]; exact hv.2.2.1 i hi, fun k hk hkj => by
          rw [xA_s]
          by_cases e : k = j
          · subst e; rw [pk_us]
          · rw [pk_un (by omega)]; exact hv.2.2.2 k hk (by omega)⟩
        refine ⟨v', ?_, y2, fun t ht => by rw [y3 t ht, xA_n ht], y4⟩
        show f_X7_keep_81_b (f_X7_keep_81 f) _ _ = _
        unfold f_X7_keep_81_b
        rw [if_neg (lge16 hj8), e21, e16, m_g_t (nI_in hj8 (by decide)), m_g_t (nI_in (by omega) (by decide)), m_l_s, nI_clamp (by omega), nI_clamp (by omega), e8, nI_1]
        exact y1
    have X1 : ∀ (d f j : Nat) (v : xS), d < f → j + d = 8 → (v.1 = (x_sI u 31 0).1 ∧ (∀ t, t ≠ 22 → t ≠ 23 → v.2 t = u.2 t) ∧ (∀ i, i < 8 * q_m σ → v.2 22 i = u.2 22 i ∧ v.2 23 i = u.2 23 i) ∧ ∀ k, k < 8 → k < j → v.2 23 (8 * q_m σ + k) = nI (q_S σ k) ∧ (q_S σ k ≠ 0 → v.2 22 (8 * q_m σ + k) = q_V σ k)) → ∃ v', f_X7_keep_27 f v (nI j) = f_X7_keep_81 m_N v' 0 ∧ v'.1 = (x_sI u 31 0).1 ∧ (∀ t, t ≠ 22 → t ≠ 23 → v'.2 t = u.2 t) ∧ (∀ i, i < 8 * q_m σ → v'.2 22 i = u.2 22 i ∧ v'.2 23 i = u.2 23 i) ∧ ∀ k, k < 8 → v'.2 23 (8 * q_m σ + k) = nI (q_S σ k) ∧ (q_S σ k ≠ 0 → v'.2 22 (8 * q_m σ + k) = q_V σ k) := by
      intro d
      induction d with
      | zero =>
        intro f j v hf hj hv
        obtain ⟨f, rfl⟩ : ∃ q, f = q + 1 := ⟨f - 1, by omega⟩
        have hj8 : j = 8 := by omega
        subst hj8
        refine ⟨v, ?_, hv.1, hv.2.1, hv.2.2.1, fun k hk => hv.2.2.2 k hk hk⟩
        show f_X7_keep_27_b (f_X7_keep_27 f) _ _ = _
        unfold f_X7_keep_27_b
        rw [if_pos (by decide +kernel)]
      | succ d ih =>
        intro f j v hf hj hv
        obtain ⟨f, rfl⟩ : ∃ q, f = q + 1 := ⟨f - 1, by omega⟩
        have hj8 : j < 8 := by omega
        have e21 : v.1 21 = nI (q_m σ) := by rw [hv.1]; exact HXu.1.2.2
        have e10 : v.2 10 j = u.2 10 j := by rw [hv.2.1 10 (by decide) (by decide)]
        have e8 : 8 * nI (q_m σ) + nI j = nI (8 * q_m σ + j) := by rw [show (8 : Int32) = nI 8 from rfl, pk_mul, nI_add]
        have e11 : (x_sA v 22 (8 * q_m σ + j) (u.2 10 j)).2 11 j = u.2 11 j := by rw [xA_n (by decide), hv.2.1 11 (by decide) (by decide)]
        have e21' : (x_sA v 22 (8 * q_m σ + j) (u.2 10 j)).1 21 = nI (q_m σ) := e21
        obtain ⟨v', y1, y2⟩ := ih f (j + 1) (x_sA (x_sA v 22 (8 * q_m σ + j) (u.2 10 j)) 23 (8 * q_m σ + j) (u.2 11 j)) (by omega) (by omega) ⟨hv.1, fun t t22 t23 => by rw [xA_n t23, xA_n t22]; exact hv.2.1 t t22 t23, fun i hi => by
          rw [xA_n (t := 22) (by decide), xA_s, xA_s, pk_un (by omega), pk_un (by omega), xA_n (by decide)]; exact hv.2.2.1 i hi, fun k hk hkj => by
          rw [xA_n (t := 22) (by decide), xA_s, xA_s]
          by_cases e : k = j
          · subst e; rw [pk_us, pk_us]; exact hrow k hk
          · rw [pk_un (by omega), pk_un (by omega), xA_n (by decide)]; exact hv.2.2.2 k hk (by omega)⟩
        refine ⟨v', ?_, y2⟩
        show f_X7_keep_27_b (f_X7_keep_27 f) _ _ = _
        unfold f_X7_keep_27_b
        rw [if_neg (lge8 hj8), e21, e8, m_g_t (nI_in hj8 (by decide)), m_g_t (nI_in (by omega) (by decide)), m_l_s, nI_clamp (show j < 2 ^ 31 by omega), nI_clamp (show 8 * q_m σ + j < 2 ^ 31 by omega), e10, m_g_t (nI_in2 hj8 (by decide)), e21', e8, m_g_t (nI_in (by omega) (by decide)), m_l_s, nI_clamp (show 8 * q_m σ + j < 2 ^ 31 by omega), e11, nI_1]
        exact y1
    obtain ⟨u1, s1, s2, s3, s4, s5⟩ := X1 8 m_N 0 (x_sI u 31 0) (by decide) rfl ⟨rfl, fun _ _ _ => rfl, fun _ _ => ⟨rfl, rfl⟩, fun k _ hk => absurd hk (by omega)⟩
    obtain ⟨u2, r1, r2, r3, r4, r5⟩ := X2 16 m_N 0 u1 (by decide) rfl ⟨s2, fun t t22 t23 _ => s3 t t22 t23, fun i _ => by rw [s3 24 (by decide) (by decide)], fun k _ hk => absurd hk (by omega)⟩
    have s1' : f_X7_keep_27 m_N (x_sI u 31 0) 0 = f_X7_keep_81 m_N u1 0 := s1
    have r1' : f_X7_keep_81 m_N u1 0 = some (nI (q_m σ), x_sI u2 21 (nI (q_m σ + 1))) := r1
    rw [if_pos (show nI (q_m σ) < 10 from nI_lt (b := 10) c (by decide)), m_l_s, y1, m_b_s, m_g_t a2.1.1, a2.2.1 5 (by decide), m_o_s, m_g_t (SE_kd y2).1, z1, m_b_s, m_g_t a3.1.1, a3.2.1 4 (by decide), m_o_s, m_g_t (AL_k3 A3), v1, m_b_s,
      if_neg (show ¬ (10 : Int32) ≤ nI (q_m σ) from nI_ge (b := 10) c (by decide)), X_goes1, m_b_s, if_neg nb_10, s1', r1']
    have rr : ∀ t, t ≠ 22 → t ≠ 23 → t ≠ 24 → (x_sI u2 21 (nI (q_m σ + 1))).2 t = u.2 t := fun t t22 t23 t24 => (r3 t t24).trans (s3 t t22 t23)
    have rn : ∀ t, t ≠ 21 → (x_sI u2 21 (nI (q_m σ + 1))).1 t = (x_sI u 31 0).1 t := fun t ht => by rw [xI_n ht, r2]
    have B0 := pAL (HC_a0 H) G4
    have B1 := pAL (HC_a1 H) G4
    have B2 := pAL (HC_a2 H) G4
    have B3 := pAL (HC_a3 H) G4
    refine JG_do (ca := ca) (ra := ra) (ia := va_up ia (q_m σ) x) (ad := ad) (σ' := z_keep σ) rfl rfl ?_ ?_ ?_ ⟨p0 a3 v3, B0, B1, B2, B3, ?_, pSEN S3' v3, pNM H.2.2.2.2.2.2.2.1 G4, pAT0 H.2.2.2.2.2.2.2.2.1 G4, pCEs H.2.2.2.2.2.2.2.2.2.1 (fun k hk => (hG.2.2.1 k hk).1) hN G4, pRUs H.2.2.2.2.2.2.2.2.2.2.1 G4, fun i hi => ?_⟩ (ch_mono G4 (fun q hq => by unfold SC; unfold Sr S2 at hq; omega))
    · rw [rn 31 (by decide)]; exact xI_s
    · obtain ⟨g1, g2, g3, g4, g5, g6, g7, g8, g9⟩ := hG
      refine ⟨g1, g2, g3, g4, g5, g6, g7, (show q_m σ + 1 ≤ 10 by omega), fun i hi => ?_⟩
      have hi' : i < q_m σ + 1 := hi
      show nG (q_N σ) (q_n σ) (q_r σ) (va_up (q_I σ) (q_m σ) (q_V σ, q_S σ, q_L σ) i)
      by_cases e : i = q_m σ
      · subst e; rw [va_up_s]; exact g5
      · rw [va_up_n e]; exact g9 i (by omega)
    · obtain ⟨⟨a1, a2, a3⟩, b1, b2, b3, b4, b5, b6, b7, b8, b9⟩ := HXu
      refine ⟨⟨(rn 0 (by decide)).trans a1, (rn 13 (by decide)).trans a2, xI_s⟩, fun k hk => ?_, fun k hk => ?_, fun k h1 h2 => ?_, fun k hk => ?_, fun i hi => ?_, fun i hi => ?_, fun i h1 h2 => ?_, ?_, fun i hi => ?_⟩
      · rw [rr 1 (by decide) (by decide) (by decide)]; exact b1 k hk
      · rw [rr 2 (by decide) (by decide) (by decide), rr 7 (by decide) (by decide) (by decide), rr 9 (by decide) (by decide) (by decide), rr 3 (by decide) (by decide) (by decide), rr 4 (by decide) (by decide) (by decide), rr 5 (by decide) (by decide) (by decide), rr 6 (by decide) (by decide) (by decide)]; exact b2 k hk
      · rw [rr 2 (by decide) (by decide) (by decide), rr 7 (by decide) (by decide) (by decide), rr 9 (by decide) (by decide) (by decide)]; exact b3 k h1 h2
      · rw [rr 8 (by decide) (by decide) (by decide)]; exact b4 k hk
      · rw [rr 11 (by decide) (by decide) (by decide), rr 10 (by decide) (by decide) (by decide), rr 12 (by decide) (by decide) (by decide)]; exact b5 i hi
      · rw [rr 14 (by decide) (by decide) (by decide), rr 15 (by decide) (by decide) (by decide), rr 16 (by decide) (by decide) (by decide), rr 17 (by decide) (by decide) (by decide), rr 18 (by decide) (by decide) (by decide), rr 19 (by decide) (by decide) (by decide), rr 20 (by decide) (by decide) (by decide)]; exact b6 i hi
      · rw [rr 19 (by decide) (by decide) (by decide)]; exact b7 i h1 h2
      · rw [rr 16 (by decide) (by decide) (by decide), rr 18 (by decide) (by decide) (by decide)]; exact b8
      · have hi' : i < q_m σ + 1 := hi
        show (∀ j, j < 8 → u2.2 23 (8 * i + j) = nI ((va_up (q_I σ) (q_m σ) (q_V σ, q_S σ, q_L σ) i).2.1 j) ∧ ((va_up (q_I σ) (q_m σ) (q_V σ, q_S σ, q_L σ) i).2.1 j ≠ 0 → u2.2 22 (8 * i + j) = (va_up (q_I σ) (q_m σ) (q_V σ, q_S σ, q_L σ) i).1 j)) ∧ ∀ k, k < 16 → u2.2 24 (16 * i + k) = nI ((va_up (q_I σ) (q_m σ) (q_V σ, q_S σ, q_L σ) i).2.2 k)
        rw [r3 23 (by decide), r3 22 (by decide)]
        by_cases e : i = q_m σ
        · subst e
          rw [va_up_s]
          exact ⟨s5, r5⟩
        · rw [va_up_n e]
          obtain ⟨m1, m2⟩ := b9 i (by omega)
          refine ⟨fun j hj => ?_, fun k hk => ?_⟩
          · obtain ⟨e1, e2⟩ := s4 (8 * i + j) (by omega)
            rw [e1, e2]
            exact m1 j hj
          · rw [r4 _ (by omega)]
            exact m2 k hk
    · show AL w4 ρ4 t0.1 (ad 4) 18 ((List.range (q_m σ + 1)).map (va_up ia (q_m σ) x))
      rw [map_up]
      exact v2
    · have hi' : i < q_m σ + 1 := hi
      show SEN w4 ρ4 (va_up ia (q_m σ) x i) (200 + 5 * i) (va_up (q_I σ) (q_m σ) (q_V σ, q_S σ, q_L σ) i)
      by_cases e : i = q_m σ
      · subst e
        rw [va_up_s, va_up_s]
        exact pSEN z2' v3
      · rw [va_up_n e, va_up_n e]
        exact pSEN (H.2.2.2.2.2.2.2.2.2.2.2 i (by omega)) G4 (fun q z1 z2 => by unfold Sr S2; omega)
  · rw [if_neg (show ¬ nI (q_m σ) < 10 from nI_nlt (b := 10) (by omega) (by omega)), if_pos (show (10 : Int32) ≤ nI (q_m σ) from nI_le (a := 10) (by omega) (by omega)), X_goes0, m_b_s, if_pos rfl]
    exact JG_err J rfl rfl xs_rfl (List.mem_cons_self ..)
end JE
