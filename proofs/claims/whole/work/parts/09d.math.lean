theorem z_res_eq {σ : qS} {c : Nat} : (z_res (z_rr σ c) = none) ↔ ((z_rr σ c).2 = true ∨ q_P σ c = []) := by
  unfold z_res
  by_cases e : (z_rr σ c).2 = true
  · rw [if_pos e]
    exact ⟨fun _ => Or.inl e, fun _ => rfl⟩
  · rw [if_neg e]
    constructor
    · intro h
      by_cases e2 : q_P σ c = []
      · exact Or.inr e2
      · exact absurd h (a_run_out e2 (Bool.eq_false_iff.mpr e))
    · rintro (h | h)
      · exact absurd h e
      · unfold z_rr
        rw [h]
        rfl
theorem nb_cnt_up {r : Nat → qR} {n i : Nat} {y : qR} : nb_cnt (fun k => (va_up r n y k).2.2.2.1.testBit i) (n + 1) = nb_cnt (fun k => (r k).2.2.2.1.testBit i) n + (if y.2.2.2.1.testBit i = true then 1 else 0) := by
  show nb_cnt _ n + (if (va_up r n y n).2.2.2.1.testBit i = true then 1 else 0) = _
  rw [va_up_s]
  congr 1
  exact nb_cnt_cong (fun k hk => by rw [va_up_n (by omega)])
/-- what stands before the loop, and behind it -/
theorem X_mk {u u0 u1 : xS} {σ : qS} (hG : qG σ) (H : HX u σ) {us c : Nat} (hu : us < 5) (hc : c < q_N σ) (hn : q_n σ < 400) {s0 came : Int32} (hs0 : s0 = if z_res (z_rr σ c) = none then 0 else 1) (hcame : ∀ z, z_res (z_rr σ c) = some z → came = z)
    (f13 : u0.1 13 = nI (q_n σ + 1)) (f1 : ∀ t, t < 25 → t ≠ 13 → u0.1 t = u.1 t) (f2 : ∀ t, t < 25 → t ≠ 14 → t ≠ 15 → t ≠ 16 → t ≠ 17 → t ≠ 18 → t ≠ 20 → u0.2 t = u.2 t)
    (f14 : ∀ i, u0.2 14 i = upd (u.2 14) (q_n σ + 1) (nI c) i) (f15 : ∀ i, u0.2 15 i = upd (u.2 15) (q_n σ + 1) (nI us) i) (f16 : ∀ i, u0.2 16 i = upd (u.2 16) (q_n σ + 1) (nI (z_rr σ c).1.2.2.2.1) i) (f18 : ∀ i, u0.2 18 i = upd (u.2 18) (q_n σ + 1) s0 i) (f17 : ∀ i, u0.2 17 i = upd (u.2 17) (q_n σ + 1) came i)
    (f20 : ∀ i, 8 ≤ i → u0.2 20 i = u.2 20 i) (f25 : ∀ i, i < 8 → ¬ (z_rr σ c).1.2.1 i = 0 → u0.2 25 i = (z_rr σ c).1.1 i) (h : z_lp u0 u1 σ c 8) : HX (x_sA u1 8 c (nI (q_n σ + 1))) (z_mk σ us c) := by
  have hN := hG.1
  have hin := z_rr_in hG hc
  obtain ⟨⟨b0, b13, b21⟩, b1, b2, b3, b4, b5, b6, b7, ⟨b8, b8'⟩, b9⟩ := H
  obtain ⟨a1, a2, a3, a4, a5⟩ := h
  have n0 : ∀ t, t < 25 → t ≠ 13 → (x_sA u1 8 c (nI (q_n σ + 1))).1 t = u.1 t := fun t h1 h2 => (a1 t).trans (f1 t h1 h2)
  have r0 : ∀ t, t < 25 → t ≠ 8 → t ≠ 10 → t ≠ 11 → t ≠ 12 → t ≠ 14 → t ≠ 15 → t ≠ 16 → t ≠ 17 → t ≠ 18 → t ≠ 20 → (x_sA u1 8 c (nI (q_n σ + 1))).2 t = u.2 t := fun t h1 h2 h3 h4 h5 h6 h7 h8 h9 h10 h11 => by
    rw [xA_n h2, a2 t h3 h4 h5 h11, f2 t h1 h6 h7 h8 h9 h10 h11]
  have r1 : ∀ t, t ≠ 8 → t ≠ 10 → t ≠ 11 → t ≠ 12 → t ≠ 20 → (x_sA u1 8 c (nI (q_n σ + 1))).2 t = u0.2 t := fun t h1 h2 h3 h4 h5 => by
    rw [xA_n h1, a2 t h2 h3 h4 h5]
  have r2 : ∀ t, t ≠ 8 → (x_sA u1 8 c (nI (q_n σ + 1))).2 t = u1.2 t := fun t h1 => xA_n h1
  have r8 : ∀ k, (x_sA u1 8 c (nI (q_n σ + 1))).2 8 k = upd (u.2 8) c (nI (q_n σ + 1)) k := fun k => by
    rw [xA_s, a2 8 (by decide) (by decide) (by decide) (by decide), f2 8 (by decide) (by decide) (by decide) (by decide) (by decide) (by decide) (by decide)]
  refine ⟨⟨?_, ?_, ?_⟩, fun k hk => ?_, fun k hk => ?_, fun k h1 h2 => ?_, fun k hk => ?_, fun i hi => ?_, fun i hi => ?_, fun i h1 h2 => ?_, ⟨?_, ?_⟩, fun i hi => ?_⟩
  · rw [n0 _ (by decide) (by decide)]; exact b0
  · exact (a1 13).trans f13
  · rw [n0 _ (by decide) (by decide)]; exact b21
  · rw [r0 1 (by decide) (by decide) (by decide) (by decide) (by decide) (by decide) (by decide) (by decide) (by decide) (by decide) (by decide)]; exact b1 k hk
  · rw [r0 2 (by decide) (by decide) (by decide) (by decide) (by decide) (by decide) (by decide) (by decide) (by decide) (by decide) (by decide), r0 7 (by decide) (by decide) (by decide) (by decide) (by decide) (by decide) (by decide) (by decide) (by decide) (by decide) (by decide), r0 9 (by decide) (by decide) (by decide) (by decide) (by decide) (by decide) (by decide) (by decide) (by decide) (by decide) (by decide), r0 3 (by decide) (by decide) (by decide) (by decide) (by decide) (by decide) (by decide) (by decide) (by decide) (by decide) (by decide), r0 4 (by decide) (by decide) (by decide) (by decide) (by decide) (by decide) (by decide) (by decide) (by decide) (by decide) (by decide), r0 5 (by decide) (by decide) (by decide) (by decide) (by decide) (by decide) (by decide) (by decide) (by decide) (by decide) (by decide), r0 6 (by decide) (by decide) (by decide) (by decide) (by decide) (by decide) (by decide) (by decide) (by decide) (by decide) (by decide)]
    exact b2 k hk
  · rw [r0 2 (by decide) (by decide) (by decide) (by decide) (by decide) (by decide) (by decide) (by decide) (by decide) (by decide) (by decide), r0 7 (by decide) (by decide) (by decide) (by decide) (by decide) (by decide) (by decide) (by decide) (by decide) (by decide) (by decide), r0 9 (by decide) (by decide) (by decide) (by decide) (by decide) (by decide) (by decide) (by decide) (by decide) (by decide) (by decide)]
    exact b3 k h1 h2
  · rw [r8]
    show _ = nI (va_up (q_L σ) c (q_n σ + 1) k)
    by_cases e : k = c
    · subst e
      rw [pk_us, va_up_s]
    · rw [pk_un e, va_up_n e]
      exact b4 k hk
  · obtain ⟨c1, c2, c3⟩ := b5 i hi
    obtain ⟨d1, d2, d3⟩ := a5 i hi
    obtain ⟨g1, g2, g3⟩ := hin.1 i hi
    have e10 : u0.2 10 i = u.2 10 i := by rw [f2 10 (by decide) (by decide) (by decide) (by decide) (by decide) (by decide) (by decide)]
    have e11 : u0.2 11 i = u.2 11 i := by rw [f2 11 (by decide) (by decide) (by decide) (by decide) (by decide) (by decide) (by decide)]
    have e12 : u0.2 12 i = u.2 12 i := by rw [f2 12 (by decide) (by decide) (by decide) (by decide) (by decide) (by decide) (by decide)]
    rw [r2 11 (by decide), r2 10 (by decide), r2 12 (by decide), d1, d2, d3, e10, e11, e12]
    show _ = nI (z_S σ c i) ∧ (z_S σ c i ≠ 0 → _ = z_V σ c i) ∧ _ = nI (nb_cnt (fun k => (va_up (q_r σ) (q_n σ) (z_new σ us c) k).2.2.2.1.testBit i) (q_n σ + 1))
    refine ⟨?_, fun hz => ?_, ?_⟩
    · unfold z_S
      by_cases e : (z_rr σ c).2 = true
      · rw [if_pos e, if_neg (fun q => by rw [q.2.1] at e; cases e)]
        exact c1
      · rw [if_neg e]
        by_cases e2 : (z_rr σ c).1.2.2.1.testBit i = true
        · rw [if_pos e2, if_pos ⟨hi, Bool.eq_false_iff.mpr e, e2⟩]
        · rw [if_neg e2, if_neg (fun q => e2 q.2.2)]
          exact c1
    · unfold z_S at hz
      unfold z_V
      by_cases e : (z_rr σ c).2 = true
      · rw [if_pos e] at hz
        rw [if_pos e, if_neg (fun q => by rw [q.2.1] at e; cases e)]
        exact c2 hz
      · rw [if_neg e] at hz
        rw [if_neg e]
        by_cases e2 : (z_rr σ c).1.2.2.1.testBit i = true
        · rw [if_pos ⟨hi, Bool.eq_false_iff.mpr e, e2⟩]
          exact f25 i hi (by rw [g2 e2]; exact nI_ne0 (by omega) (by omega))
        · rw [if_neg e2] at hz
          rw [if_neg (fun q => e2 q.2.2), (g1 (Bool.eq_false_iff.mpr e2)).1]
          exact c2 hz
    · rw [nb_cnt_up, if_pos hi, c3, nI_add]
      rfl
  · have hi' : i < q_n σ + 1 := hi
    rw [r1 14 (by decide) (by decide) (by decide) (by decide) (by decide), r1 15 (by decide) (by decide) (by decide) (by decide) (by decide), r1 16 (by decide) (by decide) (by decide) (by decide) (by decide), r1 17 (by decide) (by decide) (by decide) (by decide) (by decide), r1 18 (by decide) (by decide) (by decide) (by decide) (by decide), r0 19 (by decide) (by decide) (by decide) (by decide) (by decide) (by decide) (by decide) (by decide) (by decide) (by decide) (by decide), r2 20 (by decide), f14, f15, f16, f17, f18]
    show _ = nI (va_up (q_r σ) (q_n σ) (z_new σ us c) i).1 ∧ _ = nI (va_up (q_r σ) (q_n σ) (z_new σ us c) i).2.1 ∧ _ = nI (va_up (q_r σ) (q_n σ) (z_new σ us c) i).2.2.2.1 ∧ _ = (if (va_up (q_r σ) (q_n σ) (z_new σ us c) i).2.2.1 = none then 0 else 1) ∧ (∀ z, (va_up (q_r σ) (q_n σ) (z_new σ us c) i).2.2.1 = some z → _ = z) ∧ _ = (if i ∈ q_G σ ++ [q_n σ] then 0 else 1) ∧ ∀ j, j < 8 → _ = nI ((va_up (q_r σ) (q_n σ) (z_new σ us c) i).2.2.2.2 j)
    by_cases e : i = q_n σ
    · subst e
      rw [va_up_s, pk_us, pk_us, pk_us, pk_us, pk_us, if_pos (List.mem_append.mpr (Or.inr (List.mem_singleton.mpr rfl)))]
      refine ⟨rfl, rfl, rfl, hs0, hcame, b7 _ (Nat.le_refl _) hn, fun j hj => ?_⟩
      rw [a3 j hj, if_pos hj]
      rfl
    · have hlt : i < q_n σ := by omega
      obtain ⟨c1, c2, c3, c4, c5, c6, c7⟩ := b6 i hlt
      rw [va_up_n e, pk_un (by omega), pk_un (by omega), pk_un (by omega), pk_un (by omega), pk_un (by omega)]
      refine ⟨c1, c2, c3, c4, c5, ?_, fun j hj => ?_⟩
      · rw [c6]
        by_cases e2 : i ∈ q_G σ
        · rw [if_pos e2, if_pos (List.mem_append.mpr (Or.inl e2))]
        · rw [if_neg e2, if_neg (fun q => by
            rcases List.mem_append.mp q with z | z
            · exact e2 z
            · exact e (List.mem_singleton.mp z))]
      · rw [a4 _ (Or.inl (by omega)), f20 _ (by omega)]
        exact c7 j hj
  · have h1' : q_n σ + 1 ≤ i := h1
    rw [r0 19 (by decide) (by decide) (by decide) (by decide) (by decide) (by decide) (by decide) (by decide) (by decide) (by decide) (by decide)]
    exact b7 i (by omega) h2
  · rw [r1 16 (by decide) (by decide) (by decide) (by decide) (by decide), f16, pk_un (by omega)]; exact b8
  · rw [r1 18 (by decide) (by decide) (by decide) (by decide) (by decide), f18, pk_un (by omega)]; exact b8'
  · rw [r0 23 (by decide) (by decide) (by decide) (by decide) (by decide) (by decide) (by decide) (by decide) (by decide) (by decide) (by decide), r0 22 (by decide) (by decide) (by decide) (by decide) (by decide) (by decide) (by decide) (by decide) (by decide) (by decide) (by decide), r0 24 (by decide) (by decide) (by decide) (by decide) (by decide) (by decide) (by decide) (by decide) (by decide) (by decide) (by decide)]
    exact b9 i hi
theorem X_runs {u : xS} {σ : qS} (hG : qG σ) (H : HX u σ) {us c : Nat} (hu : us < 5) (hc : c < q_N σ) (hn : q_n σ < 400) : ∃ u', f_X7_runs u (nI us) (nI c) = some (if (z_rr σ c).2 = true then 0 else 1, u') ∧ HX u' (z_mk σ us c) ∧ u'.1 31 = u.1 31 := by
  have hN := hG.1
  have hin := z_rr_in hG hc
  obtain ⟨p1, p2, -⟩ := hG.2.2.1 c hc
  obtain ⟨u1, th, q1, q2, q3, q4, q5⟩ := X_lays hG H
  have hS : ∀ i, i < 8 → q_S σ i ≤ q_n σ := fun i hi => (hG.2.2.2.2.1.1 i hi).1
  have z0 : ∀ i, i < 8 → ((¬ nI (q_S σ i) = 0) ↔ q_S σ i ≠ 0) := fun i hi => by
    have := hS i hi
    constructor
    · intro h e
      exact h (by rw [e]; exact nI_0)
    · intro h
      exact nI_ne0 (by omega) (by omega)
  obtain ⟨u2, s1, s2, s3⟩ := X_doesAll (k := nI (q_n σ + 1)) hG (HX_xs H q2.1) (nI_ne0 (by omega) (by omega)) hc (v := q_V σ) (s := fun i => nI (q_S σ i)) q3 q4 (fun i hi => by rw [(q5 i hi).1]; exact (z0 i hi).symm) (fun i hi h => by
    rw [(q5 i hi).2]
    exact (H.2.2.2.2.2.1 i hi).2.1 ((z0 i hi).mp h))
  have s1' : f_X7_doesAll u1 (nI c) = some (if (z_rr σ c).2 = true then 0 else 1, u2) := s1
  have s2' : XR u2 (z_rr σ c).1 th := s2
  have G := xt_trans q2 s3
  have H2 := HX_xs H G.1
  obtain ⟨t1, t2, t3, t4, t5, t6, t7, t8, t9⟩ := s2'
  unfold f_X7_runs
  rw [q1, m_b_s, s1', m_b_s, m_l_s, H2.1.2.1, nI_1]
  have c13 : ∀ v : xS, (x_sI v 13 (nI (q_n σ + 1))).1 13 = nI (q_n σ + 1) := fun v => xI_s
  have i401 := nI_in (c := q_n σ + 1) (N := 401) (by omega) (by decide)
  have k401 : (nI (q_n σ + 1)).toNatClampNeg = q_n σ + 1 := nI_clamp (by omega)
  rw [c13, m_g_t i401, m_l_s, k401]
  have c13b : (x_sA (x_sI u2 13 (nI (q_n σ + 1))) 14 (q_n σ + 1) (nI c)).1 13 = nI (q_n σ + 1) := c13 u2
  rw [c13b, m_g_t i401, m_l_s, k401]
  have c13c : (x_sA (x_sA (x_sI u2 13 (nI (q_n σ + 1))) 14 (q_n σ + 1) (nI c)) 15 (q_n σ + 1) (nI us)).1 13 = nI (q_n σ + 1) := c13 u2
  have c28 : (x_sA (x_sA (x_sI u2 13 (nI (q_n σ + 1))) 14 (q_n σ + 1) (nI c)) 15 (q_n σ + 1) (nI us)).1 28 = nI (z_rr σ c).1.2.2.2.1 := (xI_n (u := u2) (j := 13) (t := 28) (v := nI (q_n σ + 1)) (by decide)).trans t3
  rw [c13c, m_g_t i401, m_l_s, k401, c28]
  generalize hv : x_sA (x_sA (x_sA (x_sI u2 13 (nI (q_n σ + 1))) 14 (q_n σ + 1) (nI c)) 15 (q_n σ + 1) (nI us)) 16 (q_n σ + 1) (nI (z_rr σ c).1.2.2.2.1) = v
  have v1 : ∀ t, v.1 t = upd u2.1 13 (nI (q_n σ + 1)) t := fun t => by rw [← hv]; rfl
  have v2 : ∀ t, t ≠ 14 → t ≠ 15 → t ≠ 16 → v.2 t = u2.2 t := fun t h1 h2 h3 => by
    rw [← hv, xA_n h3, xA_n h2, xA_n h1]
    rfl
  have v14 : ∀ i, v.2 14 i = upd (u2.2 14) (q_n σ + 1) (nI c) i := fun i => by
    rw [← hv, xA_n (by decide), xA_n (by decide), xA_s]
    rfl
  have v15 : ∀ i, v.2 15 i = upd (u2.2 15) (q_n σ + 1) (nI us) i := fun i => by
    rw [← hv, xA_n (by decide), xA_s, xA_n (by decide)]
    rfl
  have v16 : ∀ i, v.2 16 i = upd (u2.2 16) (q_n σ + 1) (nI (z_rr σ c).1.2.2.2.1) i := fun i => by
    rw [← hv, xA_s, xA_n (by decide), xA_n (by decide)]
    rfl
  have v13 : v.1 13 = nI (q_n σ + 1) := by rw [v1, pk_us]
  rw [v13]
  have g1 : ∀ t, t < 25 → u2.1 t = u.1 t := fun t ht => (G.1.1 t ht).1
  have g2 : ∀ t, t < 25 → t ≠ 20 → u2.2 t = u.2 t := fun t ht h => (G.1.1 t ht).2 h
  have key : ∀ (s0 : Int32), s0 = (if z_res (z_rr σ c) = none then 0 else 1) → ∃ u', f_X7_runs_79 v (nI c) (if (z_rr σ c).2 = true then 0 else 1) s0 (nI (q_n σ + 1)) = some (if (z_rr σ c).2 = true then 0 else 1, u') ∧ HX u' (z_mk σ us c) ∧ u'.1 31 = u.1 31 := by
    intro s0 hs0
    have hb : vp_nar .boolean s0 = s0 := by
      rw [hs0]
      split
      · exact vb0
      · exact vb1
    unfold f_X7_runs_79
    have v13' : (x_sA v 18 (q_n σ + 1) s0).1 13 = nI (q_n σ + 1) := v13
    have v29' : (x_sA v 18 (q_n σ + 1) s0).1 29 = u2.1 29 := (v1 29).trans (pk_un (by decide))
    rw [m_g_t i401, m_l_s, k401, hb, v13', m_g_t i401, m_l_s, k401, v29']
    generalize hu0 : x_sA (x_sA v 18 (q_n σ + 1) s0) 17 (q_n σ + 1) (u2.1 29) = u0
    have w1 : ∀ t, u0.1 t = v.1 t := fun t => by rw [← hu0]; rfl
    have w2 : ∀ t, t ≠ 17 → t ≠ 18 → u0.2 t = v.2 t := fun t h1 h2 => by
      rw [← hu0, xA_n h1, xA_n h2]
    have w17 : ∀ i, u0.2 17 i = upd (u.2 17) (q_n σ + 1) (u2.1 29) i := fun i => by
      rw [← hu0, xA_s, xA_n (by decide), v2 17 (by decide) (by decide) (by decide), g2 17 (by decide) (by decide)]
    have w18 : ∀ i, u0.2 18 i = upd (u.2 18) (q_n σ + 1) s0 i := fun i => by
      rw [← hu0, xA_n (by decide), xA_s, v2 18 (by decide) (by decide) (by decide), g2 18 (by decide) (by decide)]
    have w14 : ∀ i, u0.2 14 i = upd (u.2 14) (q_n σ + 1) (nI c) i := fun i => by rw [w2 14 (by decide) (by decide), v14, g2 14 (by decide) (by decide)]
    have w15 : ∀ i, u0.2 15 i = upd (u.2 15) (q_n σ + 1) (nI us) i := fun i => by rw [w2 15 (by decide) (by decide), v15, g2 15 (by decide) (by decide)]
    have w16 : ∀ i, u0.2 16 i = upd (u.2 16) (q_n σ + 1) (nI (z_rr σ c).1.2.2.2.1) i := fun i => by rw [w2 16 (by decide) (by decide), v16, g2 16 (by decide) (by decide)]
    have w20 : u0.2 20 = u2.2 20 := by rw [w2 20 (by decide) (by decide), v2 20 (by decide) (by decide) (by decide)]
    have w25 : u0.2 25 = u2.2 25 := by rw [w2 25 (by decide) (by decide), v2 25 (by decide) (by decide) (by decide)]
    have w11 : ∀ i, i < 8 → u0.2 11 i = nI (q_S σ i) := fun i hi => by
      rw [w2 11 (by decide) (by decide), v2 11 (by decide) (by decide) (by decide), g2 11 (by decide) (by decide)]
      exact (H.2.2.2.2.2.1 i hi).1
    obtain ⟨u9, r1, r2⟩ := X_runs_loop hG hc hn (u0 := u0) ((w1 13).trans v13) ((w1 27).trans ((v1 27).trans ((pk_un (by decide)).trans t2))) ((w1 28).trans ((v1 28).trans ((pk_un (by decide)).trans t3))) w11 8 m_N 0 u0 (by decide) rfl ⟨fun _ => rfl, fun _ _ _ _ _ => rfl, fun i _ => by rw [if_neg (by omega)], fun _ _ => rfl, fun i _ => ⟨by rw [if_neg (by omega)], by rw [if_neg (fun q => by omega)], by rw [if_neg (fun q => by omega)]⟩⟩
    refine ⟨_, r1, ?_, (r2.1 31).trans ((w1 31).trans ((v1 31).trans ((pk_un (by decide)).trans G.2.1)))⟩
    refine X_mk hG H hu hc hn hs0 (came := u2.1 29) (fun z hz => ?_) ((w1 13).trans v13) (fun t h1 h2 => (w1 t).trans ((v1 t).trans ((pk_un h2).trans (g1 t h1)))) (fun t h1 h2 h3 h4 h5 h6 h7 => by rw [w2 t h5 h6, v2 t h2 h3 h4, g2 t h1 h7]) w14 w15 w16 w18 w17 (fun i hi => by rw [w20]; exact G.1.2 i hi) (fun i hi hz => by rw [w25]; exact t8 i hi hz) r2
    refine t9 z ?_
    unfold z_res at hz
    by_cases e : (z_rr σ c).2 = true
    · rw [if_pos e] at hz; cases hz
    · rw [if_neg e] at hz; exact hz
  unfold f_X7_runs_78
  by_cases e : (z_rr σ c).2 = true
  · have h2 : z_res (z_rr σ c) = none := z_res_eq.mpr (Or.inl e)
    have := key 0 (by rw [if_pos h2])
    rw [if_pos e] at this ⊢
    rw [if_pos rfl]
    exact this
  · have mm : v.2 2 c = nI (q_P σ c).length := by
      rw [v2 2 (by decide) (by decide) (by decide), g2 2 (by decide) (by decide)]
      exact (H.2.2.1 c hc).1
    by_cases e2 : q_P σ c = []
    · have h2 : z_res (z_rr σ c) = none := z_res_eq.mpr (Or.inr e2)
      have := key 0 (by rw [if_pos h2])
      rw [if_neg e] at this ⊢
      rw [if_neg nb_10, m_g_t (nI_in (by omega) (by decide)), nI_clamp (by omega), mm, if_pos (by rw [e2]; decide)]
      exact this
    · have h2 : ¬ z_res (z_rr σ c) = none := fun q => by
        rcases z_res_eq.mp q with z | z
        · exact e z
        · exact e2 z
      have hl : 0 < (q_P σ c).length := List.length_pos_iff.mpr e2
      have := key 1 (by rw [if_neg h2])
      rw [if_neg e] at this ⊢
      rw [if_neg nb_10, m_g_t (nI_in (by omega) (by decide)), nI_clamp (by omega), mm, if_neg (nI_nle hl (by omega))]
      exact this
