/-! the class writes its programs out -/
theorem letter_ok : ∀ k, k < 8 → ((97 + nI k).toUInt32 % 65536).toInt32 = nI (97 + k) ∧ vp_nar .char (nI (97 + k)) = nI (97 + k) := by decide +kernel
theorem C_letter {w : mW} {k : Nat} (hk : k < 8) : e_X5_letter w (nI k) = some (nI (97 + k), w) := by
  obtain ⟨h1, h2⟩ := letter_ok k hk
  unfold e_X5_letter
  rw [h1, m_g_t h2]
theorem SB_operand {t0 : Nat × Nat × Nat × Nat} {w : mW} {ρ : Nat → Nat} {b : Nat} {T : List Nat} (h : SB w ρ b T) {o : Nat} (ho : o < 8 ∨ (100 ≤ o ∧ o ≤ 1100)) (hT : T.length + (tx_op o).length ≤ 72) : ∃ w' ρ', e_X5_writeOperand t0 w (nI o) b = some ((), w') ∧ SB w' ρ' b (T ++ tx_op o) ∧ ch ST2 w ρ w' ρ' := by
  unfold e_X5_writeOperand e_X5_writeOperand_29
  rcases ho with ho | ho
  · have e : tx_op o = [97 + o] := if_pos ho
    rw [e] at hT ⊢
    rw [List.length_singleton] at hT
    obtain ⟨w1, ρ1, q1, q2, q3⟩ := SB_char h (c := 97 + o) (by omega) (by omega)
    rw [nb_isName ho, m_b_s, if_neg nb_10, C_letter ho, m_b_s, m_g_t (SB_kd h).1, q1, m_b_s]
    exact ⟨w1, ρ1, rfl, q2, q3⟩
  · obtain ⟨w1, ρ1, q1, q2, q3⟩ := SB_int (t0 := t0) h ho hT
    rw [nb_isNameB (by omega) (by omega), m_b_s, if_pos rfl, m_g_t (SB_kd h).1, q1, m_b_s]
    exact ⟨w1, ρ1, rfl, q2, q3⟩
theorem C_sign {w : mW} {ρ : Nat → Nat} {a t : Nat} {x : nS} (g : ST w ρ a t x) (hx : x.2.1 < 4) : e_X5_sign w a = some (nI (tx_sg x.2.1), w) := by
  unfold e_X5_sign tx_sg
  rw [m_g_t g.1.1, g.2.2.1]
  rcases (by omega : x.2.1 = 0 ∨ x.2.1 = 1 ∨ x.2.1 = 2 ∨ x.2.1 = 3) with e | e | e | e
  · rw [e, if_pos (show nI 0 = 0 by decide), m_g_t (by decide +kernel), if_pos rfl]; rfl
  · rw [e, if_neg (show ¬ nI 1 = 0 by decide), if_pos (show nI 1 = 1 by decide), m_g_t (by decide +kernel), if_neg (by decide), if_pos rfl]; rfl
  · rw [e, if_neg (show ¬ nI 2 = 0 by decide), if_neg (show ¬ nI 2 = 1 by decide), if_pos (show nI 2 = 2 by decide), m_g_t (by decide +kernel), if_neg (by decide), if_neg (by decide), if_pos rfl]; rfl
  · rw [e, if_neg (show ¬ nI 3 = 0 by decide), if_neg (show ¬ nI 3 = 1 by decide), if_neg (show ¬ nI 3 = 2 by decide), m_g_t (by decide +kernel), if_neg (by decide), if_neg (by decide), if_neg (by decide)]; rfl
theorem tx_sg_lt {op : Nat} : tx_sg op < 128 := by
  unfold tx_sg
  split
  · decide
  · split
    · decide
    · split <;> decide
theorem SB_stmt {t0 : Nat × Nat × Nat × Nat} {w : mW} {ρ : Nat → Nat} {b a t : Nat} {T : List Nat} {x : nS} (h : SB w ρ b T) (g : ST w ρ a t x) (ht : t < 6 ∨ 7 < t) (hx : a_okS x) (hT : T.length + (tx_st x).length ≤ 72) : ∃ w' ρ', e_X5_writeTo t0 w a b = some ((), w') ∧ SB w' ρ' b (T ++ tx_st x) ∧ ch ST2 w ρ w' ρ' := by
  obtain ⟨x1, x2, x3, x4⟩ := hx
  rw [tx_st_len] at hT
  have hst : ¬ ST2 t := by unfold ST2; omega
  unfold e_X5_writeTo
  obtain ⟨w1, ρ1, a1, a2, a3⟩ := SB_char h (c := 97 + x.1) (by omega) (by omega)
  have g1 := ST_ch g a3 hst
  rw [m_g_t g.1.1, g.2.1, C_letter x1, m_b_s, m_g_t (SB_kd h).1, a1, m_b_s, m_g_t (SB_kd a2).1]
  obtain ⟨w2, ρ2, b1, b2, b3⟩ := SB_char a2 (c := 61) (by rw [List.length_append, List.length_singleton]; omega) (by decide)
  have g2 := ST_ch g1 b3 hst
  rw [show (61 : Int32) = nI 61 from rfl, b1, m_b_s, m_g_t g2.1.1, g2.2.2.2.1]
  obtain ⟨w3, ρ3, c1, c2, c3⟩ := SB_operand (t0 := t0) b2 x3 (by simp only [List.length_append, List.length_singleton]; omega)
  have g3 := ST_ch g2 c3 hst
  rw [c1, m_b_s, m_g_t g3.1.1, C_sign g3 x2, m_b_s, m_g_t (SB_kd c2).1]
  obtain ⟨w4, ρ4, d1, d2, d3⟩ := SB_char c2 (c := tx_sg x.2.1) (by simp only [List.length_append, List.length_singleton]; omega) tx_sg_lt
  have g4 := ST_ch g3 d3 hst
  rw [d1, m_b_s, m_g_t g4.1.1, g4.2.2.2.2]
  obtain ⟨w5, ρ5, f1, f2, f3⟩ := SB_operand (t0 := t0) d2 x4 (by simp only [List.length_append, List.length_singleton]; omega)
  rw [f1, m_b_s, m_g_t (SB_kd f2).1]
  obtain ⟨w6, ρ6, h1, h2, h3⟩ := SB_char f2 (c := 10) (by simp only [List.length_append, List.length_singleton]; omega) (by decide)
  rw [show (10 : Int32) = nI 10 from rfl, h1, m_b_s]
  refine ⟨w6, ρ6, rfl, ?_, ch_trans a3 (ch_trans b3 (ch_trans c3 (ch_trans d3 (ch_trans f3 h3))))⟩
  have e : T ++ tx_st x = (((((T ++ [97 + x.1]) ++ [61]) ++ tx_op x.2.2.1) ++ [tx_sg x.2.1]) ++ tx_op x.2.2.2) ++ [10] := by
    unfold tx_st
    simp only [List.append_assoc, List.cons_append, List.nil_append]
  rw [e]
  exact h2
theorem tx_app {P1 P2 : List nS} : tx_all (P1 ++ P2) = tx_all P1 ++ tx_all P2 := by
  induction P1 with
  | nil => rfl
  | cons x P1 ih =>
    show tx_st x ++ tx_all (P1 ++ P2) = (tx_st x ++ tx_all P1) ++ tx_all P2
    rw [ih, List.append_assoc]
section JT
variable {w : mW} {ρ : Nat → Nat} {t0 : Nat × Nat × Nat × Nat} {h : Nat} {σ : qS} {u : xS} {ca ra ia ad : Nat → Nat}
theorem C_out_loop (hG : qG σ) {k : Nat} (hk : k < q_N σ) {b : Nat} : ∀ (P2 P1 : List nS) (f : Nat) (w : mW) (ρ : Nat → Nat), P2.length < f → P1 ++ P2 = q_P σ k → HC w ρ t0.1 h σ ca ra ia ad → SB w ρ b (tx_all P1) →
    ∃ w' ρ', e_X1_writtenOut_10 t0 f w (ca k) b (nI P1.length) = some (b, w') ∧ HC w' ρ' t0.1 h σ ca ra ia ad ∧ SB w' ρ' b (tx_all (q_P σ k)) ∧ ch ST2 w ρ w' ρ' := by
  have hN := hG.1
  obtain ⟨p1, p2, -⟩ := hG.2.2.1 k hk
  intro P2
  induction P2 with
  | nil =>
    intro P1 f w ρ hf hP H hb
    obtain ⟨f, rfl⟩ : ∃ q, f = q + 1 := ⟨f - 1, by omega⟩
    rw [List.append_nil] at hP
    subst hP
    obtain ⟨Lp, d1, d2⟩ := HC_ce H hk
    obtain ⟨pa, pr, x1, x2, x3, x4, x5, x6, x7, x8, x9⟩ := d1
    refine ⟨w, ρ, ?_, H, hb, ch_rfl⟩
    show e_X1_writtenOut_10_b t0 (e_X1_writtenOut_10 t0 f) _ _ _ _ = _
    unfold e_X1_writtenOut_10_b
    rw [m_g_t x1.1, x3, m_o_s, m_g_t (AL_k3 x6), AL_size x6, m_b_s, d2.1, if_pos (nI_le (Nat.le_refl _) (by omega))]
  | cons x P2 ih =>
    intro P1 f w ρ hf hP H hb
    obtain ⟨f, rfl⟩ : ∃ q, f = q + 1 := ⟨f - 1, by omega⟩
    obtain ⟨Lp, d1, d2⟩ := HC_ce H hk
    obtain ⟨pa, pr, x1, x2, x3, x4, x5, x6, x7, x8, x9⟩ := d1
    have hlen : (q_P σ k).length = P1.length + (P2.length + 1) := by rw [← hP, List.length_append, List.length_cons]
    have hi : P1.length < Lp.length := by rw [d2.1]; omega
    have hi2 : P1.length < (q_P σ k).length := by omega
    have hge : (q_P σ k)[P1.length] = x := by
      have : ∀ (l : List nS) (e : l = P1 ++ x :: P2) (hl : P1.length < l.length), l[P1.length] = x := by
        intro l e hl
        subst e
        rw [List.getElem_append_right (Nat.le_refl _)]
        simp
      exact this _ hP.symm hi2
    have hs := d2.2 P1.length hi hi2
    rw [hge] at hs
    have hxm : x ∈ q_P σ k := by rw [← hP]; exact List.mem_append.mpr (Or.inr (List.mem_cons_self ..))
    have hall := tx_all_len (P := q_P σ k)
    have hsp : (tx_all (q_P σ k)).length = (tx_all P1).length + ((tx_st x).length + (tx_all P2).length) := by
      rw [← hP, tx_app, List.length_append]
      show _ + (tx_st x ++ tx_all P2).length = _
      rw [List.length_append]
    obtain ⟨w1, ρ1, q1, q2, q3⟩ := SB_stmt (t0 := t0) hb hs (Or.inr (by show 7 < 2000 + 6 * k + P1.length; omega)) (p2 x hxm) (by omega)
    have H1 := HC_ch H hG q3 (fun q hq => by unfold ST2 at hq; omega)
    obtain ⟨w2, ρ2, y1, y2, y3, y4⟩ := ih (P1 ++ [x]) f w1 ρ1 (by rw [List.length_cons] at hf; omega) (by rw [List.append_assoc]; exact hP) H1 (by
      rw [tx_app]
      have : tx_all [x] = tx_st x := List.append_nil _
      rw [this]
      exact q2)
    rw [List.length_append, List.length_singleton] at y1
    refine ⟨w2, ρ2, ?_, y2, y3, ch_trans q3 y4⟩
    show e_X1_writtenOut_10_b t0 (e_X1_writtenOut_10 t0 f) _ _ _ _ = _
    unfold e_X1_writtenOut_10_b
    rw [m_g_t x1.1, x3, m_o_s, m_g_t (AL_k3 x6), AL_size x6, m_b_s, if_neg (nI_ge hi (by rw [d2.1]; omega)), m_g_t x1.1, x3, m_o_s, m_g_t (AL_k3 x6), AL_get x6 hi, m_b_s, m_g_t hs.1.1, q1, m_b_s, nI_1]
    exact y1
theorem C_out (H : HC w ρ t0.1 h σ ca ra ia ad) (hG : qG σ) {k : Nat} (hk : k < q_N σ) : ∃ w' ρ' b, e_X1_writtenOut t0 w (ca k) = some (b, w') ∧ HC w' ρ' t0.1 h σ ca ra ia ad ∧ SB w' ρ' b (tx_all (q_P σ k)) ∧ ch SC w ρ w' ρ' := by
  have p1 := (hG.2.2.1 k hk).1
  have g1 : ch ST2 w ρ (m_nO w 1) (va_up ρ (m_nx w) 6) := ch_nO
  have t1 : tg (m_nO w 1) (va_up ρ (m_nx w) 6) (m_nx w) 2 6 := ⟨by simp only [kd_sI, fi_sI, fr_sI, ln_sI, ia_sI, oa_sI, la_sI, nx_sI, kd_sR, fi_sR, fr_sR, ln_sR, ia_sR, oa_sR, la_sR, nx_sR, kd_sA, fi_sA, fr_sA, ln_sA, ia_sA, oa_sA, la_sA, nx_sA, kd_sO, fi_sO, fr_sO, ln_sO, ia_sO, oa_sO, la_sO, nx_sO, kd_sL, fi_sL, fr_sL, ln_sL, ia_sL, oa_sL, la_sL, nx_sL, kd_sF, fi_sF, fr_sF, ln_sF, ia_sF, oa_sF, la_sF, nx_sF, kd_sG, fi_sG, fr_sG, ln_sG, ia_sG, oa_sG, la_sG, nx_sG, kd_sX, fi_sX, fr_sX, ln_sX, ia_sX, oa_sX, la_sX, nx_sX, kd_nO, fi_nO, fr_nO, ln_nO, ia_nO, oa_nO, la_nO, nx_nO, kd_nA, fi_nA, fr_nA, ln_nA, ia_nA, oa_nA, la_nA, nx_nA, va_up_s], va_up_s, by simp only [kd_sI, fi_sI, fr_sI, ln_sI, ia_sI, oa_sI, la_sI, nx_sI, kd_sR, fi_sR, fr_sR, ln_sR, ia_sR, oa_sR, la_sR, nx_sR, kd_sA, fi_sA, fr_sA, ln_sA, ia_sA, oa_sA, la_sA, nx_sA, kd_sO, fi_sO, fr_sO, ln_sO, ia_sO, oa_sO, la_sO, nx_sO, kd_sL, fi_sL, fr_sL, ln_sL, ia_sL, oa_sL, la_sL, nx_sL, kd_sF, fi_sF, fr_sF, ln_sF, ia_sF, oa_sF, la_sF, nx_sF, kd_sG, fi_sG, fr_sG, ln_sG, ia_sG, oa_sG, la_sG, nx_sG, kd_sX, fi_sX, fr_sX, ln_sX, ia_sX, oa_sX, la_sX, nx_sX, kd_nO, fi_nO, fr_nO, ln_nO, ia_nO, oa_nO, la_nO, nx_nO, kd_nA, fi_nA, fr_nA, ln_nA, ia_nA, oa_nA, la_nA, nx_nA]; omega⟩
  obtain ⟨w2, ρ2, q1, q2, q3⟩ := SB_init t1 (by simp only [kd_sI, fi_sI, fr_sI, ln_sI, ia_sI, oa_sI, la_sI, nx_sI, kd_sR, fi_sR, fr_sR, ln_sR, ia_sR, oa_sR, la_sR, nx_sR, kd_sA, fi_sA, fr_sA, ln_sA, ia_sA, oa_sA, la_sA, nx_sA, kd_sO, fi_sO, fr_sO, ln_sO, ia_sO, oa_sO, la_sO, nx_sO, kd_sL, fi_sL, fr_sL, ln_sL, ia_sL, oa_sL, la_sL, nx_sL, kd_sF, fi_sF, fr_sF, ln_sF, ia_sF, oa_sF, la_sF, nx_sF, kd_sG, fi_sG, fr_sG, ln_sG, ia_sG, oa_sG, la_sG, nx_sG, kd_sX, fi_sX, fr_sX, ln_sX, ia_sX, oa_sX, la_sX, nx_sX, kd_nO, fi_nO, fr_nO, ln_nO, ia_nO, oa_nO, la_nO, nx_nO, kd_nA, fi_nA, fr_nA, ln_nA, ia_nA, oa_nA, la_nA, nx_nA, ua_s])
  have G := ch_trans g1 q3
  have H2 := HC_ch H hG G (fun q hq => by unfold ST2 at hq; omega)
  obtain ⟨w3, ρ3, y1, y2, y3, y4⟩ := C_out_loop (t0 := t0) hG hk (q_P σ k) [] 7 w2 ρ2 (by omega) rfl H2 q2
  refine ⟨w3, ρ3, m_nx w, ?_, y2, y3, ch_mono (ch_trans G y4) (fun q hq => by unfold SC; unfold ST2 at hq; omega)⟩
  unfold e_X1_writtenOut
  rw [m_l_s, q1, m_b_s]
  exact y1
/-! the reference's text -/
theorem X_sized {o : Nat} (ho : o < 8 ∨ (100 ≤ o ∧ o ≤ 1100)) : f_X7_sized u (nI o) = some (nI (tx_op o).length, u) := by
  unfold f_X7_sized f_X7_sized_16 f_X7_sized_37 f_X7_sized_58 f_X7_sized_59 tx_op
  rcases ho with ho | ho
  · rw [X_nameY ho, m_b_s, if_neg nb_10, if_pos ho]
    by_cases c : (0 : Int32) ≤ nI o - 600
    · rw [if_pos c]; rfl
    · rw [if_neg c]; rfl
  · rw [if_neg (show ¬ o < 8 by omega)]
    have hnm : f_X7_isName u (nI o) = some (0, u) := X_nameN (Or.inr (nI_le (by omega) (by omega)))
    have dig : ∀ a s, a < 501 → s ≤ 1 → (if (10 : Int32) ≤ nI a then (if (100 : Int32) ≤ nI a then (some (nI s + 3, u) : Option (Int32 × xS)) else some (nI s + 2, u)) else some (nI s + 1, u)) = some (nI (s + (tx_dg a).length), u) := by
      intro a s ha hs
      rw [tx_dg_sz]
      unfold tx_sz
      by_cases c1 : a < 10
      · rw [if_neg (show ¬ (10 : Int32) ≤ nI a from nI_ge (b := 10) c1 (by decide)), if_pos c1, nI_1]
      · rw [if_pos (show (10 : Int32) ≤ nI a from nI_le (a := 10) (by omega) (by omega)), if_neg c1]
        by_cases c2 : a < 100
        · rw [if_neg (show ¬ (100 : Int32) ≤ nI a from nI_ge (b := 100) c2 (by decide)), if_pos c2, show (2 : Int32) = nI 2 from rfl, nI_add]
        · rw [if_pos (show (100 : Int32) ≤ nI a from nI_le (a := 100) (by omega) (by omega)), if_neg c2, show (3 : Int32) = nI 3 from rfl, nI_add]
    by_cases c : o < 600
    · have e1 : nI o - 600 = -(nI (600 - o)) := sub600 o c ho.1
      have hneg : -(nI (600 - o)) < 0 := (ng_lt (600 - o) (by omega)).2.2.2.2.2.2.2.2 (by omega)
      have hnn : -(-(nI (600 - o))) = nI (600 - o) := (ng_lt (600 - o) (by omega)).2.2.1
      rw [e1, if_neg (Int32.not_le.mpr hneg), hnm, m_b_s, if_pos rfl, if_neg (Int32.not_le.mpr hneg), hnn, if_pos c, List.length_cons]
      have := dig (600 - o) 1 (by omega) (by decide)
      rw [show 1 + (tx_dg (600 - o)).length = (tx_dg (600 - o)).length + 1 by omega] at this
      exact this
    · have e1 : nI o - 600 = nI (o - 600) := pk_sub (a := o) (b := 600) (by omega)
      have hp : (0 : Int32) ≤ nI (o - 600) := nI_pos' (by omega)
      rw [e1, if_pos hp, hnm, m_b_s, if_pos rfl, if_pos hp, if_neg c]
      have := dig (o - 600) 0 (by omega) (by decide)
      rw [Nat.zero_add] at this
      exact this
theorem dig_ch : ∀ m, m < 10 → ((48 + nI m).toUInt32 % 65536).toInt32 = nI (48 + m) ∧ vp_nar .char (nI (48 + m)) = nI (48 + m) := by decide +kernel
theorem X_w49 {p : Nat} : ∀ (d f x : Nat), d < f → x < 1000 → p + d < 100 → f_X7_written_49 f u (nI p) (nI x) (nI (p + d)) = some (nI (48 + x / 10 ^ d % 10), u) := by
  intro d
  induction d with
  | zero =>
    intro f x hf hx hp
    obtain ⟨f, rfl⟩ : ∃ q, f = q + 1 := ⟨f - 1, by omega⟩
    have hr : nI x - nI x / 10 * 10 = nI (x % 10) := pk_rem (d := 10) (by omega) (by decide) (by decide)
    obtain ⟨d1, d2⟩ := dig_ch (x % 10) (Nat.mod_lt _ (by decide))
    show f_X7_written_49_b (f_X7_written_49 f) _ _ _ _ = _
    unfold f_X7_written_49_b
    rw [if_pos (show nI (p + 0) ≤ nI p from nI_le (Nat.le_refl _) (by omega)), m_g_t (by decide), hr, d1, m_g_t d2, Nat.pow_zero, Nat.div_one]
  | succ d ih =>
    intro f x hf hx hp
    obtain ⟨f, rfl⟩ : ∃ q, f = q + 1 := ⟨f - 1, by omega⟩
    have hd : nI x / 10 = nI (x / 10) := pk_div (d := 10) (by omega) (by decide) (by decide)
    show f_X7_written_49_b (f_X7_written_49 f) _ _ _ _ = _
    unfold f_X7_written_49_b
    rw [if_neg (nI_ge (by omega) (by omega)), m_g_t (by decide), hd, show p + (d + 1) = (p + d) + 1 by omega, pk_m1, ih f (x / 10) (by omega) (by omega) (by omega), Nat.div_div_eq_div_mul, Nat.pow_succ, Nat.mul_comm]
theorem dg_at {a i : Nat} (ha : a < 1000) (hi : i < tx_sz a) : (tx_dg a).getD i 0 = 48 + a / 10 ^ (tx_sz a - 1 - i) % 10 := by
  unfold tx_dg
  unfold tx_sz at hi ⊢
  by_cases c1 : a < 10
  · rw [if_pos c1] at hi
    rw [if_pos c1, if_pos c1]
    have : i = 0 := by omega
    subst this
    show 48 + a = 48 + a / 1 % 10
    omega
  · rw [if_neg c1] at hi
    rw [if_neg c1, if_neg c1]
    by_cases c2 : a < 100
    · rw [if_pos c2] at hi
      rw [if_pos c2, if_pos c2]
      rcases (by omega : i = 0 ∨ i = 1) with e | e
      · subst e
        show 48 + a / 10 = 48 + a / 10 % 10
        omega
      · subst e
        show 48 + a % 10 = 48 + a / 1 % 10
        omega
    · rw [if_neg c2] at hi
      rw [if_neg c2, if_neg c2]
      rcases (by omega : i = 0 ∨ i = 1 ∨ i = 2) with e | e | e
      · subst e
        show 48 + a / 100 = 48 + a / 100 % 10
        omega
      · subst e
        show 48 + a / 10 % 10 = 48 + a / 10 % 10
        rfl
      · subst e
        show 48 + a % 10 = 48 + a / 1 % 10
        omega
theorem tx_sz_le {a : Nat} : 1 ≤ tx_sz a ∧ tx_sz a ≤ 3 := by
  unfold tx_sz
  split
  · exact ⟨by decide, by decide⟩
  · split <;> exact ⟨by decide, by decide⟩
theorem X_written {o p : Nat} (ho : o < 8 ∨ (100 ≤ o ∧ o ≤ 1100)) (hp : p < (tx_op o).length) : f_X7_written u (nI o) (nI p) = some (nI ((tx_op o).getD p 0), u) := by
  have hsz := X_sized (u := u) ho
  have hln := tx_op_len (o := o)
  have hz1 := tx_sz_le (a := 600 - o)
  have hz2 := tx_sz_le (a := o - 600)
  unfold f_X7_written f_X7_written_30 f_X7_written_40
  rcases ho with ho | ho
  · have e : tx_op o = [97 + o] := if_pos ho
    obtain ⟨h1, h2⟩ := letter_ok o ho
    rw [e, List.length_singleton] at hp
    have p0 : p = 0 := by omega
    subst p0
    rw [X_nameY ho, m_b_s, if_neg nb_10, h1, m_g_t h2, e]
    rfl
  · rw [X_nameN (Or.inr (nI_le (by omega) (by omega))), m_b_s, if_pos rfl]
    by_cases c : o < 600
    · have e : tx_op o = 45 :: tx_dg (600 - o) := by unfold tx_op; rw [if_neg (by omega), if_pos c]
      have e1 : nI o - 600 = -(nI (600 - o)) := sub600 o c ho.1
      have hneg : -(nI (600 - o)) < 0 := (ng_lt (600 - o) (by omega)).2.2.2.2.2.2.2.2 (by omega)
      have hnn : -(-(nI (600 - o))) = nI (600 - o) := (ng_lt (600 - o) (by omega)).2.2.1
      rw [e1, if_neg (Int32.not_le.mpr hneg)]
      by_cases c0 : p = 0
      · subst c0
        rw [if_pos nI_0, m_g_t (by decide +kernel), e]
        rfl
      · rw [e, List.length_cons, tx_dg_sz] at hp
        rw [if_neg (nI_ne0 (by omega) (by omega)), if_neg (Int32.not_le.mpr hneg), hsz, m_b_s, hnn, e, List.length_cons, tx_dg_sz, nI_pred]
        have := X_w49 (u := u) (p := p) (tx_sz (600 - o) - p) m_N (600 - o) (by show _ < 5000; omega) (by omega) (by omega)
        rw [show p + (tx_sz (600 - o) - p) = tx_sz (600 - o) by omega] at this
        rw [this]
        obtain ⟨p, rfl⟩ : ∃ q, p = q + 1 := ⟨p - 1, by omega⟩
        show _ = some (nI ((tx_dg (600 - o)).getD p 0), u)
        rw [dg_at (by omega) (by omega), show tx_sz (600 - o) - (p + 1) = tx_sz (600 - o) - 1 - p by omega]
    · have e : tx_op o = tx_dg (o - 600) := by unfold tx_op; rw [if_neg (by omega), if_neg c]
      have e1 : nI o - 600 = nI (o - 600) := pk_sub (a := o) (b := 600) (by omega)
      have hpz : (0 : Int32) ≤ nI (o - 600) := nI_pos' (by omega)
      rw [e, tx_dg_sz] at hp
      rw [e1, if_pos hpz, if_pos hpz, hsz, m_b_s, e, tx_dg_sz, show nI (tx_sz (o - 600)) - 1 = nI (tx_sz (o - 600) - 1) by rw [nb_1, pk_sub (by omega)]]
      have := X_w49 (u := u) (p := p) (tx_sz (o - 600) - 1 - p) m_N (o - 600) (by show _ < 5000; omega) (by omega) (by omega)
      rw [show p + (tx_sz (o - 600) - 1 - p) = tx_sz (o - 600) - 1 by omega] at this
      rw [this, dg_at (by omega) hp]
/-- a statement's row in the reference -/
def X_st (u : xS) (p : Nat) (x : nS) : Prop := p < 96 ∧ a_okS x ∧ u.2 3 p = nI x.1 ∧ u.2 4 p = nI x.2.1 ∧ u.2 5 p = nI x.2.2.1 ∧ u.2 6 p = nI x.2.2.2
theorem X_length {p : Nat} {x : nS} (h : X_st u p x) : f_X7_length u (nI p) = some (nI (tx_st x).length, u) := by
  obtain ⟨h0, ⟨-, -, x3, x4⟩, h1, h2, h3, h4⟩ := h
  unfold f_X7_length
  rw [m_g_t (nI_in h0 (by decide)), nI_clamp (by omega), h3, X_sized x3, m_b_s, m_g_t (nI_in2 h0 (by decide)), h4, X_sized x4, m_b_s, tx_st_len, show (4 : Int32) = nI 4 from rfl, nI_add, nI_add]
theorem sg_ok : ∀ op, op < 4 → vp_nar .char (nI (tx_sg op)) = nI (tx_sg op) := by decide +kernel
theorem X_sign {op : Nat} (h : op < 4) : f_X7_sign u (nI op) = some (nI (tx_sg op), u) := by
  have hs := sg_ok op h
  unfold f_X7_sign f_X7_sign_31
  rcases (by omega : op = 0 ∨ op = 1 ∨ op = 2 ∨ op = 3) with e | e | e | e
  · subst e; rw [if_pos (show nI 0 = 0 by decide), m_g_t (by decide +kernel)]; rfl
  · subst e; rw [if_neg (show ¬ nI 1 = 0 by decide), if_pos (show nI 1 = 1 by decide), m_g_t (by decide +kernel)]; rfl
  · subst e; rw [if_neg (show ¬ nI 2 = 0 by decide), if_neg (show ¬ nI 2 = 1 by decide), if_pos (show nI 2 = 2 by decide), m_g_t (by decide +kernel)]; rfl
  · subst e; rw [if_neg (show ¬ nI 3 = 0 by decide), if_neg (show ¬ nI 3 = 1 by decide), if_neg (show ¬ nI 3 = 2 by decide), m_g_t (by decide +kernel)]; rfl
theorem ch128 : ∀ c, c < 128 → vp_nar .char (nI c) = nI c ∧ ((nI c &&& 255).toUInt32 % 65536).toInt32 = nI c := by decide +kernel
theorem tx_op_ch {o : Nat} (ho : o < 8 ∨ (100 ≤ o ∧ o ≤ 1100)) {i : Nat} (hi : i < (tx_op o).length) : (tx_op o).getD i 0 < 128 := by
  have hm : (tx_op o).getD i 0 ∈ tx_op o := by
    rw [List.getD_eq_getElem?_getD, List.getElem?_eq_getElem hi]
    exact List.getElem_mem hi
  unfold tx_op at hm ⊢
  split at hm
  · rename_i c
    rw [if_pos c]
    rw [List.mem_singleton.mp hm]; omega
  · rename_i c
    rw [if_neg c]
    split at hm
    · rename_i c2
      rw [if_pos c2]
      rcases List.mem_cons.mp hm with e | e
      · rw [e]; decide
      · exact tx_dg_ch (by omega) _ e
    · rename_i c2
      rw [if_neg c2]
      exact tx_dg_ch (by omega) _ hm
theorem getD_l {A B : List Nat} {i : Nat} (h : i < A.length) : (A ++ B).getD i 0 = A.getD i 0 := by
  rw [List.getD_eq_getElem?_getD, List.getD_eq_getElem?_getD, List.getElem?_append_left h]
theorem getD_r {A B : List Nat} {i : Nat} (h : A.length ≤ i) : (A ++ B).getD i 0 = B.getD (i - A.length) 0 := by
  rw [List.getD_eq_getElem?_getD, List.getD_eq_getElem?_getD, List.getElem?_append_right h]
/-- a char of a statement -/
theorem X_charOf {p i : Nat} {x : nS} (h : X_st u p x) (hi : i < (tx_st x).length) : f_X7_charOf u (nI p) (nI i) = some (nI ((tx_st x).getD i 0), u) ∧ (tx_st x).getD i 0 < 128 := by
  obtain ⟨h0, ⟨x1, x2, x3, x4⟩, h1, h2, h3, h4⟩ := id h
  have hlen := X_length h
  have l1 := tx_op_len (o := x.2.2.1)
  have l2 := tx_op_len (o := x.2.2.2)
  have hl := tx_st_len (x := x)
  have hin := nI_in (c := p) (N := 96) h0 (by decide)
  have hin2 := nI_in2 (c := p) (N := 96) h0 (by decide)
  unfold f_X7_charOf f_X7_charOf_36 f_X7_charOf_71 f_X7_charOf_102
  rw [m_g_t hin, nI_clamp (by omega), h3, X_sized x3, m_b_s]
  by_cases c1 : i < 2
  · rw [if_neg (show ¬ (2 : Int32) ≤ nI i from nI_ge (b := 2) c1 (by decide))]
    have eg : (tx_st x).getD i 0 = ([97 + x.1, 61] : List Nat).getD i 0 := by
      unfold tx_st
      rw [getD_l (by simp; omega), getD_l (by simp; omega), getD_l (by simp; omega), getD_l (by simp; omega)]
    rw [eg]
    rcases (by omega : i = 0 ∨ i = 1) with e | e
    · subst e
      obtain ⟨g1, g2⟩ := letter_ok x.1 x1
      rw [if_pos nI_0, m_g_t hin2, h1, g1, m_g_t g2]
      exact ⟨rfl, by show 97 + x.1 < 128; omega⟩
    · subst e
      rw [if_neg (show ¬ nI 1 = 0 by decide), m_g_t (by decide +kernel)]
      exact ⟨rfl, by show 61 < 128; decide⟩
  · rw [if_pos (show (2 : Int32) ≤ nI i from nI_le (a := 2) (by omega) (by omega)), show (2 : Int32) = nI 2 from rfl, nI_add]
    by_cases c2 : 2 + (tx_op x.2.2.1).length < i
    · rw [if_pos (nI_lt c2 (by omega)), hlen, m_b_s, show nI (tx_st x).length - 1 = nI ((tx_st x).length - 1) by rw [nb_1, pk_sub (by omega)]]
      by_cases c3 : i = (tx_st x).length - 1
      · have eg : (tx_st x).getD i 0 = 10 := by
          rw [c3, hl]
          unfold tx_st
          rw [getD_r (by simp; omega)]
          have : 4 + (tx_op x.2.2.1).length + (tx_op x.2.2.2).length - 1 - ((([97 + x.1, 61] ++ tx_op x.2.2.1) ++ [tx_sg x.2.1]) ++ tx_op x.2.2.2).length = 0 := by simp; omega
          rw [this]; rfl
        rw [if_pos (by rw [← c3]), m_g_t (by decide +kernel), eg]
        exact ⟨rfl, by decide⟩
      · have eg : (tx_st x).getD i 0 = (tx_op x.2.2.2).getD (i - (2 + (tx_op x.2.2.1).length) - 1) 0 := by
          unfold tx_st
          rw [getD_l (by simp; omega), getD_r (by simp; omega)]
          congr 1
          simp
          omega
        rw [if_neg (fun q => c3 ((nI_eq (by omega) (by omega)).mp q)), m_g_t hin2, h4, pk_sub (by omega), show nI (i - (2 + (tx_op x.2.2.1).length)) - 1 = nI (i - (2 + (tx_op x.2.2.1).length) - 1) by rw [nb_1, pk_sub (by omega)], X_written x4 (by omega), m_b_s, eg]
        have hc := tx_op_ch x4 (i := i - (2 + (tx_op x.2.2.1).length) - 1) (by omega)
        rw [m_g_t (ch128 _ hc).1]
        exact ⟨rfl, hc⟩
    · rw [if_neg (nI_nlt (by omega) (by omega))]
      by_cases c3 : i = 2 + (tx_op x.2.2.1).length
      · have eg : (tx_st x).getD i 0 = tx_sg x.2.1 := by
          rw [c3]
          unfold tx_st
          rw [getD_l (by simp; omega), getD_l (by simp; omega), getD_r (by simp; omega)]
          have : 2 + (tx_op x.2.2.1).length - ([97 + x.1, 61] ++ tx_op x.2.2.1).length = 0 := by simp; omega
          rw [this]; rfl
        rw [if_pos (by rw [c3]), m_g_t hin2, h2, X_sign x2, m_b_s, m_g_t (sg_ok _ x2), eg]
        exact ⟨rfl, tx_sg_lt⟩
      · have eg : (tx_st x).getD i 0 = (tx_op x.2.2.1).getD (i - 2) 0 := by
          unfold tx_st
          rw [getD_l (by simp; omega), getD_l (by simp; omega), getD_l (by simp; omega), getD_r (by simp; omega)]
          rfl
        have hc := tx_op_ch x3 (i := i - 2) (by omega)
        rw [if_neg (fun q => c3 ((nI_eq (by omega) (by omega)).mp q)), m_g_t hin2, h3, pk_sub (by omega), X_written x3 (by omega), m_b_s, m_g_t (ch128 _ hc).1, eg]
        exact ⟨rfl, hc⟩
theorem X_row (hG : qG σ) (HXu : HX u σ) {k : Nat} (hk : k < q_N σ) {j : Nat} (hj : j < (q_P σ k).length) : X_st u (6 * k + j) (q_P σ k)[j] := by
  have hN := hG.1
  obtain ⟨p1, p2, -⟩ := hG.2.2.1 k hk
  obtain ⟨m1, m2, m3, m4⟩ := HXu.2.2.1 k hk
  exact ⟨by omega, p2 _ (List.getElem_mem hj), m4 j hj⟩
theorem X_lengthOf_loop (hG : qG σ) (HXu : HX u σ) {k : Nat} (hk : k < q_N σ) : ∀ (P2 P1 : List nS) (f : Nat), P2.length < f → P1 ++ P2 = q_P σ k → f_X7_lengthOf_4 f u (nI k) (nI (tx_all P1).length) (nI P1.length) = some (nI (tx_all (q_P σ k)).length, u) := by
  have hN := hG.1
  obtain ⟨p1, p2, -⟩ := hG.2.2.1 k hk
  obtain ⟨m1, m2, m3, m4⟩ := HXu.2.2.1 k hk
  intro P2
  induction P2 with
  | nil =>
    intro P1 f hf hP
    obtain ⟨f, rfl⟩ : ∃ q, f = q + 1 := ⟨f - 1, by omega⟩
    rw [List.append_nil] at hP
    subst hP
    show f_X7_lengthOf_4_b (f_X7_lengthOf_4 f) _ _ _ _ = _
    unfold f_X7_lengthOf_4_b
    rw [m_g_t (nI_in (by omega) (by decide)), nI_clamp (by omega), m1, if_pos (nI_le (Nat.le_refl _) (by omega))]
  | cons x P2 ih =>
    intro P1 f hf hP
    obtain ⟨f, rfl⟩ : ∃ q, f = q + 1 := ⟨f - 1, by omega⟩
    have hlen : (q_P σ k).length = P1.length + (P2.length + 1) := by rw [← hP, List.length_append, List.length_cons]
    have hi2 : P1.length < (q_P σ k).length := by omega
    have hge : (q_P σ k)[P1.length] = x := by
      have : ∀ (l : List nS) (e : l = P1 ++ x :: P2) (hl : P1.length < l.length), l[P1.length] = x := by
        intro l e hl
        subst e
        rw [List.getElem_append_right (Nat.le_refl _)]
        simp
      exact this _ hP.symm hi2
    have hr := X_row hG HXu hk hi2
    rw [hge] at hr
    have IH := ih (P1 ++ [x]) f (by rw [List.length_cons] at hf; omega) (by rw [List.append_assoc]; exact hP)
    rw [tx_app, show tx_all [x] = tx_st x from List.append_nil _, List.length_append, List.length_append, List.length_singleton] at IH
    have e6 : 6 * nI k + nI P1.length = nI (6 * k + P1.length) := by rw [show (6 : Int32) = nI 6 from rfl, pk_mul, nI_add]
    show f_X7_lengthOf_4_b (f_X7_lengthOf_4 f) _ _ _ _ = _
    unfold f_X7_lengthOf_4_b
    rw [m_g_t (nI_in (by omega) (by decide)), nI_clamp (by omega), m1, if_neg (nI_ge hi2 (by omega)), e6, X_length hr, m_b_s, nI_add, nI_1]
    exact IH
theorem X_lengthOf (hG : qG σ) (HXu : HX u σ) {k : Nat} (hk : k < q_N σ) : f_X7_lengthOf u (nI k) = some (nI (tx_all (q_P σ k)).length, u) := by
  have p1 := (hG.2.2.1 k hk).1
  exact X_lengthOf_loop hG HXu hk (q_P σ k) [] m_N (by show _ < 5000; omega) rfl
theorem J_source (J : JI w ρ t0.1 h σ u) (p : Int32) : JG w ρ t0.1 h (q_n σ) [(IOB, 1)] (e_X6_source t0 w h p) (f_X7_source u p) := by
  obtain ⟨hG, HXu, ca, ra, ia, ad, H⟩ := id J
  have hN := hG.1
  unfold e_X6_source f_X7_source f_X7_source_23
  rw [m_g_t (HC_kd H)]
  rcases X_ix (p := p) (n := q_N σ) (by omega) with hp | ⟨k, hk, rfl⟩
  · rw [C_cellN H hp, m_t_x, X_cellN HXu.1.1 hN hp, m_b_s, X_goes0, m_b_s, if_pos rfl]
    exact JG_err J rfl rfl xs_rfl (List.mem_cons_self ..)
  have g : xs u (x_sI u 31 0) := xs_sI (by decide)
  obtain ⟨w1, ρ1, b, q1, q2, q3, q4⟩ := C_out (t0 := t0) H hG hk
  have f3 : m_fi w1 1 3 b = nI (tx_all (q_P σ k)).length := by obtain ⟨_, _, _, q, _⟩ := q3; exact q
  unfold e_J4_length_8abf5 e_J5_length_8abf5
  rw [C_cellY H hG hk, m_t_s, m_g_t (HC_ck H hk), q1, m_b_s, m_g_t (SB_kd q3).1, m_g_t (SB_kd q3).1, m_g_t (SB_kd q3).1, f3, m_b_s, m_b_s, X_cellY HXu.1.1 hk hN, m_b_s, X_goes1, m_b_s, if_neg nb_10, X_lengthOf hG (HX_xs HXu g) hk, m_b_s]
  exact JG_do rfl rfl xI_s hG (HX_xs HXu g) q2 q4
theorem X_char_loop (hG : qG σ) (HXu : HX u σ) {k : Nat} (hk : k < q_N σ) {p : Nat} (hp : p < (tx_all (q_P σ k)).length) : ∀ (P2 P1 : List nS) (f : Nat), P2.length < f → P1 ++ P2 = q_P σ k → (tx_all P1).length ≤ p → f_X7_sourceChar_59 f u (nI (6 * k + P1.length)) (nI (p - (tx_all P1).length)) = some (nI ((tx_all (q_P σ k)).getD p 0), u) ∧ (tx_all (q_P σ k)).getD p 0 < 128 := by
  have hN := hG.1
  obtain ⟨p1, p2, -⟩ := hG.2.2.1 k hk
  have hall := tx_all_len (P := q_P σ k)
  intro P2
  induction P2 with
  | nil =>
    intro P1 f hf hP hle
    rw [List.append_nil] at hP
    rw [hP] at hle
    omega
  | cons x P2 ih =>
    intro P1 f hf hP hle
    obtain ⟨f, rfl⟩ : ∃ q, f = q + 1 := ⟨f - 1, by omega⟩
    have hlen : (q_P σ k).length = P1.length + (P2.length + 1) := by rw [← hP, List.length_append, List.length_cons]
    have hi2 : P1.length < (q_P σ k).length := by omega
    have hge : (q_P σ k)[P1.length] = x := by
      have : ∀ (l : List nS) (e : l = P1 ++ x :: P2) (hl : P1.length < l.length), l[P1.length] = x := by
        intro l e hl
        subst e
        rw [List.getElem_append_right (Nat.le_refl _)]
        simp
      exact this _ hP.symm hi2
    have hr := X_row hG HXu hk hi2
    rw [hge] at hr
    have hsl : (tx_st x).length ≤ 12 := by
      have h2 := tx_op_len (o := x.2.2.1)
      have h3 := tx_op_len (o := x.2.2.2)
      rw [tx_st_len]; omega
    show f_X7_sourceChar_59_b (f_X7_sourceChar_59 f) _ _ _ = _ ∧ _
    unfold f_X7_sourceChar_59_b
    rw [X_length hr, m_b_s]
    by_cases c : p - (tx_all P1).length < (tx_st x).length
    · obtain ⟨y1, y2⟩ := X_charOf hr c
      have eg : (tx_all (q_P σ k)).getD p 0 = (tx_st x).getD (p - (tx_all P1).length) 0 := by
        rw [← hP, tx_app, getD_r hle]
        show (tx_st x ++ tx_all P2).getD _ 0 = _
        rw [getD_l c]
      rw [if_pos (nI_lt c (by omega)), y1, m_b_s, m_g_t (ch128 _ y2).1, eg]
      exact ⟨rfl, y2⟩
    · have IH := ih (P1 ++ [x]) f (by rw [List.length_cons] at hf; omega) (by rw [List.append_assoc]; exact hP) (by
        rw [tx_app, show tx_all [x] = tx_st x from List.append_nil _, List.length_append]; omega)
      rw [tx_app, show tx_all [x] = tx_st x from List.append_nil _, List.length_append, List.length_append, List.length_singleton] at IH
      rw [if_neg (nI_nlt (by omega) (by omega)), X_length hr, m_b_s, nI_1, pk_sub (by omega), show p - (tx_all P1).length - (tx_st x).length = p - ((tx_all P1).length + (tx_st x).length) by omega]
      exact IH
theorem J_sourceChar (J : JI w ρ t0.1 h σ u) (p0 p1 : Int32) : JG w ρ t0.1 h (q_n σ) [(IOB, 1)] (e_X6_sourceChar t0 w h p0 p1) (f_X7_sourceChar u p0 p1) := by
  obtain ⟨hG, HXu, ca, ra, ia, ad, H⟩ := id J
  have hN := hG.1
  unfold e_X6_sourceChar f_X7_sourceChar f_X7_sourceChar_23 f_X7_sourceChar_38 f_X7_sourceChar_39 e_X6_sourceChar_21
  rw [m_g_t (HC_kd H)]
  rcases X_ix (p := p0) (n := q_N σ) (by omega) with hp | ⟨k, hk, rfl⟩
  · rw [C_cellN H hp, m_t_x, X_cellN HXu.1.1 hN hp, m_b_s, if_pos rfl, X_goes0, m_b_s, if_pos rfl, m_g_t (by decide +kernel)]
    exact JG_err J rfl rfl xs_rfl (List.mem_cons_self ..)
  have plen := (hG.2.2.1 k hk).1
  have hall := tx_all_len (P := q_P σ k)
  obtain ⟨w1, ρ1, b, q1, q2, q3, q4⟩ := C_out (t0 := t0) H hG hk
  have kb := (SB_kd q3).1
  have f3 : m_fi w1 1 3 b = nI (tx_all (q_P σ k)).length := by obtain ⟨_, _, _, q, _⟩ := q3; exact q
  have hJ : ∀ {x : xS}, xs u x → JI w1 ρ1 t0.1 h σ x := fun hx => ⟨hG, HX_xs HXu hx, ca, ra, ia, ad, q2⟩
  unfold e_J4_length_8abf5 e_J5_length_8abf5
  rw [C_cellY H hG hk, m_t_s, m_g_t (HC_ck H hk), q1, m_b_s, X_cellY HXu.1.1 hk hN, m_b_s, if_neg nb_10, if_neg nb_10, X_lengthOf hG HXu hk, m_b_s]
  rcases X_ix (p := p1) (n := (tx_all (q_P σ k)).length) (by omega) with hp | ⟨i, hi, rfl⟩
  · rw [X_inN (by omega) hp, m_b_s, if_pos rfl, X_goes0, m_b_s, if_pos rfl, m_g_t (show vp_nar .char 32 = 32 by decide +kernel)]
    refine ⟨.inr IOB, w1, ρ1, _, x_sI u 31 1, σ, ?_, rfl, ⟨fun r hr => (nomatch hr), fun F hF => by cases hF; rw [xI_s]; exact List.mem_cons_self ..⟩, hJ (xs_sI (by decide)), Nat.le_refl _, q4⟩
    by_cases c : p1 < 0
    · rw [if_pos c]; rfl
    · rw [if_neg c, m_g_t kb, m_g_t kb, m_g_t kb, f3, m_b_s, m_b_s, if_neg (fun q => Int32.not_le.mpr q (hp.resolve_left c))]; rfl
  have g : xs u (x_sI u 31 0) := xs_sI (by decide)
  obtain ⟨y1, y2⟩ := X_char_loop hG (HX_xs HXu g) hk hi (q_P σ k) [] m_N (by show _ < 5000; omega) rfl (Nat.zero_le _)
  have y1' : f_X7_sourceChar_59 m_N (x_sI u 31 0) (nI (6 * k)) (nI i) = some (nI ((tx_all (q_P σ k)).getD i 0), x_sI u 31 0) := y1
  obtain ⟨a, b1, b2, b3, b4, b5, b6, b6', b7, b8, b9⟩ := id q3
  have k5 : 21 ≤ m_kd w1 a ∧ m_kd w1 a ≤ 25 := by rw [b5.1]; decide
  unfold e_J4_charAt_5068e e_J5_charAt_5068e e_J0_checkIndex_df160
  rw [if_neg (nI_pos (by omega)), m_g_t kb, m_g_t kb, m_g_t kb, f3, m_b_s, m_b_s, if_pos (nI_lt hi (by omega)), m_g_t kb, m_g_t kb, m_g_t kb, b4, m_o_s, m_g_t k5, b2, sh0 (by omega), f3]
  have emn : m_min (nI (tx_all (q_P σ k)).length) (nI (m_ln w1 a)) = nI (tx_all (q_P σ k)).length := by
    unfold m_min
    rw [if_neg (nI_nlt b6 (by omega))]
  have e3 : e_J3_checkIndex_8e157 w1 (nI i) (nI (tx_all (q_P σ k)).length) = some (nI i, w1) := by
    unfold e_J3_checkIndex_8e157
    rw [if_neg (nI_pos (by omega)), if_pos (nI_lt hi (by omega))]
  obtain ⟨z1, z2⟩ := ch128 _ y2
  rw [emn, e3, m_b_s, m_b_s, if_pos rfl, m_g_t ⟨b5.1, nI_in (by omega) (by omega)⟩, nI_clamp (by omega), b8 i hi, z2, m_g_t z1, m_b_s, m_g_t z1, m_b_s, m_g_t z1, X_inY hi (by omega), m_b_s, if_neg nb_10, X_goes1, m_b_s, if_neg nb_10, show 6 * nI k = nI (6 * k) from pk_mul 6 k, y1']
  exact JG_do rfl rfl xI_s hG (HX_xs HXu g) q2 q4
end JT
