/-! a session: names and last runs -/
def SE (w : mW) (ρ : Nat → Nat) (a t : Nat) (v s l : Nat → Int32) : Prop :=
  ∃ na la, tg w ρ a 8 t ∧ m_fr w 7 0 a = some na ∧ m_fr w 7 1 a = some la ∧ NM w ρ na (t + 1) v s ∧ tg w ρ la 21 (t + 4) ∧ m_ln w la = 16 ∧ ∀ i, i < 16 → m_ia w la i = l i
theorem SE_kd {w : mW} {ρ : Nat → Nat} {a t : Nat} {v s l : Nat → Int32} (h : SE w ρ a t v s l) : tg w ρ a 8 t := by
  obtain ⟨na, la, b1, -⟩ := h
  exact b1
theorem SE_ch {S : Nat → Prop} {w w' : mW} {ρ ρ' : Nat → Nat} {a t : Nat} {v s l : Nat → Int32} (h : SE w ρ a t v s l) (g : ch S w ρ w' ρ') (hs : ∀ q, t ≤ q → q < t + 5 → ¬ S q) : SE w' ρ' a t v s l := by
  obtain ⟨na, la, b1, b2, b3, b4, b5, b6, b7⟩ := h
  obtain ⟨-, s2, -, -, -⟩ := tg_sm b1 g (hs t (by omega) (by omega))
  obtain ⟨-, -, s3, -, -⟩ := tg_sm b5 g (hs (t + 4) (by omega) (by omega))
  exact ⟨na, la, tg_ch b1 g, (s2 _ _).trans b2, (s2 _ _).trans b3, NM_ch b4 g (hs _ (by omega) (by omega)) (hs _ (by omega) (by omega)) (hs _ (by omega) (by omega)), tg_ch b5 g, (tg_ln b5 g).trans b6, fun i hi => by rw [s3]; exact b7 i hi⟩
theorem SE_cong {w : mW} {ρ : Nat → Nat} {a t : Nat} {v s l v' s' l' : Nat → Int32} (h : SE w ρ a t v s l) (e : ∀ i, i < 8 → v i = v' i ∧ s i = s' i) (e2 : ∀ i, i < 16 → l i = l' i) : SE w ρ a t v' s' l' := by
  obtain ⟨na, la, b1, b2, b3, b4, b5, b6, b7⟩ := h
  exact ⟨na, la, b1, b2, b3, NM_cong b4 e, b5, b6, fun i hi => (b7 i hi).trans (e2 i hi)⟩
theorem SE_lastRunOf {w : mW} {ρ : Nat → Nat} {a t : Nat} {v s l : Nat → Int32} (h : SE w ρ a t v s l) {i : Nat} (hi : i < 16) : e_X4_lastRunOf w a (nI i) = some (l i, w) := by
  obtain ⟨na, la, b1, b2, b3, b4, b5, b6, b7⟩ := h
  unfold e_X4_lastRunOf e_X4_lastRunOf_23
  rw [if_neg (nI_pos (by omega)), m_g_t b1.1, b3, m_o_s, m_g_t (by rw [b5.1]; decide), b6, if_neg (nI_ge hi (by decide)), m_o_s, m_g_t ⟨b5.1, by rw [b6]; exact nI_in hi (by decide)⟩, nI_clamp (by omega), b7 i hi]
theorem SE_setLastRun {w : mW} {ρ : Nat → Nat} {a t : Nat} {v s l : Nat → Int32} (h : SE w ρ a t v s l) {i : Nat} (hi : i < 16) (x : Int32) : ∃ w', e_X4_setLastRun w a (nI i) x = some ((), w') ∧ SE w' ρ a t v s (upd l i x) ∧ ch (fun q => q = t + 4) w ρ w' ρ := by
  obtain ⟨na, la, b1, b2, b3, b4, b5, b6, b7⟩ := h
  unfold e_X4_setLastRun e_X4_setLastRun_20
  rw [if_neg (nI_pos (by omega)), m_g_t b1.1, b3, m_o_s, m_g_t (by rw [b5.1]; decide), b6, if_neg (nI_ge hi (by decide)), m_o_s, m_g_t ⟨b5.1, by rw [b6]; exact nI_in hi (by decide)⟩, nI_clamp (by omega), m_l_s]
  have g : ch (fun q => q = t + 4) w ρ (m_sA w la i x) ρ := ch_sA b5.2.1
  refine ⟨_, rfl, ⟨na, la, b1, b2, b3, NM_ch b4 g (by omega) (by omega) (by omega), b5, b6, fun j hj => ?_⟩, g⟩
  simp only [kd_sI, fi_sI, fr_sI, ln_sI, ia_sI, oa_sI, la_sI, nx_sI, kd_sR, fi_sR, fr_sR, ln_sR, ia_sR, oa_sR, la_sR, nx_sR, kd_sA, fi_sA, fr_sA, ln_sA, ia_sA, oa_sA, la_sA, nx_sA, kd_sO, fi_sO, fr_sO, ln_sO, ia_sO, oa_sO, la_sO, nx_sO, kd_sL, fi_sL, fr_sL, ln_sL, ia_sL, oa_sL, la_sL, nx_sL, kd_sF, fi_sF, fr_sF, ln_sF, ia_sF, oa_sF, la_sF, nx_sF, kd_sG, fi_sG, fr_sG, ln_sG, ia_sG, oa_sG, la_sG, nx_sG, kd_sX, fi_sX, fr_sX, ln_sX, ia_sX, oa_sX, la_sX, nx_sX, kd_nO, fi_nO, fr_nO, ln_nO, ia_nO, oa_nO, la_nO, nx_nO, kd_nA, fi_nA, fr_nA, ln_nA, ia_nA, oa_nA, la_nA, nx_nA, va_up_s]
  by_cases e : j = i
  · subst e
    simp only [pk_us]
  · rw [pk_un e, pk_un e]
    exact b7 j hj
theorem SE_becomeLike_loop {ρ : Nat → Nat} {a t b t' : Nat} {v' s' l' v2 s2 : Nat → Int32} (ht : t' + 4 < t ∨ t + 4 < t') : ∀ (k f i : Nat) (w : mW) (l : Nat → Int32), k < f → i + k = 16 → SE w ρ a t v2 s2 l → SE w ρ b t' v' s' l' → (∀ j, j < i → l j = l' j) → ∃ w', e_X4_becomeLike_13 f w a b (nI i) = some ((), w') ∧ SE w' ρ a t v2 s2 l' ∧ ch (Sr t 5) w ρ w' ρ := by
  intro k
  induction k with
  | zero =>
    intro f i w l hf hi h g e
    obtain ⟨f, rfl⟩ : ∃ q, f = q + 1 := ⟨f - 1, by omega⟩
    have hi8 : i = 16 := by omega
    subst hi8
    refine ⟨w, ?_, SE_cong h (fun _ _ => ⟨rfl, rfl⟩) e, ch_rfl⟩
    show e_X4_becomeLike_13_b _ _ _ _ _ = _
    unfold e_X4_becomeLike_13_b
    rw [if_pos (by decide +kernel)]
  | succ k ih =>
    intro f i w l hf hi h g e
    obtain ⟨f, rfl⟩ : ∃ q, f = q + 1 := ⟨f - 1, by omega⟩
    obtain ⟨w1, q1, q2, q3⟩ := SE_setLastRun h (i := i) (by omega) (l' i)
    obtain ⟨w', r1, r2, r3⟩ := ih f (i + 1) w1 _ (by omega) (by omega) q2 (SE_ch g q3 (fun q h1 h2 => by omega)) (fun j hj => by
      by_cases c : j = i
      · subst c; simp only [pk_us]
      · rw [pk_un c]; exact e j (by omega))
    refine ⟨w', ?_, r2, ch_trans (ch_mono q3 (fun q hq => by unfold Sr; omega)) r3⟩
    show e_X4_becomeLike_13_b _ _ _ _ _ = _
    unfold e_X4_becomeLike_13_b
    rw [if_neg (lge16 (by omega)), m_g_t (SE_kd g).1, SE_lastRunOf g (by omega), m_b_s, m_g_t (SE_kd h).1, q1, m_b_s, nI_1]
    exact r1
theorem SE_becomeLike {w : mW} {ρ : Nat → Nat} {a t b t' : Nat} {v s l v' s' l' : Nat → Int32} (ht : t' + 4 < t ∨ t + 4 < t') (h : SE w ρ a t v s l) (g : SE w ρ b t' v' s' l') : ∃ w', e_X4_becomeLike w a b = some ((), w') ∧ SE w' ρ a t v' s' l' ∧ ch (Sr t 5) w ρ w' ρ := by
  obtain ⟨na, la, b1, b2, b3, b4, b5, b6, b7⟩ := id h
  obtain ⟨nb, lb, c1, c2, c3, c4, c5, c6, c7⟩ := id g
  obtain ⟨w1, q1, q2, q3⟩ := NM_becomeLike (t := t + 1) (t' := t' + 1) (by omega) b4 c4
  have h1 : SE w1 ρ a t v' s' l := by
    obtain ⟨-, s2, -, -, -⟩ := tg_sm b1 q3 (by unfold Sr; omega)
    obtain ⟨-, -, s3, -, -⟩ := tg_sm b5 q3 (by unfold Sr; omega)
    exact ⟨na, la, tg_ch b1 q3, (s2 _ _).trans b2, (s2 _ _).trans b3, q2, tg_ch b5 q3, (tg_ln b5 q3).trans b6, fun i hi => by rw [s3]; exact b7 i hi⟩
  have g1 : SE w1 ρ b t' v' s' l' := SE_ch g q3 (fun q h1 h2 => by unfold Sr; omega)
  obtain ⟨w2, r1, r2, r3⟩ := SE_becomeLike_loop ht 16 m_N 0 w1 l (by decide) rfl h1 g1 (fun j hj => absurd hj (by omega))
  refine ⟨w2, ?_, r2, ch_trans (ch_mono q3 (fun q hq => by unfold Sr at *; omega)) r3⟩
  unfold e_X4_becomeLike
  rw [m_g_t b1.1, b2, m_o_s, m_g_t c1.1, c2, m_o_s, m_g_t (NM_kd b4).1, q1, m_b_s]
  exact r1
theorem SE_init {w : mW} {ρ : Nat → Nat} {a t : Nat} (h : tg w ρ a 8 t) : ∃ w' ρ', e_X4_init w a = some ((), w') ∧ SE w' ρ' a t (fun _ => 0) (fun _ => 0) (fun _ => 0) ∧ ch (fun q => q = t ∨ q = t + 1) w ρ w' ρ' := by
  have ha := tg_nx h
  have g1 : ch (fun q => q = t ∨ q = t + 1) w ρ (m_nO w 5) (va_up ρ (m_nx w) (t + 1)) := ch_nO
  have hn : tg (m_nO w 5) (va_up ρ (m_nx w) (t + 1)) (m_nx w) 6 (t + 1) := ⟨by simp only [kd_sI, fi_sI, fr_sI, ln_sI, ia_sI, oa_sI, la_sI, nx_sI, kd_sR, fi_sR, fr_sR, ln_sR, ia_sR, oa_sR, la_sR, nx_sR, kd_sA, fi_sA, fr_sA, ln_sA, ia_sA, oa_sA, la_sA, nx_sA, kd_sO, fi_sO, fr_sO, ln_sO, ia_sO, oa_sO, la_sO, nx_sO, kd_sL, fi_sL, fr_sL, ln_sL, ia_sL, oa_sL, la_sL, nx_sL, kd_sF, fi_sF, fr_sF, ln_sF, ia_sF, oa_sF, la_sF, nx_sF, kd_sG, fi_sG, fr_sG, ln_sG, ia_sG, oa_sG, la_sG, nx_sG, kd_sX, fi_sX, fr_sX, ln_sX, ia_sX, oa_sX, la_sX, nx_sX, kd_nO, fi_nO, fr_nO, ln_nO, ia_nO, oa_nO, la_nO, nx_nO, kd_nA, fi_nA, fr_nA, ln_nA, ia_nA, oa_nA, la_nA, nx_nA, va_up_s], va_up_s, by simp only [kd_sI, fi_sI, fr_sI, ln_sI, ia_sI, oa_sI, la_sI, nx_sI, kd_sR, fi_sR, fr_sR, ln_sR, ia_sR, oa_sR, la_sR, nx_sR, kd_sA, fi_sA, fr_sA, ln_sA, ia_sA, oa_sA, la_sA, nx_sA, kd_sO, fi_sO, fr_sO, ln_sO, ia_sO, oa_sO, la_sO, nx_sO, kd_sL, fi_sL, fr_sL, ln_sL, ia_sL, oa_sL, la_sL, nx_sL, kd_sF, fi_sF, fr_sF, ln_sF, ia_sF, oa_sF, la_sF, nx_sF, kd_sG, fi_sG, fr_sG, ln_sG, ia_sG, oa_sG, la_sG, nx_sG, kd_sX, fi_sX, fr_sX, ln_sX, ia_sX, oa_sX, la_sX, nx_sX, kd_nO, fi_nO, fr_nO, ln_nO, ia_nO, oa_nO, la_nO, nx_nO, kd_nA, fi_nA, fr_nA, ln_nA, ia_nA, oa_nA, la_nA, nx_nA]; omega⟩
  have h1 := tg_ch h g1
  obtain ⟨w2, ρ2, q1, q2, q3⟩ := NM_init hn
  have h2 := tg_ch h1 q3
  have z16 : (16 : Int32).toNatClampNeg = 16 := by decide +kernel
  unfold e_X4_init
  rw [m_l_s, q1, m_b_s, m_g_t h2.1, m_l_s, m_g_t ⟨by decide, by decide, by decide⟩, m_l_s, z16, m_l_s]
  have g3 : ch (fun q => q = t ∨ q = t + 1) w2 ρ2 (m_sR w2 7 0 a (some (m_nx w))) ρ2 := ch_sR (by rw [h2.2.1]; exact Or.inl rfl)
  have n3 := NM_ch q2 (show ch (fun q => q = t) w2 ρ2 (m_sR w2 7 0 a (some (m_nx w))) ρ2 from ch_sR h2.2.1) (by omega) (by omega) (by omega)
  generalize hw3 : m_sR w2 7 0 a (some (m_nx w)) = w3 at g3 n3 ⊢
  have h3 := tg_ch h2 g3
  have f3 : m_fr w3 7 0 a = some (m_nx w) := by rw [← hw3]; simp only [kd_sI, fi_sI, fr_sI, ln_sI, ia_sI, oa_sI, la_sI, nx_sI, kd_sR, fi_sR, fr_sR, ln_sR, ia_sR, oa_sR, la_sR, nx_sR, kd_sA, fi_sA, fr_sA, ln_sA, ia_sA, oa_sA, la_sA, nx_sA, kd_sO, fi_sO, fr_sO, ln_sO, ia_sO, oa_sO, la_sO, nx_sO, kd_sL, fi_sL, fr_sL, ln_sL, ia_sL, oa_sL, la_sL, nx_sL, kd_sF, fi_sF, fr_sF, ln_sF, ia_sF, oa_sF, la_sF, nx_sF, kd_sG, fi_sG, fr_sG, ln_sG, ia_sG, oa_sG, la_sG, nx_sG, kd_sX, fi_sX, fr_sX, ln_sX, ia_sX, oa_sX, la_sX, nx_sX, kd_nO, fi_nO, fr_nO, ln_nO, ia_nO, oa_nO, la_nO, nx_nO, kd_nA, fi_nA, fr_nA, ln_nA, ia_nA, oa_nA, la_nA, nx_nA, u3_s]
  have ha3 := tg_nx h3
  have g4 : ch (fun q => q = t) w3 ρ2 (m_sR (m_nA w3 21 16) 7 1 a (some (m_nx w3))) (va_up ρ2 (m_nx w3) (t + 4)) := ch_trans ch_nA (ch_sR (by rw [va_up_n ha3]; exact h3.2.1))
  refine ⟨_, va_up ρ2 (m_nx w3) (t + 4), rfl, ⟨m_nx w, m_nx w3, tg_ch h3 g4, ?_, ?_, NM_ch n3 g4 (by omega) (by omega) (by omega), ⟨?_, va_up_s, ?_⟩, ?_, fun i hi => ?_⟩, ch_trans g1 (ch_trans (ch_mono q3 (fun q hq => Or.inr hq)) (ch_trans g3 (ch_mono g4 (fun q hq => Or.inl hq))))⟩
  · simp only [kd_sI, fi_sI, fr_sI, ln_sI, ia_sI, oa_sI, la_sI, nx_sI, kd_sR, fi_sR, fr_sR, ln_sR, ia_sR, oa_sR, la_sR, nx_sR, kd_sA, fi_sA, fr_sA, ln_sA, ia_sA, oa_sA, la_sA, nx_sA, kd_sO, fi_sO, fr_sO, ln_sO, ia_sO, oa_sO, la_sO, nx_sO, kd_sL, fi_sL, fr_sL, ln_sL, ia_sL, oa_sL, la_sL, nx_sL, kd_sF, fi_sF, fr_sF, ln_sF, ia_sF, oa_sF, la_sF, nx_sF, kd_sG, fi_sG, fr_sG, ln_sG, ia_sG, oa_sG, la_sG, nx_sG, kd_sX, fi_sX, fr_sX, ln_sX, ia_sX, oa_sX, la_sX, nx_sX, kd_nO, fi_nO, fr_nO, ln_nO, ia_nO, oa_nO, la_nO, nx_nO, kd_nA, fi_nA, fr_nA, ln_nA, ia_nA, oa_nA, la_nA, nx_nA]; rw [u3_j (by decide)]; exact f3
  · simp only [kd_sI, fi_sI, fr_sI, ln_sI, ia_sI, oa_sI, la_sI, nx_sI, kd_sR, fi_sR, fr_sR, ln_sR, ia_sR, oa_sR, la_sR, nx_sR, kd_sA, fi_sA, fr_sA, ln_sA, ia_sA, oa_sA, la_sA, nx_sA, kd_sO, fi_sO, fr_sO, ln_sO, ia_sO, oa_sO, la_sO, nx_sO, kd_sL, fi_sL, fr_sL, ln_sL, ia_sL, oa_sL, la_sL, nx_sL, kd_sF, fi_sF, fr_sF, ln_sF, ia_sF, oa_sF, la_sF, nx_sF, kd_sG, fi_sG, fr_sG, ln_sG, ia_sG, oa_sG, la_sG, nx_sG, kd_sX, fi_sX, fr_sX, ln_sX, ia_sX, oa_sX, la_sX, nx_sX, kd_nO, fi_nO, fr_nO, ln_nO, ia_nO, oa_nO, la_nO, nx_nO, kd_nA, fi_nA, fr_nA, ln_nA, ia_nA, oa_nA, la_nA, nx_nA, u3_s]
  · simp only [kd_sI, fi_sI, fr_sI, ln_sI, ia_sI, oa_sI, la_sI, nx_sI, kd_sR, fi_sR, fr_sR, ln_sR, ia_sR, oa_sR, la_sR, nx_sR, kd_sA, fi_sA, fr_sA, ln_sA, ia_sA, oa_sA, la_sA, nx_sA, kd_sO, fi_sO, fr_sO, ln_sO, ia_sO, oa_sO, la_sO, nx_sO, kd_sL, fi_sL, fr_sL, ln_sL, ia_sL, oa_sL, la_sL, nx_sL, kd_sF, fi_sF, fr_sF, ln_sF, ia_sF, oa_sF, la_sF, nx_sF, kd_sG, fi_sG, fr_sG, ln_sG, ia_sG, oa_sG, la_sG, nx_sG, kd_sX, fi_sX, fr_sX, ln_sX, ia_sX, oa_sX, la_sX, nx_sX, kd_nO, fi_nO, fr_nO, ln_nO, ia_nO, oa_nO, la_nO, nx_nO, kd_nA, fi_nA, fr_nA, ln_nA, ia_nA, oa_nA, la_nA, nx_nA, va_up_s]
  · simp only [kd_sI, fi_sI, fr_sI, ln_sI, ia_sI, oa_sI, la_sI, nx_sI, kd_sR, fi_sR, fr_sR, ln_sR, ia_sR, oa_sR, la_sR, nx_sR, kd_sA, fi_sA, fr_sA, ln_sA, ia_sA, oa_sA, la_sA, nx_sA, kd_sO, fi_sO, fr_sO, ln_sO, ia_sO, oa_sO, la_sO, nx_sO, kd_sL, fi_sL, fr_sL, ln_sL, ia_sL, oa_sL, la_sL, nx_sL, kd_sF, fi_sF, fr_sF, ln_sF, ia_sF, oa_sF, la_sF, nx_sF, kd_sG, fi_sG, fr_sG, ln_sG, ia_sG, oa_sG, la_sG, nx_sG, kd_sX, fi_sX, fr_sX, ln_sX, ia_sX, oa_sX, la_sX, nx_sX, kd_nO, fi_nO, fr_nO, ln_nO, ia_nO, oa_nO, la_nO, nx_nO, kd_nA, fi_nA, fr_nA, ln_nA, ia_nA, oa_nA, la_nA, nx_nA]; omega
  · simp only [kd_sI, fi_sI, fr_sI, ln_sI, ia_sI, oa_sI, la_sI, nx_sI, kd_sR, fi_sR, fr_sR, ln_sR, ia_sR, oa_sR, la_sR, nx_sR, kd_sA, fi_sA, fr_sA, ln_sA, ia_sA, oa_sA, la_sA, nx_sA, kd_sO, fi_sO, fr_sO, ln_sO, ia_sO, oa_sO, la_sO, nx_sO, kd_sL, fi_sL, fr_sL, ln_sL, ia_sL, oa_sL, la_sL, nx_sL, kd_sF, fi_sF, fr_sF, ln_sF, ia_sF, oa_sF, la_sF, nx_sF, kd_sG, fi_sG, fr_sG, ln_sG, ia_sG, oa_sG, la_sG, nx_sG, kd_sX, fi_sX, fr_sX, ln_sX, ia_sX, oa_sX, la_sX, nx_sX, kd_nO, fi_nO, fr_nO, ln_nO, ia_nO, oa_nO, la_nO, nx_nO, kd_nA, fi_nA, fr_nA, ln_nA, ia_nA, oa_nA, la_nA, nx_nA, va_up_s]
  · simp only [kd_sI, fi_sI, fr_sI, ln_sI, ia_sI, oa_sI, la_sI, nx_sI, kd_sR, fi_sR, fr_sR, ln_sR, ia_sR, oa_sR, la_sR, nx_sR, kd_sA, fi_sA, fr_sA, ln_sA, ia_sA, oa_sA, la_sA, nx_sA, kd_sO, fi_sO, fr_sO, ln_sO, ia_sO, oa_sO, la_sO, nx_sO, kd_sL, fi_sL, fr_sL, ln_sL, ia_sL, oa_sL, la_sL, nx_sL, kd_sF, fi_sF, fr_sF, ln_sF, ia_sF, oa_sF, la_sF, nx_sF, kd_sG, fi_sG, fr_sG, ln_sG, ia_sG, oa_sG, la_sG, nx_sG, kd_sX, fi_sX, fr_sX, ln_sX, ia_sX, oa_sX, la_sX, nx_sX, kd_nO, fi_nO, fr_nO, ln_nO, ia_nO, oa_nO, la_nO, nx_nO, kd_nA, fi_nA, fr_nA, ln_nA, ia_nA, oa_nA, la_nA, nx_nA, va_up_s]
/-! a statement -/
def ST (w : mW) (ρ : Nat → Nat) (a t : Nat) (x : Nat × Nat × Nat × Nat) : Prop := tg w ρ a 9 t ∧ m_fi w 8 0 a = nI x.1 ∧ m_fi w 8 1 a = nI x.2.1 ∧ m_fi w 8 2 a = nI x.2.2.1 ∧ m_fi w 8 3 a = nI x.2.2.2
theorem ST_ch {S : Nat → Prop} {w w' : mW} {ρ ρ' : Nat → Nat} {a t : Nat} {x : Nat × Nat × Nat × Nat} (h : ST w ρ a t x) (g : ch S w ρ w' ρ') (hs : ¬ S t) : ST w' ρ' a t x := by
  obtain ⟨b1, b2, b3, b4, b5⟩ := h
  obtain ⟨s1, -, -, -, -⟩ := tg_sm b1 g hs
  exact ⟨tg_ch b1 g, (s1 _ _).trans b2, (s1 _ _).trans b3, (s1 _ _).trans b4, (s1 _ _).trans b5⟩
theorem ST_init {w : mW} {ρ : Nat → Nat} {a t : Nat} (h : tg w ρ a 9 t) (x : Nat × Nat × Nat × Nat) : ∃ w', e_X5_init w a (nI x.1) (nI x.2.1) (nI x.2.2.1) (nI x.2.2.2) = some ((), w') ∧ ST w' ρ a t x ∧ ch (fun q => q = t) w ρ w' ρ := by
  unfold e_X5_init
  rw [m_g_t h.1, m_l_s, m_l_s, m_l_s, m_l_s]
  refine ⟨_, rfl, ⟨h, ?_, ?_, ?_, ?_⟩, ch_trans (ch_trans (ch_sI h.2.1) (ch_sI h.2.1)) (ch_trans (ch_sI h.2.1) (ch_sI h.2.1))⟩
  · simp only [kd_sI, fi_sI, fr_sI, ln_sI, ia_sI, oa_sI, la_sI, nx_sI, kd_sR, fi_sR, fr_sR, ln_sR, ia_sR, oa_sR, la_sR, nx_sR, kd_sA, fi_sA, fr_sA, ln_sA, ia_sA, oa_sA, la_sA, nx_sA, kd_sO, fi_sO, fr_sO, ln_sO, ia_sO, oa_sO, la_sO, nx_sO, kd_sL, fi_sL, fr_sL, ln_sL, ia_sL, oa_sL, la_sL, nx_sL, kd_sF, fi_sF, fr_sF, ln_sF, ia_sF, oa_sF, la_sF, nx_sF, kd_sG, fi_sG, fr_sG, ln_sG, ia_sG, oa_sG, la_sG, nx_sG, kd_sX, fi_sX, fr_sX, ln_sX, ia_sX, oa_sX, la_sX, nx_sX, kd_nO, fi_nO, fr_nO, ln_nO, ia_nO, oa_nO, la_nO, nx_nO, kd_nA, fi_nA, fr_nA, ln_nA, ia_nA, oa_nA, la_nA, nx_nA]; rw [u3_j (by decide), u3_j (by decide), u3_j (by decide), u3_s]
  · simp only [kd_sI, fi_sI, fr_sI, ln_sI, ia_sI, oa_sI, la_sI, nx_sI, kd_sR, fi_sR, fr_sR, ln_sR, ia_sR, oa_sR, la_sR, nx_sR, kd_sA, fi_sA, fr_sA, ln_sA, ia_sA, oa_sA, la_sA, nx_sA, kd_sO, fi_sO, fr_sO, ln_sO, ia_sO, oa_sO, la_sO, nx_sO, kd_sL, fi_sL, fr_sL, ln_sL, ia_sL, oa_sL, la_sL, nx_sL, kd_sF, fi_sF, fr_sF, ln_sF, ia_sF, oa_sF, la_sF, nx_sF, kd_sG, fi_sG, fr_sG, ln_sG, ia_sG, oa_sG, la_sG, nx_sG, kd_sX, fi_sX, fr_sX, ln_sX, ia_sX, oa_sX, la_sX, nx_sX, kd_nO, fi_nO, fr_nO, ln_nO, ia_nO, oa_nO, la_nO, nx_nO, kd_nA, fi_nA, fr_nA, ln_nA, ia_nA, oa_nA, la_nA, nx_nA]; rw [u3_j (by decide), u3_j (by decide), u3_s]
  · simp only [kd_sI, fi_sI, fr_sI, ln_sI, ia_sI, oa_sI, la_sI, nx_sI, kd_sR, fi_sR, fr_sR, ln_sR, ia_sR, oa_sR, la_sR, nx_sR, kd_sA, fi_sA, fr_sA, ln_sA, ia_sA, oa_sA, la_sA, nx_sA, kd_sO, fi_sO, fr_sO, ln_sO, ia_sO, oa_sO, la_sO, nx_sO, kd_sL, fi_sL, fr_sL, ln_sL, ia_sL, oa_sL, la_sL, nx_sL, kd_sF, fi_sF, fr_sF, ln_sF, ia_sF, oa_sF, la_sF, nx_sF, kd_sG, fi_sG, fr_sG, ln_sG, ia_sG, oa_sG, la_sG, nx_sG, kd_sX, fi_sX, fr_sX, ln_sX, ia_sX, oa_sX, la_sX, nx_sX, kd_nO, fi_nO, fr_nO, ln_nO, ia_nO, oa_nO, la_nO, nx_nO, kd_nA, fi_nA, fr_nA, ln_nA, ia_nA, oa_nA, la_nA, nx_nA]; rw [u3_j (by decide), u3_s]
  · simp only [kd_sI, fi_sI, fr_sI, ln_sI, ia_sI, oa_sI, la_sI, nx_sI, kd_sR, fi_sR, fr_sR, ln_sR, ia_sR, oa_sR, la_sR, nx_sR, kd_sA, fi_sA, fr_sA, ln_sA, ia_sA, oa_sA, la_sA, nx_sA, kd_sO, fi_sO, fr_sO, ln_sO, ia_sO, oa_sO, la_sO, nx_sO, kd_sL, fi_sL, fr_sL, ln_sL, ia_sL, oa_sL, la_sL, nx_sL, kd_sF, fi_sF, fr_sF, ln_sF, ia_sF, oa_sF, la_sF, nx_sF, kd_sG, fi_sG, fr_sG, ln_sG, ia_sG, oa_sG, la_sG, nx_sG, kd_sX, fi_sX, fr_sX, ln_sX, ia_sX, oa_sX, la_sX, nx_sX, kd_nO, fi_nO, fr_nO, ln_nO, ia_nO, oa_nO, la_nO, nx_nO, kd_nA, fi_nA, fr_nA, ln_nA, ia_nA, oa_nA, la_nA, nx_nA]; rw [u3_s]
/-! a cell: its number, the row of its statements, the runs at its change, its rights -/
def CE (w : mW) (ρ : Nat → Nat) (t0 a t k : Nat) (P : List Nat) (c : Int32) (r : Nat → Int32) : Prop :=
  ∃ pa ra, tg w ρ a 5 t ∧ m_fi w 4 0 a = nI k ∧ m_fr w 4 1 a = some pa ∧ m_fi w 4 2 a = c ∧ m_fr w 4 3 a = some ra ∧ AL w ρ t0 pa (t + 1) P ∧ tg w ρ ra 21 (t + 3) ∧ m_ln w ra = 5 ∧ ∀ i, i < 5 → m_ia w ra i = r i
theorem CE_kd {w : mW} {ρ : Nat → Nat} {t0 a t k : Nat} {P : List Nat} {c : Int32} {r : Nat → Int32} (h : CE w ρ t0 a t k P c r) : tg w ρ a 5 t := by
  obtain ⟨pa, ra, b1, -⟩ := h
  exact b1
theorem CE_num {w : mW} {ρ : Nat → Nat} {t0 a t k : Nat} {P : List Nat} {c : Int32} {r : Nat → Int32} (h : CE w ρ t0 a t k P c r) : m_fi w 4 0 a = nI k := by
  obtain ⟨pa, ra, b1, b2, -⟩ := h
  exact b2
theorem CE_ch {S : Nat → Prop} {w w' : mW} {ρ ρ' : Nat → Nat} {t0 a t k : Nat} {P : List Nat} {c : Int32} {r : Nat → Int32} (h : CE w ρ t0 a t k P c r) (g : ch S w ρ w' ρ') (h0 : ¬ S 0) (hs : ∀ q, t ≤ q → q < t + 4 → ¬ S q) : CE w' ρ' t0 a t k P c r := by
  obtain ⟨pa, ra, b1, b2, b3, b4, b5, b6, b7, b8, b9⟩ := h
  obtain ⟨s1, s2, -, -, -⟩ := tg_sm b1 g (hs t (by omega) (by omega))
  obtain ⟨-, -, s3, -, -⟩ := tg_sm b7 g (hs (t + 3) (by omega) (by omega))
  exact ⟨pa, ra, tg_ch b1 g, (s1 _ _).trans b2, (s2 _ _).trans b3, (s1 _ _).trans b4, (s2 _ _).trans b5, AL_ch b6 g h0 (hs _ (by omega) (by omega)) (hs _ (by omega) (by omega)), tg_ch b7 g, (tg_ln b7 g).trans b8, fun i hi => by rw [s3]; exact b9 i hi⟩
theorem CE_cong {w : mW} {ρ : Nat → Nat} {t0 a t k : Nat} {P : List Nat} {c : Int32} {r r' : Nat → Int32} (h : CE w ρ t0 a t k P c r) (e : ∀ i, i < 5 → r i = r' i) : CE w ρ t0 a t k P c r' := by
  obtain ⟨pa, ra, b1, b2, b3, b4, b5, b6, b7, b8, b9⟩ := h
  exact ⟨pa, ra, b1, b2, b3, b4, b5, b6, b7, b8, fun i hi => (b9 i hi).trans (e i hi)⟩
theorem CE_rightOf {w : mW} {ρ : Nat → Nat} {t0 a t k : Nat} {P : List Nat} {c : Int32} {r : Nat → Int32} (h : CE w ρ t0 a t k P c r) {i : Nat} (hi : i < 5) : e_X1_rightOf w a (nI i) = some (r i, w) := by
  obtain ⟨pa, ra, b1, b2, b3, b4, b5, b6, b7, b8, b9⟩ := h
  unfold e_X1_rightOf e_X1_rightOf_23
  rw [if_neg (nI_pos (by omega)), m_g_t b1.1, b5, m_o_s, m_g_t (by rw [b7.1]; decide), b8, if_neg (nI_ge hi (by decide)), m_o_s, m_g_t ⟨b7.1, by rw [b8]; exact nI_in hi (by decide)⟩, nI_clamp (by omega), b9 i hi]
theorem CE_giveRight {w : mW} {ρ : Nat → Nat} {t0 a t k : Nat} {P : List Nat} {c : Int32} {r : Nat → Int32} (h : CE w ρ t0 a t k P c r) (ht : 0 < t) {i : Nat} (hi : i < 5) (x : Int32) : ∃ w', e_X1_giveRight w a (nI i) x = some ((), w') ∧ CE w' ρ t0 a t k P c (upd r i x) ∧ ch (fun q => q = t + 3) w ρ w' ρ := by
  obtain ⟨pa, ra, b1, b2, b3, b4, b5, b6, b7, b8, b9⟩ := h
  unfold e_X1_giveRight e_X1_giveRight_20
  rw [if_neg (nI_pos (by omega)), m_g_t b1.1, b5, m_o_s, m_g_t (by rw [b7.1]; decide), b8, if_neg (nI_ge hi (by decide)), m_o_s, m_g_t ⟨b7.1, by rw [b8]; exact nI_in hi (by decide)⟩, nI_clamp (by omega), m_l_s]
  have g : ch (fun q => q = t + 3) w ρ (m_sA w ra i x) ρ := ch_sA b7.2.1
  refine ⟨_, rfl, ⟨pa, ra, b1, b2, b3, b4, b5, AL_ch b6 g (by omega) (by omega) (by omega), b7, b8, fun j hj => ?_⟩, g⟩
  simp only [kd_sI, fi_sI, fr_sI, ln_sI, ia_sI, oa_sI, la_sI, nx_sI, kd_sR, fi_sR, fr_sR, ln_sR, ia_sR, oa_sR, la_sR, nx_sR, kd_sA, fi_sA, fr_sA, ln_sA, ia_sA, oa_sA, la_sA, nx_sA, kd_sO, fi_sO, fr_sO, ln_sO, ia_sO, oa_sO, la_sO, nx_sO, kd_sL, fi_sL, fr_sL, ln_sL, ia_sL, oa_sL, la_sL, nx_sL, kd_sF, fi_sF, fr_sF, ln_sF, ia_sF, oa_sF, la_sF, nx_sF, kd_sG, fi_sG, fr_sG, ln_sG, ia_sG, oa_sG, la_sG, nx_sG, kd_sX, fi_sX, fr_sX, ln_sX, ia_sX, oa_sX, la_sX, nx_sX, kd_nO, fi_nO, fr_nO, ln_nO, ia_nO, oa_nO, la_nO, nx_nO, kd_nA, fi_nA, fr_nA, ln_nA, ia_nA, oa_nA, la_nA, nx_nA, va_up_s]
  by_cases e : j = i
  · subst e
    simp only [pk_us]
  · rw [pk_un e, pk_un e]
    exact b9 j hj
theorem CE_allows {w : mW} {ρ : Nat → Nat} {t0 a t k : Nat} {P : List Nat} {c : Int32} {r : Nat → Int32} (h : CE w ρ t0 a t k P c r) {i : Nat} (hi : i < 5) (x : Int32) : e_X1_allows w a (nI i) x = some (if r i < x then 0 else 1, w) := by
  unfold e_X1_allows e_X1_allows_14
  rw [m_g_t (CE_kd h).1, CE_rightOf h hi, m_b_s]
  by_cases c : r i < x
  · rw [if_pos c, if_pos c, m_g_t (by decide +kernel)]
  · rw [if_neg c, if_neg c, m_g_t (by decide +kernel)]
/-- the empty array that all ArrayLists share -/
def DF (w : mW) (ρ : Nat → Nat) (z : Nat) : Prop := ρ z = 0 ∧ m_kd w z = 23 ∧ m_ln w z = 0 ∧ z < m_nx w ∧ ∀ i, m_oa w z i = none
theorem DF_ch {S : Nat → Prop} {w w' : mW} {ρ ρ' : Nat → Nat} {z : Nat} (h : DF w ρ z) (g : ch S w ρ w' ρ') (h0 : ¬ S 0) : DF w' ρ' z := by
  obtain ⟨a1, a2, a3, a4, a5⟩ := h
  obtain ⟨g1, g2, g3, g4⟩ := g.2 z a4
  obtain ⟨-, -, -, g5, -⟩ := g4 (by rw [a1]; exact h0)
  exact ⟨g1.trans a1, g2.trans a2, g3.trans a3, Nat.lt_of_lt_of_le a4 g.1, fun i => by rw [g5]; exact a5 i⟩
/-- an ArrayList made anew -/
theorem AL_init {w : mW} {ρ : Nat → Nat} {t0 : Nat × Nat × Nat × Nat} {a t : Nat} (h : tg w ρ a 3 t) (hz : m_fi w 2 2 a = 0) (h0 : DF w ρ t0.1) : ∃ w', e_Jx4a65c_init_da8c8 t0 w a = some ((), w') ∧ AL w' ρ t0.1 a t [] ∧ ch (fun q => q = t) w ρ w' ρ := by
  obtain ⟨a1, a2, a3, a4, a5⟩ := h0
  unfold e_Jx4a65c_init_da8c8 e_Jxc12de_init_da8c8 e_Jxa1e45_init_da8c8
  rw [m_b_s, m_g_t h.1, m_l_s, m_b_s, m_g_t (by exact h.1), m_l_s]
  refine ⟨_, rfl, ⟨t0.1, h, ?_, ?_, a2, a4, Or.inl ⟨rfl, a1, a3⟩, ?_, ?_, fun i => ?_, fun x hx => nomatch hx⟩, ch_trans (ch_sI h.2.1) (ch_sR h.2.1)⟩
  · simp only [kd_sI, fi_sI, fr_sI, ln_sI, ia_sI, oa_sI, la_sI, nx_sI, kd_sR, fi_sR, fr_sR, ln_sR, ia_sR, oa_sR, la_sR, nx_sR, kd_sA, fi_sA, fr_sA, ln_sA, ia_sA, oa_sA, la_sA, nx_sA, kd_sO, fi_sO, fr_sO, ln_sO, ia_sO, oa_sO, la_sO, nx_sO, kd_sL, fi_sL, fr_sL, ln_sL, ia_sL, oa_sL, la_sL, nx_sL, kd_sF, fi_sF, fr_sF, ln_sF, ia_sF, oa_sF, la_sF, nx_sF, kd_sG, fi_sG, fr_sG, ln_sG, ia_sG, oa_sG, la_sG, nx_sG, kd_sX, fi_sX, fr_sX, ln_sX, ia_sX, oa_sX, la_sX, nx_sX, kd_nO, fi_nO, fr_nO, ln_nO, ia_nO, oa_nO, la_nO, nx_nO, kd_nA, fi_nA, fr_nA, ln_nA, ia_nA, oa_nA, la_nA, nx_nA]; rw [u3_j (by decide)]; exact hz
  · simp only [kd_sI, fi_sI, fr_sI, ln_sI, ia_sI, oa_sI, la_sI, nx_sI, kd_sR, fi_sR, fr_sR, ln_sR, ia_sR, oa_sR, la_sR, nx_sR, kd_sA, fi_sA, fr_sA, ln_sA, ia_sA, oa_sA, la_sA, nx_sA, kd_sO, fi_sO, fr_sO, ln_sO, ia_sO, oa_sO, la_sO, nx_sO, kd_sL, fi_sL, fr_sL, ln_sL, ia_sL, oa_sL, la_sL, nx_sL, kd_sF, fi_sF, fr_sF, ln_sF, ia_sF, oa_sF, la_sF, nx_sF, kd_sG, fi_sG, fr_sG, ln_sG, ia_sG, oa_sG, la_sG, nx_sG, kd_sX, fi_sX, fr_sX, ln_sX, ia_sX, oa_sX, la_sX, nx_sX, kd_nO, fi_nO, fr_nO, ln_nO, ia_nO, oa_nO, la_nO, nx_nO, kd_nA, fi_nA, fr_nA, ln_nA, ia_nA, oa_nA, la_nA, nx_nA, u3_s]
  · exact Nat.zero_le _
  · simp only [kd_sI, fi_sI, fr_sI, ln_sI, ia_sI, oa_sI, la_sI, nx_sI, kd_sR, fi_sR, fr_sR, ln_sR, ia_sR, oa_sR, la_sR, nx_sR, kd_sA, fi_sA, fr_sA, ln_sA, ia_sA, oa_sA, la_sA, nx_sA, kd_sO, fi_sO, fr_sO, ln_sO, ia_sO, oa_sO, la_sO, nx_sO, kd_sL, fi_sL, fr_sL, ln_sL, ia_sL, oa_sL, la_sL, nx_sL, kd_sF, fi_sF, fr_sF, ln_sF, ia_sF, oa_sF, la_sF, nx_sF, kd_sG, fi_sG, fr_sG, ln_sG, ia_sG, oa_sG, la_sG, nx_sG, kd_sX, fi_sX, fr_sX, ln_sX, ia_sX, oa_sX, la_sX, nx_sX, kd_nO, fi_nO, fr_nO, ln_nO, ia_nO, oa_nO, la_nO, nx_nO, kd_nA, fi_nA, fr_nA, ln_nA, ia_nA, oa_nA, la_nA, nx_nA]; rw [a3]; exact Nat.zero_le _
  · simp only [kd_sI, fi_sI, fr_sI, ln_sI, ia_sI, oa_sI, la_sI, nx_sI, kd_sR, fi_sR, fr_sR, ln_sR, ia_sR, oa_sR, la_sR, nx_sR, kd_sA, fi_sA, fr_sA, ln_sA, ia_sA, oa_sA, la_sA, nx_sA, kd_sO, fi_sO, fr_sO, ln_sO, ia_sO, oa_sO, la_sO, nx_sO, kd_sL, fi_sL, fr_sL, ln_sL, ia_sL, oa_sL, la_sL, nx_sL, kd_sF, fi_sF, fr_sF, ln_sF, ia_sF, oa_sF, la_sF, nx_sF, kd_sG, fi_sG, fr_sG, ln_sG, ia_sG, oa_sG, la_sG, nx_sG, kd_sX, fi_sX, fr_sX, ln_sX, ia_sX, oa_sX, la_sX, nx_sX, kd_nO, fi_nO, fr_nO, ln_nO, ia_nO, oa_nO, la_nO, nx_nO, kd_nA, fi_nA, fr_nA, ln_nA, ia_nA, oa_nA, la_nA, nx_nA]; rw [a5]; rfl
theorem CE_init {w : mW} {ρ : Nat → Nat} {t0 : Nat × Nat × Nat × Nat} {a t : Nat} (h : tg w ρ a 5 t) (ht : 0 < t) (hD : DF w ρ t0.1) (k : Nat) : ∃ w' ρ', e_X1_init t0 w a (nI k) = some ((), w') ∧ CE w' ρ' t0.1 a t k [] 0 (upd (fun _ => 0) 0 3) ∧ ch (Sr t 4) w ρ w' ρ' := by
  have g1 : ch (Sr t 4) w ρ (m_nO w 2) (va_up ρ (m_nx w) (t + 1)) := ch_nO
  have hn : tg (m_nO w 2) (va_up ρ (m_nx w) (t + 1)) (m_nx w) 3 (t + 1) := ⟨by simp only [kd_sI, fi_sI, fr_sI, ln_sI, ia_sI, oa_sI, la_sI, nx_sI, kd_sR, fi_sR, fr_sR, ln_sR, ia_sR, oa_sR, la_sR, nx_sR, kd_sA, fi_sA, fr_sA, ln_sA, ia_sA, oa_sA, la_sA, nx_sA, kd_sO, fi_sO, fr_sO, ln_sO, ia_sO, oa_sO, la_sO, nx_sO, kd_sL, fi_sL, fr_sL, ln_sL, ia_sL, oa_sL, la_sL, nx_sL, kd_sF, fi_sF, fr_sF, ln_sF, ia_sF, oa_sF, la_sF, nx_sF, kd_sG, fi_sG, fr_sG, ln_sG, ia_sG, oa_sG, la_sG, nx_sG, kd_sX, fi_sX, fr_sX, ln_sX, ia_sX, oa_sX, la_sX, nx_sX, kd_nO, fi_nO, fr_nO, ln_nO, ia_nO, oa_nO, la_nO, nx_nO, kd_nA, fi_nA, fr_nA, ln_nA, ia_nA, oa_nA, la_nA, nx_nA, va_up_s], va_up_s, by simp only [kd_sI, fi_sI, fr_sI, ln_sI, ia_sI, oa_sI, la_sI, nx_sI, kd_sR, fi_sR, fr_sR, ln_sR, ia_sR, oa_sR, la_sR, nx_sR, kd_sA, fi_sA, fr_sA, ln_sA, ia_sA, oa_sA, la_sA, nx_sA, kd_sO, fi_sO, fr_sO, ln_sO, ia_sO, oa_sO, la_sO, nx_sO, kd_sL, fi_sL, fr_sL, ln_sL, ia_sL, oa_sL, la_sL, nx_sL, kd_sF, fi_sF, fr_sF, ln_sF, ia_sF, oa_sF, la_sF, nx_sF, kd_sG, fi_sG, fr_sG, ln_sG, ia_sG, oa_sG, la_sG, nx_sG, kd_sX, fi_sX, fr_sX, ln_sX, ia_sX, oa_sX, la_sX, nx_sX, kd_nO, fi_nO, fr_nO, ln_nO, ia_nO, oa_nO, la_nO, nx_nO, kd_nA, fi_nA, fr_nA, ln_nA, ia_nA, oa_nA, la_nA, nx_nA]; omega⟩
  have h1 := tg_ch h g1
  have D1 := DF_ch hD g1 (by unfold Sr; omega)
  obtain ⟨w2, q1, q2, q3⟩ := AL_init hn (by simp only [kd_sI, fi_sI, fr_sI, ln_sI, ia_sI, oa_sI, la_sI, nx_sI, kd_sR, fi_sR, fr_sR, ln_sR, ia_sR, oa_sR, la_sR, nx_sR, kd_sA, fi_sA, fr_sA, ln_sA, ia_sA, oa_sA, la_sA, nx_sA, kd_sO, fi_sO, fr_sO, ln_sO, ia_sO, oa_sO, la_sO, nx_sO, kd_sL, fi_sL, fr_sL, ln_sL, ia_sL, oa_sL, la_sL, nx_sL, kd_sF, fi_sF, fr_sF, ln_sF, ia_sF, oa_sF, la_sF, nx_sF, kd_sG, fi_sG, fr_sG, ln_sG, ia_sG, oa_sG, la_sG, nx_sG, kd_sX, fi_sX, fr_sX, ln_sX, ia_sX, oa_sX, la_sX, nx_sX, kd_nO, fi_nO, fr_nO, ln_nO, ia_nO, oa_nO, la_nO, nx_nO, kd_nA, fi_nA, fr_nA, ln_nA, ia_nA, oa_nA, la_nA, nx_nA, ua_s]) D1
  have h2 := tg_ch h1 q3
  unfold e_X1_init
  rw [m_l_s, q1, m_b_s, m_g_t h2.1, m_l_s, m_l_s, m_g_t ⟨by decide, by decide, by decide⟩, m_l_s]
  have z5 : (5 : Int32).toNatClampNeg = 5 := by decide +kernel
  have z0 : (0 : Int32).toNatClampNeg = 0 := by decide +kernel
  rw [z5]
  have g3 : ch (fun q => q = t) w2 (va_up ρ (m_nx w) (t + 1)) (m_sI (m_sR w2 4 1 a (some (m_nx w))) 4 2 a 0) (va_up ρ (m_nx w) (t + 1)) := ch_trans (ch_sR h2.2.1) (ch_sI h2.2.1)
  have h3 := tg_ch h2 g3
  have A3 := AL_ch q2 g3 (by omega) (by omega) (by omega)
  have f3 : m_fr (m_sI (m_sR w2 4 1 a (some (m_nx w))) 4 2 a 0) 4 1 a = some (m_nx w) := by simp only [kd_sI, fi_sI, fr_sI, ln_sI, ia_sI, oa_sI, la_sI, nx_sI, kd_sR, fi_sR, fr_sR, ln_sR, ia_sR, oa_sR, la_sR, nx_sR, kd_sA, fi_sA, fr_sA, ln_sA, ia_sA, oa_sA, la_sA, nx_sA, kd_sO, fi_sO, fr_sO, ln_sO, ia_sO, oa_sO, la_sO, nx_sO, kd_sL, fi_sL, fr_sL, ln_sL, ia_sL, oa_sL, la_sL, nx_sL, kd_sF, fi_sF, fr_sF, ln_sF, ia_sF, oa_sF, la_sF, nx_sF, kd_sG, fi_sG, fr_sG, ln_sG, ia_sG, oa_sG, la_sG, nx_sG, kd_sX, fi_sX, fr_sX, ln_sX, ia_sX, oa_sX, la_sX, nx_sX, kd_nO, fi_nO, fr_nO, ln_nO, ia_nO, oa_nO, la_nO, nx_nO, kd_nA, fi_nA, fr_nA, ln_nA, ia_nA, oa_nA, la_nA, nx_nA, u3_s]
  have f4 : m_fi (m_sI (m_sR w2 4 1 a (some (m_nx w))) 4 2 a 0) 4 2 a = 0 := by simp only [kd_sI, fi_sI, fr_sI, ln_sI, ia_sI, oa_sI, la_sI, nx_sI, kd_sR, fi_sR, fr_sR, ln_sR, ia_sR, oa_sR, la_sR, nx_sR, kd_sA, fi_sA, fr_sA, ln_sA, ia_sA, oa_sA, la_sA, nx_sA, kd_sO, fi_sO, fr_sO, ln_sO, ia_sO, oa_sO, la_sO, nx_sO, kd_sL, fi_sL, fr_sL, ln_sL, ia_sL, oa_sL, la_sL, nx_sL, kd_sF, fi_sF, fr_sF, ln_sF, ia_sF, oa_sF, la_sF, nx_sF, kd_sG, fi_sG, fr_sG, ln_sG, ia_sG, oa_sG, la_sG, nx_sG, kd_sX, fi_sX, fr_sX, ln_sX, ia_sX, oa_sX, la_sX, nx_sX, kd_nO, fi_nO, fr_nO, ln_nO, ia_nO, oa_nO, la_nO, nx_nO, kd_nA, fi_nA, fr_nA, ln_nA, ia_nA, oa_nA, la_nA, nx_nA, u3_s]
  generalize m_sI (m_sR w2 4 1 a (some (m_nx w))) 4 2 a 0 = w3 at g3 h3 A3 f3 f4 ⊢
  have ha3 := tg_nx h3
  rw [m_l_s, m_l_s]
  rw [show m_fr (m_sI (m_sR (m_nA w3 21 5) 4 3 a (some (m_nx w3))) 4 0 a (nI k)) 4 3 a = some (m_nx w3) by simp only [kd_sI, fi_sI, fr_sI, ln_sI, ia_sI, oa_sI, la_sI, nx_sI, kd_sR, fi_sR, fr_sR, ln_sR, ia_sR, oa_sR, la_sR, nx_sR, kd_sA, fi_sA, fr_sA, ln_sA, ia_sA, oa_sA, la_sA, nx_sA, kd_sO, fi_sO, fr_sO, ln_sO, ia_sO, oa_sO, la_sO, nx_sO, kd_sL, fi_sL, fr_sL, ln_sL, ia_sL, oa_sL, la_sL, nx_sL, kd_sF, fi_sF, fr_sF, ln_sF, ia_sF, oa_sF, la_sF, nx_sF, kd_sG, fi_sG, fr_sG, ln_sG, ia_sG, oa_sG, la_sG, nx_sG, kd_sX, fi_sX, fr_sX, ln_sX, ia_sX, oa_sX, la_sX, nx_sX, kd_nO, fi_nO, fr_nO, ln_nO, ia_nO, oa_nO, la_nO, nx_nO, kd_nA, fi_nA, fr_nA, ln_nA, ia_nA, oa_nA, la_nA, nx_nA, u3_s], m_o_s, z0, m_g_t (by
    refine ⟨va_up_s, ?_⟩
    show ¬ ((0 : Int32) < 0 ∨ va_up (m_ln w3) (m_nx w3) 5 (m_nx w3) ≤ 0)
    rw [va_up_s]
    decide), m_l_s]
  have g4 : ch (Sr t 4) w3 (va_up ρ (m_nx w) (t + 1)) (m_sA (m_sI (m_sR (m_nA w3 21 5) 4 3 a (some (m_nx w3))) 4 0 a (nI k)) (m_nx w3) 0 3) (va_up (va_up ρ (m_nx w) (t + 1)) (m_nx w3) (t + 3)) := by
    refine ch_trans (ch_trans ch_nA (ch_sR ?_)) (ch_trans (ch_sI ?_) (ch_sA ?_))
    · rw [va_up_n ha3, h3.2.1]; unfold Sr; omega
    · rw [va_up_n ha3, h3.2.1]; unfold Sr; omega
    · rw [va_up_s]; unfold Sr; omega
  have g5 : ch (fun q => q = t ∨ q = t + 3) w3 (va_up ρ (m_nx w) (t + 1)) (m_sA (m_sI (m_sR (m_nA w3 21 5) 4 3 a (some (m_nx w3))) 4 0 a (nI k)) (m_nx w3) 0 3) (va_up (va_up ρ (m_nx w) (t + 1)) (m_nx w3) (t + 3)) := by
    refine ch_trans (ch_trans ch_nA (ch_sR ?_)) (ch_trans (ch_sI ?_) (ch_sA ?_))
    · rw [va_up_n ha3, h3.2.1]; exact Or.inl rfl
    · rw [va_up_n ha3, h3.2.1]; exact Or.inl rfl
    · rw [va_up_s]; exact Or.inr rfl
  refine ⟨_, _, rfl, ⟨m_nx w, m_nx w3, tg_ch h3 g4, ?_, ?_, ?_, ?_, AL_ch A3 g5 (by omega) (by omega) (by omega), ⟨?_, va_up_s, ?_⟩, ?_, fun i hi => ?_⟩, ch_trans g1 (ch_trans (ch_mono q3 (fun q hq => by unfold Sr; omega)) (ch_trans (ch_mono g3 (fun q hq => by unfold Sr; omega)) g4))⟩
  · simp only [kd_sI, fi_sI, fr_sI, ln_sI, ia_sI, oa_sI, la_sI, nx_sI, kd_sR, fi_sR, fr_sR, ln_sR, ia_sR, oa_sR, la_sR, nx_sR, kd_sA, fi_sA, fr_sA, ln_sA, ia_sA, oa_sA, la_sA, nx_sA, kd_sO, fi_sO, fr_sO, ln_sO, ia_sO, oa_sO, la_sO, nx_sO, kd_sL, fi_sL, fr_sL, ln_sL, ia_sL, oa_sL, la_sL, nx_sL, kd_sF, fi_sF, fr_sF, ln_sF, ia_sF, oa_sF, la_sF, nx_sF, kd_sG, fi_sG, fr_sG, ln_sG, ia_sG, oa_sG, la_sG, nx_sG, kd_sX, fi_sX, fr_sX, ln_sX, ia_sX, oa_sX, la_sX, nx_sX, kd_nO, fi_nO, fr_nO, ln_nO, ia_nO, oa_nO, la_nO, nx_nO, kd_nA, fi_nA, fr_nA, ln_nA, ia_nA, oa_nA, la_nA, nx_nA, u3_s]
  · simp only [kd_sI, fi_sI, fr_sI, ln_sI, ia_sI, oa_sI, la_sI, nx_sI, kd_sR, fi_sR, fr_sR, ln_sR, ia_sR, oa_sR, la_sR, nx_sR, kd_sA, fi_sA, fr_sA, ln_sA, ia_sA, oa_sA, la_sA, nx_sA, kd_sO, fi_sO, fr_sO, ln_sO, ia_sO, oa_sO, la_sO, nx_sO, kd_sL, fi_sL, fr_sL, ln_sL, ia_sL, oa_sL, la_sL, nx_sL, kd_sF, fi_sF, fr_sF, ln_sF, ia_sF, oa_sF, la_sF, nx_sF, kd_sG, fi_sG, fr_sG, ln_sG, ia_sG, oa_sG, la_sG, nx_sG, kd_sX, fi_sX, fr_sX, ln_sX, ia_sX, oa_sX, la_sX, nx_sX, kd_nO, fi_nO, fr_nO, ln_nO, ia_nO, oa_nO, la_nO, nx_nO, kd_nA, fi_nA, fr_nA, ln_nA, ia_nA, oa_nA, la_nA, nx_nA]; rw [u3_j (by decide)]; exact f3
  · simp only [kd_sI, fi_sI, fr_sI, ln_sI, ia_sI, oa_sI, la_sI, nx_sI, kd_sR, fi_sR, fr_sR, ln_sR, ia_sR, oa_sR, la_sR, nx_sR, kd_sA, fi_sA, fr_sA, ln_sA, ia_sA, oa_sA, la_sA, nx_sA, kd_sO, fi_sO, fr_sO, ln_sO, ia_sO, oa_sO, la_sO, nx_sO, kd_sL, fi_sL, fr_sL, ln_sL, ia_sL, oa_sL, la_sL, nx_sL, kd_sF, fi_sF, fr_sF, ln_sF, ia_sF, oa_sF, la_sF, nx_sF, kd_sG, fi_sG, fr_sG, ln_sG, ia_sG, oa_sG, la_sG, nx_sG, kd_sX, fi_sX, fr_sX, ln_sX, ia_sX, oa_sX, la_sX, nx_sX, kd_nO, fi_nO, fr_nO, ln_nO, ia_nO, oa_nO, la_nO, nx_nO, kd_nA, fi_nA, fr_nA, ln_nA, ia_nA, oa_nA, la_nA, nx_nA]; rw [u3_j (by decide)]; exact f4
  · simp only [kd_sI, fi_sI, fr_sI, ln_sI, ia_sI, oa_sI, la_sI, nx_sI, kd_sR, fi_sR, fr_sR, ln_sR, ia_sR, oa_sR, la_sR, nx_sR, kd_sA, fi_sA, fr_sA, ln_sA, ia_sA, oa_sA, la_sA, nx_sA, kd_sO, fi_sO, fr_sO, ln_sO, ia_sO, oa_sO, la_sO, nx_sO, kd_sL, fi_sL, fr_sL, ln_sL, ia_sL, oa_sL, la_sL, nx_sL, kd_sF, fi_sF, fr_sF, ln_sF, ia_sF, oa_sF, la_sF, nx_sF, kd_sG, fi_sG, fr_sG, ln_sG, ia_sG, oa_sG, la_sG, nx_sG, kd_sX, fi_sX, fr_sX, ln_sX, ia_sX, oa_sX, la_sX, nx_sX, kd_nO, fi_nO, fr_nO, ln_nO, ia_nO, oa_nO, la_nO, nx_nO, kd_nA, fi_nA, fr_nA, ln_nA, ia_nA, oa_nA, la_nA, nx_nA, u3_s]
  · simp only [kd_sI, fi_sI, fr_sI, ln_sI, ia_sI, oa_sI, la_sI, nx_sI, kd_sR, fi_sR, fr_sR, ln_sR, ia_sR, oa_sR, la_sR, nx_sR, kd_sA, fi_sA, fr_sA, ln_sA, ia_sA, oa_sA, la_sA, nx_sA, kd_sO, fi_sO, fr_sO, ln_sO, ia_sO, oa_sO, la_sO, nx_sO, kd_sL, fi_sL, fr_sL, ln_sL, ia_sL, oa_sL, la_sL, nx_sL, kd_sF, fi_sF, fr_sF, ln_sF, ia_sF, oa_sF, la_sF, nx_sF, kd_sG, fi_sG, fr_sG, ln_sG, ia_sG, oa_sG, la_sG, nx_sG, kd_sX, fi_sX, fr_sX, ln_sX, ia_sX, oa_sX, la_sX, nx_sX, kd_nO, fi_nO, fr_nO, ln_nO, ia_nO, oa_nO, la_nO, nx_nO, kd_nA, fi_nA, fr_nA, ln_nA, ia_nA, oa_nA, la_nA, nx_nA, va_up_s]
  · simp only [kd_sI, fi_sI, fr_sI, ln_sI, ia_sI, oa_sI, la_sI, nx_sI, kd_sR, fi_sR, fr_sR, ln_sR, ia_sR, oa_sR, la_sR, nx_sR, kd_sA, fi_sA, fr_sA, ln_sA, ia_sA, oa_sA, la_sA, nx_sA, kd_sO, fi_sO, fr_sO, ln_sO, ia_sO, oa_sO, la_sO, nx_sO, kd_sL, fi_sL, fr_sL, ln_sL, ia_sL, oa_sL, la_sL, nx_sL, kd_sF, fi_sF, fr_sF, ln_sF, ia_sF, oa_sF, la_sF, nx_sF, kd_sG, fi_sG, fr_sG, ln_sG, ia_sG, oa_sG, la_sG, nx_sG, kd_sX, fi_sX, fr_sX, ln_sX, ia_sX, oa_sX, la_sX, nx_sX, kd_nO, fi_nO, fr_nO, ln_nO, ia_nO, oa_nO, la_nO, nx_nO, kd_nA, fi_nA, fr_nA, ln_nA, ia_nA, oa_nA, la_nA, nx_nA]; omega
  · simp only [kd_sI, fi_sI, fr_sI, ln_sI, ia_sI, oa_sI, la_sI, nx_sI, kd_sR, fi_sR, fr_sR, ln_sR, ia_sR, oa_sR, la_sR, nx_sR, kd_sA, fi_sA, fr_sA, ln_sA, ia_sA, oa_sA, la_sA, nx_sA, kd_sO, fi_sO, fr_sO, ln_sO, ia_sO, oa_sO, la_sO, nx_sO, kd_sL, fi_sL, fr_sL, ln_sL, ia_sL, oa_sL, la_sL, nx_sL, kd_sF, fi_sF, fr_sF, ln_sF, ia_sF, oa_sF, la_sF, nx_sF, kd_sG, fi_sG, fr_sG, ln_sG, ia_sG, oa_sG, la_sG, nx_sG, kd_sX, fi_sX, fr_sX, ln_sX, ia_sX, oa_sX, la_sX, nx_sX, kd_nO, fi_nO, fr_nO, ln_nO, ia_nO, oa_nO, la_nO, nx_nO, kd_nA, fi_nA, fr_nA, ln_nA, ia_nA, oa_nA, la_nA, nx_nA, va_up_s]
  · simp only [kd_sI, fi_sI, fr_sI, ln_sI, ia_sI, oa_sI, la_sI, nx_sI, kd_sR, fi_sR, fr_sR, ln_sR, ia_sR, oa_sR, la_sR, nx_sR, kd_sA, fi_sA, fr_sA, ln_sA, ia_sA, oa_sA, la_sA, nx_sA, kd_sO, fi_sO, fr_sO, ln_sO, ia_sO, oa_sO, la_sO, nx_sO, kd_sL, fi_sL, fr_sL, ln_sL, ia_sL, oa_sL, la_sL, nx_sL, kd_sF, fi_sF, fr_sF, ln_sF, ia_sF, oa_sF, la_sF, nx_sF, kd_sG, fi_sG, fr_sG, ln_sG, ia_sG, oa_sG, la_sG, nx_sG, kd_sX, fi_sX, fr_sX, ln_sX, ia_sX, oa_sX, la_sX, nx_sX, kd_nO, fi_nO, fr_nO, ln_nO, ia_nO, oa_nO, la_nO, nx_nO, kd_nA, fi_nA, fr_nA, ln_nA, ia_nA, oa_nA, la_nA, nx_nA, va_up_s]
