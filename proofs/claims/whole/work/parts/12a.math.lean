/-! the constructors -/
theorem AT_init {w : mW} {ρ : Nat → Nat} {a : Nat} (h : tg w ρ a 4 40) : ∃ w' ρ', e_X0_init w a = some ((), w') ∧ AT0 w' ρ' a ∧ ch (fun q => q = 40 ∨ q = 41) w ρ w' ρ' := by
  have ha := tg_nx h
  have g1 : ch (fun q => q = 40 ∨ q = 41) w ρ (m_nO w 5) (va_up ρ (m_nx w) 41) := ch_nO
  have hn : tg (m_nO w 5) (va_up ρ (m_nx w) 41) (m_nx w) 6 41 := ⟨by simp only [kd_sI, fi_sI, fr_sI, ln_sI, ia_sI, oa_sI, la_sI, nx_sI, kd_sR, fi_sR, fr_sR, ln_sR, ia_sR, oa_sR, la_sR, nx_sR, kd_sA, fi_sA, fr_sA, ln_sA, ia_sA, oa_sA, la_sA, nx_sA, kd_sO, fi_sO, fr_sO, ln_sO, ia_sO, oa_sO, la_sO, nx_sO, kd_sL, fi_sL, fr_sL, ln_sL, ia_sL, oa_sL, la_sL, nx_sL, kd_sF, fi_sF, fr_sF, ln_sF, ia_sF, oa_sF, la_sF, nx_sF, kd_sG, fi_sG, fr_sG, ln_sG, ia_sG, oa_sG, la_sG, nx_sG, kd_sX, fi_sX, fr_sX, ln_sX, ia_sX, oa_sX, la_sX, nx_sX, kd_nO, fi_nO, fr_nO, ln_nO, ia_nO, oa_nO, la_nO, nx_nO, kd_nA, fi_nA, fr_nA, ln_nA, ia_nA, oa_nA, la_nA, nx_nA, va_up_s], va_up_s, by simp only [kd_sI, fi_sI, fr_sI, ln_sI, ia_sI, oa_sI, la_sI, nx_sI, kd_sR, fi_sR, fr_sR, ln_sR, ia_sR, oa_sR, la_sR, nx_sR, kd_sA, fi_sA, fr_sA, ln_sA, ia_sA, oa_sA, la_sA, nx_sA, kd_sO, fi_sO, fr_sO, ln_sO, ia_sO, oa_sO, la_sO, nx_sO, kd_sL, fi_sL, fr_sL, ln_sL, ia_sL, oa_sL, la_sL, nx_sL, kd_sF, fi_sF, fr_sF, ln_sF, ia_sF, oa_sF, la_sF, nx_sF, kd_sG, fi_sG, fr_sG, ln_sG, ia_sG, oa_sG, la_sG, nx_sG, kd_sX, fi_sX, fr_sX, ln_sX, ia_sX, oa_sX, la_sX, nx_sX, kd_nO, fi_nO, fr_nO, ln_nO, ia_nO, oa_nO, la_nO, nx_nO, kd_nA, fi_nA, fr_nA, ln_nA, ia_nA, oa_nA, la_nA, nx_nA]; omega⟩
  have h1 := tg_ch h g1
  obtain ⟨w2, ρ2, q1, q2, q3⟩ := NM_init hn
  have h2 := tg_ch h1 q3
  have z8 : (8 : Int32).toNatClampNeg = 8 := by decide +kernel
  unfold e_X0_init
  rw [m_l_s, q1, m_b_s, m_g_t h2.1, m_l_s, m_g_t ⟨by decide, by decide, by decide⟩, m_l_s, z8, m_l_s]
  have g3 : ch (fun q => q = 40 ∨ q = 41) w2 ρ2 (m_sR w2 3 5 a (some (m_nx w))) ρ2 := ch_sR (by rw [h2.2.1]; exact Or.inl rfl)
  have n3 := NM_ch q2 (show ch (fun q => q = 40) w2 ρ2 (m_sR w2 3 5 a (some (m_nx w))) ρ2 from ch_sR h2.2.1) (by omega) (by omega) (by omega)
  generalize hw3 : m_sR w2 3 5 a (some (m_nx w)) = w3 at g3 n3 ⊢
  have h3 := tg_ch h2 g3
  have f3 : m_fr w3 3 5 a = some (m_nx w) := by rw [← hw3]; simp only [kd_sI, fi_sI, fr_sI, ln_sI, ia_sI, oa_sI, la_sI, nx_sI, kd_sR, fi_sR, fr_sR, ln_sR, ia_sR, oa_sR, la_sR, nx_sR, kd_sA, fi_sA, fr_sA, ln_sA, ia_sA, oa_sA, la_sA, nx_sA, kd_sO, fi_sO, fr_sO, ln_sO, ia_sO, oa_sO, la_sO, nx_sO, kd_sL, fi_sL, fr_sL, ln_sL, ia_sL, oa_sL, la_sL, nx_sL, kd_sF, fi_sF, fr_sF, ln_sF, ia_sF, oa_sF, la_sF, nx_sF, kd_sG, fi_sG, fr_sG, ln_sG, ia_sG, oa_sG, la_sG, nx_sG, kd_sX, fi_sX, fr_sX, ln_sX, ia_sX, oa_sX, la_sX, nx_sX, kd_nO, fi_nO, fr_nO, ln_nO, ia_nO, oa_nO, la_nO, nx_nO, kd_nA, fi_nA, fr_nA, ln_nA, ia_nA, oa_nA, la_nA, nx_nA, u3_s]
  have ha3 := tg_nx h3
  have g4 : ch (fun q => q = 40) w3 ρ2 (m_sR (m_nA w3 21 8) 3 6 a (some (m_nx w3))) (va_up ρ2 (m_nx w3) 44) := ch_trans ch_nA (ch_sR (by rw [va_up_n ha3]; exact h3.2.1))
  refine ⟨_, va_up ρ2 (m_nx w3) 44, rfl, ⟨m_nx w, m_nx w3, _, _, tg_ch h3 g4, ?_, ?_, NM_ch n3 g4 (by omega) (by omega) (by omega), ⟨?_, va_up_s, ?_⟩, ?_⟩, ch_trans g1 (ch_trans (ch_mono q3 (fun q hq => Or.inr hq)) (ch_trans g3 (ch_mono g4 (fun q hq => Or.inl hq))))⟩
  · simp only [kd_sI, fi_sI, fr_sI, ln_sI, ia_sI, oa_sI, la_sI, nx_sI, kd_sR, fi_sR, fr_sR, ln_sR, ia_sR, oa_sR, la_sR, nx_sR, kd_sA, fi_sA, fr_sA, ln_sA, ia_sA, oa_sA, la_sA, nx_sA, kd_sO, fi_sO, fr_sO, ln_sO, ia_sO, oa_sO, la_sO, nx_sO, kd_sL, fi_sL, fr_sL, ln_sL, ia_sL, oa_sL, la_sL, nx_sL, kd_sF, fi_sF, fr_sF, ln_sF, ia_sF, oa_sF, la_sF, nx_sF, kd_sG, fi_sG, fr_sG, ln_sG, ia_sG, oa_sG, la_sG, nx_sG, kd_sX, fi_sX, fr_sX, ln_sX, ia_sX, oa_sX, la_sX, nx_sX, kd_nO, fi_nO, fr_nO, ln_nO, ia_nO, oa_nO, la_nO, nx_nO, kd_nA, fi_nA, fr_nA, ln_nA, ia_nA, oa_nA, la_nA, nx_nA]; rw [u3_j (by decide)]; exact f3
  · simp only [kd_sI, fi_sI, fr_sI, ln_sI, ia_sI, oa_sI, la_sI, nx_sI, kd_sR, fi_sR, fr_sR, ln_sR, ia_sR, oa_sR, la_sR, nx_sR, kd_sA, fi_sA, fr_sA, ln_sA, ia_sA, oa_sA, la_sA, nx_sA, kd_sO, fi_sO, fr_sO, ln_sO, ia_sO, oa_sO, la_sO, nx_sO, kd_sL, fi_sL, fr_sL, ln_sL, ia_sL, oa_sL, la_sL, nx_sL, kd_sF, fi_sF, fr_sF, ln_sF, ia_sF, oa_sF, la_sF, nx_sF, kd_sG, fi_sG, fr_sG, ln_sG, ia_sG, oa_sG, la_sG, nx_sG, kd_sX, fi_sX, fr_sX, ln_sX, ia_sX, oa_sX, la_sX, nx_sX, kd_nO, fi_nO, fr_nO, ln_nO, ia_nO, oa_nO, la_nO, nx_nO, kd_nA, fi_nA, fr_nA, ln_nA, ia_nA, oa_nA, la_nA, nx_nA, u3_s]
  · simp only [kd_sI, fi_sI, fr_sI, ln_sI, ia_sI, oa_sI, la_sI, nx_sI, kd_sR, fi_sR, fr_sR, ln_sR, ia_sR, oa_sR, la_sR, nx_sR, kd_sA, fi_sA, fr_sA, ln_sA, ia_sA, oa_sA, la_sA, nx_sA, kd_sO, fi_sO, fr_sO, ln_sO, ia_sO, oa_sO, la_sO, nx_sO, kd_sL, fi_sL, fr_sL, ln_sL, ia_sL, oa_sL, la_sL, nx_sL, kd_sF, fi_sF, fr_sF, ln_sF, ia_sF, oa_sF, la_sF, nx_sF, kd_sG, fi_sG, fr_sG, ln_sG, ia_sG, oa_sG, la_sG, nx_sG, kd_sX, fi_sX, fr_sX, ln_sX, ia_sX, oa_sX, la_sX, nx_sX, kd_nO, fi_nO, fr_nO, ln_nO, ia_nO, oa_nO, la_nO, nx_nO, kd_nA, fi_nA, fr_nA, ln_nA, ia_nA, oa_nA, la_nA, nx_nA, va_up_s]
  · simp only [kd_sI, fi_sI, fr_sI, ln_sI, ia_sI, oa_sI, la_sI, nx_sI, kd_sR, fi_sR, fr_sR, ln_sR, ia_sR, oa_sR, la_sR, nx_sR, kd_sA, fi_sA, fr_sA, ln_sA, ia_sA, oa_sA, la_sA, nx_sA, kd_sO, fi_sO, fr_sO, ln_sO, ia_sO, oa_sO, la_sO, nx_sO, kd_sL, fi_sL, fr_sL, ln_sL, ia_sL, oa_sL, la_sL, nx_sL, kd_sF, fi_sF, fr_sF, ln_sF, ia_sF, oa_sF, la_sF, nx_sF, kd_sG, fi_sG, fr_sG, ln_sG, ia_sG, oa_sG, la_sG, nx_sG, kd_sX, fi_sX, fr_sX, ln_sX, ia_sX, oa_sX, la_sX, nx_sX, kd_nO, fi_nO, fr_nO, ln_nO, ia_nO, oa_nO, la_nO, nx_nO, kd_nA, fi_nA, fr_nA, ln_nA, ia_nA, oa_nA, la_nA, nx_nA]; omega
  · simp only [kd_sI, fi_sI, fr_sI, ln_sI, ia_sI, oa_sI, la_sI, nx_sI, kd_sR, fi_sR, fr_sR, ln_sR, ia_sR, oa_sR, la_sR, nx_sR, kd_sA, fi_sA, fr_sA, ln_sA, ia_sA, oa_sA, la_sA, nx_sA, kd_sO, fi_sO, fr_sO, ln_sO, ia_sO, oa_sO, la_sO, nx_sO, kd_sL, fi_sL, fr_sL, ln_sL, ia_sL, oa_sL, la_sL, nx_sL, kd_sF, fi_sF, fr_sF, ln_sF, ia_sF, oa_sF, la_sF, nx_sF, kd_sG, fi_sG, fr_sG, ln_sG, ia_sG, oa_sG, la_sG, nx_sG, kd_sX, fi_sX, fr_sX, ln_sX, ia_sX, oa_sX, la_sX, nx_sX, kd_nO, fi_nO, fr_nO, ln_nO, ia_nO, oa_nO, la_nO, nx_nO, kd_nA, fi_nA, fr_nA, ln_nA, ia_nA, oa_nA, la_nA, nx_nA, va_up_s]
/-- a part of the notebook, made and put into its place -/
theorem X6_put {S : Nat → Prop} {w w4 : mW} {ρ ρ4 : Nat → Nat} {h c t : Nat} (j : Nat) (H : tg w ρ h 10 1) (g : ch S (m_nO w c) (va_up ρ (m_nx w) t) w4 ρ4) (hs : ¬ S 1) :
    m_kd w4 h = 10 ∧ ∀ w', w' = m_sR w4 9 j h (some (m_nx w)) → tg w' ρ4 h 10 1 ∧ m_fr w' 9 j h = some (m_nx w) ∧ (∀ j', j' ≠ j → m_fr w' 9 j' h = m_fr w 9 j' h) ∧ ch (fun q => q = 1) w4 ρ4 w' ρ4 ∧ ch (fun q => q = 1 ∨ S q) w ρ w' ρ4 := by
  have g1 : ch (fun q => q = 1 ∨ S q) w ρ (m_nO w c) (va_up ρ (m_nx w) t) := ch_nO
  have h1 := tg_ch H g1
  have h4 := tg_ch h1 g
  obtain ⟨-, s2, -, -, -⟩ := tg_sm h1 g hs
  refine ⟨h4.1, fun w' hw => ?_⟩
  subst hw
  have g4 : ch (fun q => q = 1) w4 ρ4 (m_sR w4 9 j h (some (m_nx w))) ρ4 := ch_sR h4.2.1
  refine ⟨tg_ch h4 g4, ?_, fun j' hj => ?_, g4, ch_trans g1 (ch_trans (ch_mono g (fun _ q => Or.inr q)) (ch_mono g4 (fun _ q => Or.inl q)))⟩
  · simp only [kd_sI, fi_sI, fr_sI, ln_sI, ia_sI, oa_sI, la_sI, nx_sI, kd_sR, fi_sR, fr_sR, ln_sR, ia_sR, oa_sR, la_sR, nx_sR, kd_sA, fi_sA, fr_sA, ln_sA, ia_sA, oa_sA, la_sA, nx_sA, kd_sO, fi_sO, fr_sO, ln_sO, ia_sO, oa_sO, la_sO, nx_sO, kd_sL, fi_sL, fr_sL, ln_sL, ia_sL, oa_sL, la_sL, nx_sL, kd_sF, fi_sF, fr_sF, ln_sF, ia_sF, oa_sF, la_sF, nx_sF, kd_sG, fi_sG, fr_sG, ln_sG, ia_sG, oa_sG, la_sG, nx_sG, kd_sX, fi_sX, fr_sX, ln_sX, ia_sX, oa_sX, la_sX, nx_sX, kd_nO, fi_nO, fr_nO, ln_nO, ia_nO, oa_nO, la_nO, nx_nO, kd_nA, fi_nA, fr_nA, ln_nA, ia_nA, oa_nA, la_nA, nx_nA, u3_s]
  · simp only [kd_sI, fi_sI, fr_sI, ln_sI, ia_sI, oa_sI, la_sI, nx_sI, kd_sR, fi_sR, fr_sR, ln_sR, ia_sR, oa_sR, la_sR, nx_sR, kd_sA, fi_sA, fr_sA, ln_sA, ia_sA, oa_sA, la_sA, nx_sA, kd_sO, fi_sO, fr_sO, ln_sO, ia_sO, oa_sO, la_sO, nx_sO, kd_sL, fi_sL, fr_sL, ln_sL, ia_sL, oa_sL, la_sL, nx_sL, kd_sF, fi_sF, fr_sF, ln_sF, ia_sF, oa_sF, la_sF, nx_sF, kd_sG, fi_sG, fr_sG, ln_sG, ia_sG, oa_sG, la_sG, nx_sG, kd_sX, fi_sX, fr_sX, ln_sX, ia_sX, oa_sX, la_sX, nx_sX, kd_nO, fi_nO, fr_nO, ln_nO, ia_nO, oa_nO, la_nO, nx_nO, kd_nA, fi_nA, fr_nA, ln_nA, ia_nA, oa_nA, la_nA, nx_nA]
    rw [u3_j hj, s2]
    simp only [kd_sI, fi_sI, fr_sI, ln_sI, ia_sI, oa_sI, la_sI, nx_sI, kd_sR, fi_sR, fr_sR, ln_sR, ia_sR, oa_sR, la_sR, nx_sR, kd_sA, fi_sA, fr_sA, ln_sA, ia_sA, oa_sA, la_sA, nx_sA, kd_sO, fi_sO, fr_sO, ln_sO, ia_sO, oa_sO, la_sO, nx_sO, kd_sL, fi_sL, fr_sL, ln_sL, ia_sL, oa_sL, la_sL, nx_sL, kd_sF, fi_sF, fr_sF, ln_sF, ia_sF, oa_sF, la_sF, nx_sF, kd_sG, fi_sG, fr_sG, ln_sG, ia_sG, oa_sG, la_sG, nx_sG, kd_sX, fi_sX, fr_sX, ln_sX, ia_sX, oa_sX, la_sX, nx_sX, kd_nO, fi_nO, fr_nO, ln_nO, ia_nO, oa_nO, la_nO, nx_nO, kd_nA, fi_nA, fr_nA, ln_nA, ia_nA, oa_nA, la_nA, nx_nA]
    exact ua_n (tg_nx H)
theorem tg_nO {w : mW} {ρ : Nat → Nat} {c t : Nat} : tg (m_nO w c) (va_up ρ (m_nx w) t) (m_nx w) (c + 1) t := ⟨by simp only [kd_sI, fi_sI, fr_sI, ln_sI, ia_sI, oa_sI, la_sI, nx_sI, kd_sR, fi_sR, fr_sR, ln_sR, ia_sR, oa_sR, la_sR, nx_sR, kd_sA, fi_sA, fr_sA, ln_sA, ia_sA, oa_sA, la_sA, nx_sA, kd_sO, fi_sO, fr_sO, ln_sO, ia_sO, oa_sO, la_sO, nx_sO, kd_sL, fi_sL, fr_sL, ln_sL, ia_sL, oa_sL, la_sL, nx_sL, kd_sF, fi_sF, fr_sF, ln_sF, ia_sF, oa_sF, la_sF, nx_sF, kd_sG, fi_sG, fr_sG, ln_sG, ia_sG, oa_sG, la_sG, nx_sG, kd_sX, fi_sX, fr_sX, ln_sX, ia_sX, oa_sX, la_sX, nx_sX, kd_nO, fi_nO, fr_nO, ln_nO, ia_nO, oa_nO, la_nO, nx_nO, kd_nA, fi_nA, fr_nA, ln_nA, ia_nA, oa_nA, la_nA, nx_nA, va_up_s], va_up_s, by simp only [kd_sI, fi_sI, fr_sI, ln_sI, ia_sI, oa_sI, la_sI, nx_sI, kd_sR, fi_sR, fr_sR, ln_sR, ia_sR, oa_sR, la_sR, nx_sR, kd_sA, fi_sA, fr_sA, ln_sA, ia_sA, oa_sA, la_sA, nx_sA, kd_sO, fi_sO, fr_sO, ln_sO, ia_sO, oa_sO, la_sO, nx_sO, kd_sL, fi_sL, fr_sL, ln_sL, ia_sL, oa_sL, la_sL, nx_sL, kd_sF, fi_sF, fr_sF, ln_sF, ia_sF, oa_sF, la_sF, nx_sF, kd_sG, fi_sG, fr_sG, ln_sG, ia_sG, oa_sG, la_sG, nx_sG, kd_sX, fi_sX, fr_sX, ln_sX, ia_sX, oa_sX, la_sX, nx_sX, kd_nO, fi_nO, fr_nO, ln_nO, ia_nO, oa_nO, la_nO, nx_nO, kd_nA, fi_nA, fr_nA, ln_nA, ia_nA, oa_nA, la_nA, nx_nA]; omega⟩
theorem X6_al {w : mW} {ρ : Nat → Nat} {t0 : Nat × Nat × Nat × Nat} {h : Nat} (j t : Nat) (ht : 1 < t) (H : tg w ρ h 10 1) (D : DF w ρ t0.1) :
    ∃ w4, e_Jx4a65c_init_da8c8 t0 (m_nO w 2) (m_nx w) = some ((), w4) ∧ m_kd w4 h = 10 ∧ ∀ w', w' = m_sR w4 9 j h (some (m_nx w)) → ∃ ρ', tg w' ρ' h 10 1 ∧ DF w' ρ' t0.1 ∧ AL w' ρ' t0.1 (m_nx w) t [] ∧ m_fr w' 9 j h = some (m_nx w) ∧ (∀ j', j' ≠ j → m_fr w' 9 j' h = m_fr w 9 j' h) ∧ ch (fun q => q = 1 ∨ q = t) w ρ w' ρ' := by
  have g1 : ch (fun q => q = t) w ρ (m_nO w 2) (va_up ρ (m_nx w) t) := ch_nO
  obtain ⟨w4, q1, q2, q3⟩ := AL_init (tg_nO (w := w) (ρ := ρ) (c := 2) (t := t)) (by simp only [kd_sI, fi_sI, fr_sI, ln_sI, ia_sI, oa_sI, la_sI, nx_sI, kd_sR, fi_sR, fr_sR, ln_sR, ia_sR, oa_sR, la_sR, nx_sR, kd_sA, fi_sA, fr_sA, ln_sA, ia_sA, oa_sA, la_sA, nx_sA, kd_sO, fi_sO, fr_sO, ln_sO, ia_sO, oa_sO, la_sO, nx_sO, kd_sL, fi_sL, fr_sL, ln_sL, ia_sL, oa_sL, la_sL, nx_sL, kd_sF, fi_sF, fr_sF, ln_sF, ia_sF, oa_sF, la_sF, nx_sF, kd_sG, fi_sG, fr_sG, ln_sG, ia_sG, oa_sG, la_sG, nx_sG, kd_sX, fi_sX, fr_sX, ln_sX, ia_sX, oa_sX, la_sX, nx_sX, kd_nO, fi_nO, fr_nO, ln_nO, ia_nO, oa_nO, la_nO, nx_nO, kd_nA, fi_nA, fr_nA, ln_nA, ia_nA, oa_nA, la_nA, nx_nA, ua_s]) (DF_ch D g1 (by omega))
  obtain ⟨b1, b2⟩ := X6_put j H q3 (by omega)
  refine ⟨w4, q1, b1, fun w' hw => ?_⟩
  obtain ⟨c1, c2, c3, c4, c5⟩ := b2 w' hw
  exact ⟨_, c1, DF_ch D c5 (by omega), AL_ch q2 c4 (by omega) (by omega) (by omega), c2, c3, c5⟩
def q_0 : qS := (0, [], fun _ => [], fun _ => 0, fun _ _ => 0, (fun _ => 0, fun _ => 0, fun _ => 0), (0, fun _ => (0, 0, none, 0, fun _ => 0)), [], (0, fun _ => (fun _ => 0, fun _ => 0, fun _ => 0)))
theorem q_0G : qG q_0 := by
  refine ⟨by decide, ⟨rfl, List.nodup_nil, fun x => ⟨fun h => (nomatch h), fun h => absurd h (Nat.not_lt_zero x)⟩⟩, fun k hk => absurd hk (Nat.not_lt_zero k), by decide, ⟨fun i _ => ⟨Nat.le_refl _, fun _ => rfl⟩, fun k => ⟨Nat.le_refl _, fun _ => rfl, fun h => absurd h (Nat.lt_irrefl 0)⟩⟩, fun i hi => absurd hi (Nat.not_lt_zero i), ⟨List.Pairwise.nil, fun x h => nomatch h⟩, by decide, fun i hi => absurd hi (Nat.not_lt_zero i)⟩
theorem HC_init {w : mW} {ρ : Nat → Nat} {t0 : Nat × Nat × Nat × Nat} {h : Nat} (H : tg w ρ h 10 1) (D : DF w ρ t0.1) :
    ∃ w' ρ' ad, e_X6_init t0 w h = some ((), w') ∧ HC w' ρ' t0.1 h q_0 (fun _ => 0) (fun _ => 0) (fun _ => 0) ad ∧ ch (fun q => q = 1 ∨ 10 ≤ q) w ρ w' ρ' := by
  obtain ⟨v0, q0, k0, z0⟩ := X6_al 0 10 (by omega) H D
  obtain ⟨w1, hw1⟩ : ∃ w1, w1 = m_sR v0 9 0 h (some (m_nx w)) := ⟨_, rfl⟩
  obtain ⟨ρ1, H1, D1, A0, f0, e0, g0⟩ := z0 w1 hw1
  obtain ⟨v1, q1, k1, z1⟩ := X6_al 1 12 (by omega) H1 D1
  obtain ⟨w2, hw2⟩ : ∃ w2, w2 = m_sR v1 9 1 h (some (m_nx w1)) := ⟨_, rfl⟩
  obtain ⟨ρ2, H2, D2, A1, f1, e1, g1⟩ := z1 w2 hw2
  obtain ⟨v2, q2, k2, z2⟩ := X6_al 2 14 (by omega) H2 D2
  obtain ⟨w3, hw3⟩ : ∃ w3, w3 = m_sR v2 9 2 h (some (m_nx w2)) := ⟨_, rfl⟩
  obtain ⟨ρ3, H3, D3, A2, f2, e2, g2⟩ := z2 w3 hw3
  obtain ⟨v3, q3, k3, z3⟩ := X6_al 3 16 (by omega) H3 D3
  obtain ⟨w4, hw4⟩ : ∃ w4, w4 = m_sR v3 9 3 h (some (m_nx w3)) := ⟨_, rfl⟩
  obtain ⟨ρ4, H4, D4, A3, f3, e3, g3⟩ := z3 w4 hw4
  obtain ⟨v4, q4, k4, z4⟩ := X6_al 4 18 (by omega) H4 D4
  obtain ⟨w5, hw5⟩ : ∃ w5, w5 = m_sR v4 9 4 h (some (m_nx w4)) := ⟨_, rfl⟩
  obtain ⟨ρ5, H5, D5, A4, f4, e4, g4⟩ := z4 w5 hw5
  obtain ⟨v5, ρ6, q5, S5, p5⟩ := SE_init (tg_nO (w := w5) (ρ := ρ5) (c := 7) (t := 20))
  obtain ⟨k5, z5⟩ := X6_put 5 H5 p5 (by omega)
  obtain ⟨w6, hw6⟩ : ∃ w6, w6 = m_sR v5 9 5 h (some (m_nx w5)) := ⟨_, rfl⟩
  obtain ⟨H6, f5, e5, x5, g5⟩ := z5 w6 hw6
  have S6 := SE_ch S5 x5 (fun q _ _ => by omega)
  obtain ⟨v6, ρ7, q6, N6, p6⟩ := NM_init (tg_nO (w := w6) (ρ := ρ6) (c := 5) (t := 30))
  obtain ⟨k6, z6⟩ := X6_put 6 H6 p6 (by omega)
  obtain ⟨w7, hw7⟩ : ∃ w7, w7 = m_sR v6 9 6 h (some (m_nx w6)) := ⟨_, rfl⟩
  obtain ⟨H7, f6, e6, x6, g6⟩ := z6 w7 hw7
  have N7 := NM_ch N6 x6 (by omega) (by omega) (by omega)
  obtain ⟨v7, ρ8, q7, T7, p7⟩ := AT_init (tg_nO (w := w7) (ρ := ρ7) (c := 3) (t := 40))
  obtain ⟨k7, z7⟩ := X6_put 7 H7 p7 (by omega)
  obtain ⟨w8, hw8⟩ : ∃ w8, w8 = m_sR v7 9 7 h (some (m_nx w7)) := ⟨_, rfl⟩
  obtain ⟨H8, f7, e7, x7, g7⟩ := z7 w8 hw8
  have T8 := AT0_ch T7 x7 (fun q _ _ => by omega)
  have G5 : ch (fun q => q = 1 ∨ 20 ≤ q) w5 ρ5 w8 ρ8 := ch_trans (ch_mono g5 (fun q hq => by omega)) (ch_trans (ch_mono g6 (fun q hq => by omega)) (ch_mono g7 (fun q hq => by omega)))
  have G4 : ch (fun q => q = 1 ∨ 18 ≤ q) w4 ρ4 w8 ρ8 := ch_trans (ch_mono g4 (fun q hq => by omega)) (ch_mono G5 (fun q hq => by omega))
  have G3 : ch (fun q => q = 1 ∨ 16 ≤ q) w3 ρ3 w8 ρ8 := ch_trans (ch_mono g3 (fun q hq => by omega)) (ch_mono G4 (fun q hq => by omega))
  have G2 : ch (fun q => q = 1 ∨ 14 ≤ q) w2 ρ2 w8 ρ8 := ch_trans (ch_mono g2 (fun q hq => by omega)) (ch_mono G3 (fun q hq => by omega))
  have G1 : ch (fun q => q = 1 ∨ 12 ≤ q) w1 ρ1 w8 ρ8 := ch_trans (ch_mono g1 (fun q hq => by omega)) (ch_mono G2 (fun q hq => by omega))
  have G0 : ch (fun q => q = 1 ∨ 10 ≤ q) w ρ w8 ρ8 := ch_trans (ch_mono g0 (fun q hq => by omega)) (ch_mono G1 (fun q hq => by omega))
  refine ⟨w8, ρ8, fun j => [m_nx w, m_nx w1, m_nx w2, m_nx w3, m_nx w4, m_nx w5, m_nx w6, m_nx w7].getD j 0, ?_, ⟨⟨H8, fun j hj => ?_, DF_ch D G0 (by omega)⟩, ?_, ?_, ?_, ?_, ?_, ?_, ⟨_, _, show NM w8 ρ8 (m_nx w6) 30 _ _ from NM_ch N7 g7 (by omega) (by omega) (by omega)⟩, T8, fun k hk => absurd hk (Nat.not_lt_zero k), fun k hk => absurd hk (Nat.not_lt_zero k), fun k hk => absurd hk (Nat.not_lt_zero k)⟩, G0⟩
  · unfold e_X6_init
    rw [m_l_s, q0, m_b_s, m_g_t k0, m_l_s, ← hw1, m_l_s, q1, m_b_s, m_g_t k1, m_l_s, ← hw2, m_l_s, q2, m_b_s, m_g_t k2, m_l_s, ← hw3, m_l_s, q3, m_b_s, m_g_t k3, m_l_s, ← hw4, m_l_s, q4, m_b_s, m_g_t k4, m_l_s, ← hw5, m_l_s, q5, m_b_s, m_g_t k5, m_l_s, ← hw6, m_l_s, q6, m_b_s, m_g_t k6, m_l_s, ← hw7, m_l_s, q7, m_b_s, m_g_t k7, m_l_s, ← hw8]
  · have hj2 : j = 0 ∨ j = 1 ∨ j = 2 ∨ j = 3 ∨ j = 4 ∨ j = 5 ∨ j = 6 ∨ j = 7 := by omega
    rcases hj2 with rfl | rfl | rfl | rfl | rfl | rfl | rfl | rfl
    · rw [e7 _ (by decide), e6 _ (by decide), e5 _ (by decide), e4 _ (by decide), e3 _ (by decide), e2 _ (by decide), e1 _ (by decide), f0]; rfl
    · rw [e7 _ (by decide), e6 _ (by decide), e5 _ (by decide), e4 _ (by decide), e3 _ (by decide), e2 _ (by decide), f1]; rfl
    · rw [e7 _ (by decide), e6 _ (by decide), e5 _ (by decide), e4 _ (by decide), e3 _ (by decide), f2]; rfl
    · rw [e7 _ (by decide), e6 _ (by decide), e5 _ (by decide), e4 _ (by decide), f3]; rfl
    · rw [e7 _ (by decide), e6 _ (by decide), e5 _ (by decide), f4]; rfl
    · rw [e7 _ (by decide), e6 _ (by decide), f5]; rfl
    · rw [e7 _ (by decide), f6]; rfl
    · rw [f7]; rfl
  · exact AL_ch A0 G1 (by omega) (by omega) (by omega)
  · exact AL_ch A1 G2 (by omega) (by omega) (by omega)
  · exact AL_ch A2 G3 (by omega) (by omega) (by omega)
  · exact AL_ch A3 G4 (by omega) (by omega) (by omega)
  · exact AL_ch A4 G5 (by omega) (by omega) (by omega)
  · have z : (fun _ : Nat => nI 0) = (fun _ => (0 : Int32)) := funext fun _ => nI_0
    have s8 := SE_ch (SE_ch S6 g6 (fun q _ _ => by omega)) g7 (fun q _ _ => by omega)
    show SE w8 ρ8 (m_nx w5) 20 (fun _ => 0) (fun _ => nI 0) (fun _ => nI 0)
    rw [z]
    exact s8
