/-! runs that were made -/
abbrev qR : Type := Nat × Nat × Option Int32 × Nat × (Nat → Nat)
def RU (w : mW) (ρ : Nat → Nat) (a t n ca : Nat) (r : qR) : Prop :=
  ∃ sa, tg w ρ a 7 t ∧ m_fi w 6 0 a = nI n ∧ m_fr w 6 1 a = some ca ∧ m_fi w 6 2 a = nI r.2.1 ∧ m_fi w 6 3 a = (if r.2.2.1 = none then 0 else 1) ∧ (∀ z, r.2.2.1 = some z → m_fi w 6 4 a = z) ∧ m_fi w 6 5 a = nI r.2.2.2.1 ∧ m_fr w 6 6 a = some sa ∧ tg w ρ sa 21 (t + 1) ∧ m_ln w sa = 8 ∧ ∀ i, i < 8 → r.2.2.2.1.testBit i = true → m_ia w sa i = nI (r.2.2.2.2 i)
theorem RU_kd {w : mW} {ρ : Nat → Nat} {a t n ca : Nat} {r : qR} (h : RU w ρ a t n ca r) : tg w ρ a 7 t := by
  obtain ⟨sa, b1, -⟩ := h
  exact b1
theorem RU_ch {S : Nat → Prop} {w w' : mW} {ρ ρ' : Nat → Nat} {a t n ca : Nat} {r : qR} (h : RU w ρ a t n ca r) (g : ch S w ρ w' ρ') (h0 : ¬ S t) (h1 : ¬ S (t + 1)) : RU w' ρ' a t n ca r := by
  obtain ⟨sa, b1, b2, b3, b4, b5, b6, b7, b8, b9, b10, b11⟩ := h
  obtain ⟨s1, s2, -, -, -⟩ := tg_sm b1 g h0
  obtain ⟨-, -, s3, -, -⟩ := tg_sm b9 g h1
  exact ⟨sa, tg_ch b1 g, (s1 _ _).trans b2, (s2 _ _).trans b3, (s1 _ _).trans b4, (s1 _ _).trans b5, fun z hz => (s1 _ _).trans (b6 z hz), (s1 _ _).trans b7, (s2 _ _).trans b8, tg_ch b9 g, (tg_ln b9 g).trans b10, fun i hi hb => by rw [s3]; exact b11 i hi hb⟩
theorem RU_saw {w : mW} {ρ : Nat → Nat} {a t n ca : Nat} {r : qR} (h : RU w ρ a t n ca r) {i : Nat} (hi : i < 8) : e_X3_sawName w a (nI i) = some (if r.2.2.2.1.testBit i = true then 1 else 0, w) := by
  obtain ⟨sa, b1, b2, b3, b4, b5, b6, b7, b8, b9, b10, b11⟩ := h
  unfold e_X3_sawName e_X3_sawName_22 e_X3_sawName_23
  rw [nb_isName hi, m_b_s, if_neg nb_10, m_g_t b1.1, b7]
  by_cases c : r.2.2.2.1.testBit i = true
  · rw [if_neg (fun q => by rw [(nb_bit (by omega)).mp q] at c; cases c), if_pos c, m_g_t (by decide +kernel)]
  · rw [if_pos ((nb_bit (by omega)).mpr (by simpa using c)), if_neg c, m_g_t (by decide +kernel)]
theorem RU_sawN {w : mW} {a : Nat} {p : Int32} (h : p < 0 ∨ nI 8 ≤ p) : e_X3_sawName w a p = some (0, w) := by
  unfold e_X3_sawName e_X3_sawName_22 e_X3_sawName_23
  rw [nb_isNameN h, m_b_s, if_pos rfl, m_g_t (by decide +kernel)]
theorem RU_ss {w : mW} {ρ : Nat → Nat} {a t n ca : Nat} {r : qR} (h : RU w ρ a t n ca r) {i : Nat} (hi : i < 8) (hb : r.2.2.2.1.testBit i = true) : e_X3_stampSeen w a (nI i) = some (nI (r.2.2.2.2 i), w) := by
  obtain ⟨sa, b1, b2, b3, b4, b5, b6, b7, b8, b9, b10, b11⟩ := h
  unfold e_X3_stampSeen e_X3_stampSeen_17
  rw [nb_isName hi, m_b_s, if_neg nb_10, m_g_t b1.1, b8, m_o_s, m_g_t ⟨b9.1, by rw [b10]; exact nI_in hi (by decide)⟩, nI_clamp (by omega), b11 i hi hb]
theorem AT_stampSeen {w : mW} {ρ : Nat → Nat} {a : Nat} {fl ho out : Int32} {R : nR} (h : AT w ρ a fl ho out R) {i : Nat} (hi : i < 8) : e_X0_stampSeen w a (nI i) = some (R.2.2.2.2.1 i, w) := by
  obtain ⟨na, sa, b1, b2, b3, b4, b5, b6, b7, b8, b9, b10, b11, b12⟩ := h
  unfold e_X0_stampSeen e_X0_stampSeen_17
  rw [nb_isName hi, m_b_s, if_neg nb_10, m_g_t b1.1, b8, m_o_s, m_g_t ⟨b10.1, by rw [b11]; exact nI_in hi (by decide)⟩, nI_clamp (by omega), b12 i hi]
theorem RU_init_loop {ρ : Nat → Nat} {h a t sa : Nat} {fl ho out : Int32} {R : nR} (ht : t + 1 < 40 ∨ 44 < t) : ∀ (k f i : Nat) (w : mW), k < f → i + k = 8 → tg w ρ h 7 t → m_fr w 6 6 h = some sa → tg w ρ sa 21 (t + 1) → m_ln w sa = 8 → AT w ρ a fl ho out R → (∀ j, j < i → m_ia w sa j = R.2.2.2.2.1 j) →
    ∃ w', e_X3_init_57 f w h a (nI i) = some ((), w') ∧ ch (fun q => q = t + 1) w ρ w' ρ ∧ ∀ j, j < 8 → m_ia w' sa j = R.2.2.2.2.1 j := by
  intro k
  induction k with
  | zero =>
    intro f i w hf hi h1 h2 h3 h4 h5 h6
    obtain ⟨f, rfl⟩ : ∃ q, f = q + 1 := ⟨f - 1, by omega⟩
    have hi8 : i = 8 := by omega
    subst hi8
    refine ⟨w, ?_, ch_rfl, h6⟩
    show e_X3_init_57_b _ _ _ _ _ = _
    unfold e_X3_init_57_b
    rw [if_pos (by decide +kernel)]
  | succ k ih =>
    intro f i w hf hi h1 h2 h3 h4 h5 h6
    obtain ⟨f, rfl⟩ : ∃ q, f = q + 1 := ⟨f - 1, by omega⟩
    have g : ch (fun q => q = t + 1) w ρ (m_sA w sa i (R.2.2.2.2.1 i)) ρ := ch_sA h3.2.1
    obtain ⟨w', q1, q2, q3⟩ := ih f (i + 1) (m_sA w sa i (R.2.2.2.2.1 i)) (by omega) (by omega) h1 h2 h3 h4 (AT_ch h5 g (fun q z1 z2 => by omega)) (fun j hj => by
      simp only [kd_sI, fi_sI, fr_sI, ln_sI, ia_sI, oa_sI, la_sI, nx_sI, kd_sR, fi_sR, fr_sR, ln_sR, ia_sR, oa_sR, la_sR, nx_sR, kd_sA, fi_sA, fr_sA, ln_sA, ia_sA, oa_sA, la_sA, nx_sA, kd_sO, fi_sO, fr_sO, ln_sO, ia_sO, oa_sO, la_sO, nx_sO, kd_sL, fi_sL, fr_sL, ln_sL, ia_sL, oa_sL, la_sL, nx_sL, kd_sF, fi_sF, fr_sF, ln_sF, ia_sF, oa_sF, la_sF, nx_sF, kd_sG, fi_sG, fr_sG, ln_sG, ia_sG, oa_sG, la_sG, nx_sG, kd_sX, fi_sX, fr_sX, ln_sX, ia_sX, oa_sX, la_sX, nx_sX, kd_nO, fi_nO, fr_nO, ln_nO, ia_nO, oa_nO, la_nO, nx_nO, kd_nA, fi_nA, fr_nA, ln_nA, ia_nA, oa_nA, la_nA, nx_nA, va_up_s]
      by_cases c : j = i
      · subst c; simp only [pk_us]
      · rw [pk_un c]; exact h6 j (by omega))
    refine ⟨w', ?_, ch_trans g q2, q3⟩
    show e_X3_init_57_b _ _ _ _ _ = _
    unfold e_X3_init_57_b
    rw [if_neg (lge8 (by omega)), m_g_t h1.1, h2, m_o_s, m_g_t (AT_kd h5).1, AT_stampSeen h5 (by omega), m_b_s, m_g_t ⟨h3.1, by rw [h4]; exact nI_in (by omega) (by decide)⟩, m_l_s, nI_clamp (by omega), nI_1]
    exact q1
theorem RU_init {w : mW} {ρ : Nat → Nat} {h a t n c ca us : Nat} {fl ho out : Int32} {R : nR} {res : Option Int32} {ss : Nat → Nat} (ht : t + 1 < 40 ∨ 44 < t) (h1 : tg w ρ h 7 t) (h5 : AT w ρ a fl ho out R) (e1 : ho = if res = none then 0 else 1) (e2 : ∀ z, res = some z → out = z) (e3 : ∀ i, i < 8 → R.2.2.2.1.testBit i = true → R.2.2.2.2.1 i = nI (ss i)) :
    ∃ w' ρ', e_X3_init w h (nI n) ca (nI us) a = some ((), w') ∧ RU w' ρ' h t n ca (c, us, res, R.2.2.2.1, ss) ∧ ch (Sr t 2) w ρ w' ρ' := by
  have hh := tg_nx h1
  have z8 : (8 : Int32).toNatClampNeg = 8 := by decide +kernel
  have hb : vp_nar .boolean ho = ho := by
    rw [e1]
    split
    · decide +kernel
    · decide +kernel
  unfold e_X3_init
  rw [m_g_t ⟨by decide, by decide, by decide⟩, m_l_s, z8]
  have g1 : ch (Sr t 2) w ρ (m_nA w 21 8) (va_up ρ (m_nx w) (t + 1)) := ch_nA
  have a1 := tg_ch h1 g1
  have a2 := AT_ch h5 g1 (fun q z1 z2 => by unfold Sr; omega)
  have a3 : tg (m_nA w 21 8) (va_up ρ (m_nx w) (t + 1)) (m_nx w) 21 (t + 1) := ⟨by simp only [kd_sI, fi_sI, fr_sI, ln_sI, ia_sI, oa_sI, la_sI, nx_sI, kd_sR, fi_sR, fr_sR, ln_sR, ia_sR, oa_sR, la_sR, nx_sR, kd_sA, fi_sA, fr_sA, ln_sA, ia_sA, oa_sA, la_sA, nx_sA, kd_sO, fi_sO, fr_sO, ln_sO, ia_sO, oa_sO, la_sO, nx_sO, kd_sL, fi_sL, fr_sL, ln_sL, ia_sL, oa_sL, la_sL, nx_sL, kd_sF, fi_sF, fr_sF, ln_sF, ia_sF, oa_sF, la_sF, nx_sF, kd_sG, fi_sG, fr_sG, ln_sG, ia_sG, oa_sG, la_sG, nx_sG, kd_sX, fi_sX, fr_sX, ln_sX, ia_sX, oa_sX, la_sX, nx_sX, kd_nO, fi_nO, fr_nO, ln_nO, ia_nO, oa_nO, la_nO, nx_nO, kd_nA, fi_nA, fr_nA, ln_nA, ia_nA, oa_nA, la_nA, nx_nA, va_up_s], va_up_s, by simp only [kd_sI, fi_sI, fr_sI, ln_sI, ia_sI, oa_sI, la_sI, nx_sI, kd_sR, fi_sR, fr_sR, ln_sR, ia_sR, oa_sR, la_sR, nx_sR, kd_sA, fi_sA, fr_sA, ln_sA, ia_sA, oa_sA, la_sA, nx_sA, kd_sO, fi_sO, fr_sO, ln_sO, ia_sO, oa_sO, la_sO, nx_sO, kd_sL, fi_sL, fr_sL, ln_sL, ia_sL, oa_sL, la_sL, nx_sL, kd_sF, fi_sF, fr_sF, ln_sF, ia_sF, oa_sF, la_sF, nx_sF, kd_sG, fi_sG, fr_sG, ln_sG, ia_sG, oa_sG, la_sG, nx_sG, kd_sX, fi_sX, fr_sX, ln_sX, ia_sX, oa_sX, la_sX, nx_sX, kd_nO, fi_nO, fr_nO, ln_nO, ia_nO, oa_nO, la_nO, nx_nO, kd_nA, fi_nA, fr_nA, ln_nA, ia_nA, oa_nA, la_nA, nx_nA]; omega⟩
  have a4 : m_ln (m_nA w 21 8) (m_nx w) = 8 := by simp only [kd_sI, fi_sI, fr_sI, ln_sI, ia_sI, oa_sI, la_sI, nx_sI, kd_sR, fi_sR, fr_sR, ln_sR, ia_sR, oa_sR, la_sR, nx_sR, kd_sA, fi_sA, fr_sA, ln_sA, ia_sA, oa_sA, la_sA, nx_sA, kd_sO, fi_sO, fr_sO, ln_sO, ia_sO, oa_sO, la_sO, nx_sO, kd_sL, fi_sL, fr_sL, ln_sL, ia_sL, oa_sL, la_sL, nx_sL, kd_sF, fi_sF, fr_sF, ln_sF, ia_sF, oa_sF, la_sF, nx_sF, kd_sG, fi_sG, fr_sG, ln_sG, ia_sG, oa_sG, la_sG, nx_sG, kd_sX, fi_sX, fr_sX, ln_sX, ia_sX, oa_sX, la_sX, nx_sX, kd_nO, fi_nO, fr_nO, ln_nO, ia_nO, oa_nO, la_nO, nx_nO, kd_nA, fi_nA, fr_nA, ln_nA, ia_nA, oa_nA, la_nA, nx_nA, va_up_s]
  generalize m_nA w 21 8 = w1 at *
  generalize va_up ρ (m_nx w) (t + 1) = ρ1 at *
  generalize m_nx w = sa at *
  rw [m_g_t a1.1, m_l_s, m_l_s, m_l_s, m_l_s]
  have G2 : ch (fun q => q = t) w1 ρ1 (m_sI (m_sR (m_sI (m_sR w1 6 6 h (some sa)) 6 0 h (nI n)) 6 1 h (some ca)) 6 2 h (nI us)) ρ1 := ch_trans (ch_trans (ch_sR a1.2.1) (ch_sI a1.2.1)) (ch_trans (ch_sR a1.2.1) (ch_sI a1.2.1))
  have a5 := AT_ch a2 G2 (fun q z1 z2 => by omega)
  have hf1 : m_fi (m_sI (m_sR (m_sI (m_sR w1 6 6 h (some sa)) 6 0 h (nI n)) 6 1 h (some ca)) 6 2 h (nI us)) 3 1 a = ho := by
    obtain ⟨_, _, _, _, q, _⟩ := a5
    exact q
  rw [m_g_t (AT_kd a5).1, hf1, m_g_t hb, m_l_s]
  generalize hw2 : m_sI (m_sR (m_sI (m_sR w1 6 6 h (some sa)) 6 0 h (nI n)) 6 1 h (some ca)) 6 2 h (nI us) = w2 at *
  have a6 := tg_ch a1 G2
  have G3 : ch (fun q => q = t) w2 ρ1 (m_sI w2 6 3 h ho) ρ1 := ch_sI a6.2.1
  have a7 := AT_ch a5 G3 (fun q z1 z2 => by omega)
  have hf2 : m_fi (m_sI w2 6 3 h ho) 3 2 a = out := by
    obtain ⟨_, _, _, _, _, q, _⟩ := a7
    exact q
  rw [hf2, m_l_s]
  have G4 : ch (fun q => q = t) (m_sI w2 6 3 h ho) ρ1 (m_sI (m_sI w2 6 3 h ho) 6 4 h out) ρ1 := ch_sI a6.2.1
  have a8 := AT_ch a7 G4 (fun q z1 z2 => by omega)
  have hf3 : m_fi (m_sI (m_sI w2 6 3 h ho) 6 4 h out) 3 3 a = nI R.2.2.2.1 := by
    obtain ⟨_, _, _, _, _, _, q, _⟩ := a8
    exact q
  rw [hf3, m_l_s]
  have G5 : ch (fun q => q = t) (m_sI (m_sI w2 6 3 h ho) 6 4 h out) ρ1 (m_sI (m_sI (m_sI w2 6 3 h ho) 6 4 h out) 6 5 h (nI R.2.2.2.1)) ρ1 := ch_sI a6.2.1
  have a9 := AT_ch a8 G5 (fun q z1 z2 => by omega)
  have GG := ch_trans G2 (ch_trans G3 (ch_trans G4 G5))
  have k1 : m_fi (m_sI (m_sI (m_sI w2 6 3 h ho) 6 4 h out) 6 5 h (nI R.2.2.2.1)) 6 0 h = nI n := by
    simp only [kd_sI, fi_sI, fr_sI, ln_sI, ia_sI, oa_sI, la_sI, nx_sI, kd_sR, fi_sR, fr_sR, ln_sR, ia_sR, oa_sR, la_sR, nx_sR, kd_sA, fi_sA, fr_sA, ln_sA, ia_sA, oa_sA, la_sA, nx_sA, kd_sO, fi_sO, fr_sO, ln_sO, ia_sO, oa_sO, la_sO, nx_sO, kd_sL, fi_sL, fr_sL, ln_sL, ia_sL, oa_sL, la_sL, nx_sL, kd_sF, fi_sF, fr_sF, ln_sF, ia_sF, oa_sF, la_sF, nx_sF, kd_sG, fi_sG, fr_sG, ln_sG, ia_sG, oa_sG, la_sG, nx_sG, kd_sX, fi_sX, fr_sX, ln_sX, ia_sX, oa_sX, la_sX, nx_sX, kd_nO, fi_nO, fr_nO, ln_nO, ia_nO, oa_nO, la_nO, nx_nO, kd_nA, fi_nA, fr_nA, ln_nA, ia_nA, oa_nA, la_nA, nx_nA]; rw [u3_j (by decide), u3_j (by decide), u3_j (by decide), ← hw2]; simp only [kd_sI, fi_sI, fr_sI, ln_sI, ia_sI, oa_sI, la_sI, nx_sI, kd_sR, fi_sR, fr_sR, ln_sR, ia_sR, oa_sR, la_sR, nx_sR, kd_sA, fi_sA, fr_sA, ln_sA, ia_sA, oa_sA, la_sA, nx_sA, kd_sO, fi_sO, fr_sO, ln_sO, ia_sO, oa_sO, la_sO, nx_sO, kd_sL, fi_sL, fr_sL, ln_sL, ia_sL, oa_sL, la_sL, nx_sL, kd_sF, fi_sF, fr_sF, ln_sF, ia_sF, oa_sF, la_sF, nx_sF, kd_sG, fi_sG, fr_sG, ln_sG, ia_sG, oa_sG, la_sG, nx_sG, kd_sX, fi_sX, fr_sX, ln_sX, ia_sX, oa_sX, la_sX, nx_sX, kd_nO, fi_nO, fr_nO, ln_nO, ia_nO, oa_nO, la_nO, nx_nO, kd_nA, fi_nA, fr_nA, ln_nA, ia_nA, oa_nA, la_nA, nx_nA]; rw [u3_j (by decide), u3_s]
  have k2 : m_fr (m_sI (m_sI (m_sI w2 6 3 h ho) 6 4 h out) 6 5 h (nI R.2.2.2.1)) 6 1 h = some ca := by
    simp only [kd_sI, fi_sI, fr_sI, ln_sI, ia_sI, oa_sI, la_sI, nx_sI, kd_sR, fi_sR, fr_sR, ln_sR, ia_sR, oa_sR, la_sR, nx_sR, kd_sA, fi_sA, fr_sA, ln_sA, ia_sA, oa_sA, la_sA, nx_sA, kd_sO, fi_sO, fr_sO, ln_sO, ia_sO, oa_sO, la_sO, nx_sO, kd_sL, fi_sL, fr_sL, ln_sL, ia_sL, oa_sL, la_sL, nx_sL, kd_sF, fi_sF, fr_sF, ln_sF, ia_sF, oa_sF, la_sF, nx_sF, kd_sG, fi_sG, fr_sG, ln_sG, ia_sG, oa_sG, la_sG, nx_sG, kd_sX, fi_sX, fr_sX, ln_sX, ia_sX, oa_sX, la_sX, nx_sX, kd_nO, fi_nO, fr_nO, ln_nO, ia_nO, oa_nO, la_nO, nx_nO, kd_nA, fi_nA, fr_nA, ln_nA, ia_nA, oa_nA, la_nA, nx_nA]; rw [← hw2]; simp only [kd_sI, fi_sI, fr_sI, ln_sI, ia_sI, oa_sI, la_sI, nx_sI, kd_sR, fi_sR, fr_sR, ln_sR, ia_sR, oa_sR, la_sR, nx_sR, kd_sA, fi_sA, fr_sA, ln_sA, ia_sA, oa_sA, la_sA, nx_sA, kd_sO, fi_sO, fr_sO, ln_sO, ia_sO, oa_sO, la_sO, nx_sO, kd_sL, fi_sL, fr_sL, ln_sL, ia_sL, oa_sL, la_sL, nx_sL, kd_sF, fi_sF, fr_sF, ln_sF, ia_sF, oa_sF, la_sF, nx_sF, kd_sG, fi_sG, fr_sG, ln_sG, ia_sG, oa_sG, la_sG, nx_sG, kd_sX, fi_sX, fr_sX, ln_sX, ia_sX, oa_sX, la_sX, nx_sX, kd_nO, fi_nO, fr_nO, ln_nO, ia_nO, oa_nO, la_nO, nx_nO, kd_nA, fi_nA, fr_nA, ln_nA, ia_nA, oa_nA, la_nA, nx_nA]; rw [u3_s]
  have k3 : m_fi (m_sI (m_sI (m_sI w2 6 3 h ho) 6 4 h out) 6 5 h (nI R.2.2.2.1)) 6 2 h = nI us := by
    simp only [kd_sI, fi_sI, fr_sI, ln_sI, ia_sI, oa_sI, la_sI, nx_sI, kd_sR, fi_sR, fr_sR, ln_sR, ia_sR, oa_sR, la_sR, nx_sR, kd_sA, fi_sA, fr_sA, ln_sA, ia_sA, oa_sA, la_sA, nx_sA, kd_sO, fi_sO, fr_sO, ln_sO, ia_sO, oa_sO, la_sO, nx_sO, kd_sL, fi_sL, fr_sL, ln_sL, ia_sL, oa_sL, la_sL, nx_sL, kd_sF, fi_sF, fr_sF, ln_sF, ia_sF, oa_sF, la_sF, nx_sF, kd_sG, fi_sG, fr_sG, ln_sG, ia_sG, oa_sG, la_sG, nx_sG, kd_sX, fi_sX, fr_sX, ln_sX, ia_sX, oa_sX, la_sX, nx_sX, kd_nO, fi_nO, fr_nO, ln_nO, ia_nO, oa_nO, la_nO, nx_nO, kd_nA, fi_nA, fr_nA, ln_nA, ia_nA, oa_nA, la_nA, nx_nA]; rw [u3_j (by decide), u3_j (by decide), u3_j (by decide), ← hw2]; simp only [kd_sI, fi_sI, fr_sI, ln_sI, ia_sI, oa_sI, la_sI, nx_sI, kd_sR, fi_sR, fr_sR, ln_sR, ia_sR, oa_sR, la_sR, nx_sR, kd_sA, fi_sA, fr_sA, ln_sA, ia_sA, oa_sA, la_sA, nx_sA, kd_sO, fi_sO, fr_sO, ln_sO, ia_sO, oa_sO, la_sO, nx_sO, kd_sL, fi_sL, fr_sL, ln_sL, ia_sL, oa_sL, la_sL, nx_sL, kd_sF, fi_sF, fr_sF, ln_sF, ia_sF, oa_sF, la_sF, nx_sF, kd_sG, fi_sG, fr_sG, ln_sG, ia_sG, oa_sG, la_sG, nx_sG, kd_sX, fi_sX, fr_sX, ln_sX, ia_sX, oa_sX, la_sX, nx_sX, kd_nO, fi_nO, fr_nO, ln_nO, ia_nO, oa_nO, la_nO, nx_nO, kd_nA, fi_nA, fr_nA, ln_nA, ia_nA, oa_nA, la_nA, nx_nA]; rw [u3_s]
  have k4 : m_fi (m_sI (m_sI (m_sI w2 6 3 h ho) 6 4 h out) 6 5 h (nI R.2.2.2.1)) 6 3 h = ho := by
    simp only [kd_sI, fi_sI, fr_sI, ln_sI, ia_sI, oa_sI, la_sI, nx_sI, kd_sR, fi_sR, fr_sR, ln_sR, ia_sR, oa_sR, la_sR, nx_sR, kd_sA, fi_sA, fr_sA, ln_sA, ia_sA, oa_sA, la_sA, nx_sA, kd_sO, fi_sO, fr_sO, ln_sO, ia_sO, oa_sO, la_sO, nx_sO, kd_sL, fi_sL, fr_sL, ln_sL, ia_sL, oa_sL, la_sL, nx_sL, kd_sF, fi_sF, fr_sF, ln_sF, ia_sF, oa_sF, la_sF, nx_sF, kd_sG, fi_sG, fr_sG, ln_sG, ia_sG, oa_sG, la_sG, nx_sG, kd_sX, fi_sX, fr_sX, ln_sX, ia_sX, oa_sX, la_sX, nx_sX, kd_nO, fi_nO, fr_nO, ln_nO, ia_nO, oa_nO, la_nO, nx_nO, kd_nA, fi_nA, fr_nA, ln_nA, ia_nA, oa_nA, la_nA, nx_nA]; rw [u3_j (by decide), u3_j (by decide), u3_s]
  have k5 : m_fi (m_sI (m_sI (m_sI w2 6 3 h ho) 6 4 h out) 6 5 h (nI R.2.2.2.1)) 6 4 h = out := by
    simp only [kd_sI, fi_sI, fr_sI, ln_sI, ia_sI, oa_sI, la_sI, nx_sI, kd_sR, fi_sR, fr_sR, ln_sR, ia_sR, oa_sR, la_sR, nx_sR, kd_sA, fi_sA, fr_sA, ln_sA, ia_sA, oa_sA, la_sA, nx_sA, kd_sO, fi_sO, fr_sO, ln_sO, ia_sO, oa_sO, la_sO, nx_sO, kd_sL, fi_sL, fr_sL, ln_sL, ia_sL, oa_sL, la_sL, nx_sL, kd_sF, fi_sF, fr_sF, ln_sF, ia_sF, oa_sF, la_sF, nx_sF, kd_sG, fi_sG, fr_sG, ln_sG, ia_sG, oa_sG, la_sG, nx_sG, kd_sX, fi_sX, fr_sX, ln_sX, ia_sX, oa_sX, la_sX, nx_sX, kd_nO, fi_nO, fr_nO, ln_nO, ia_nO, oa_nO, la_nO, nx_nO, kd_nA, fi_nA, fr_nA, ln_nA, ia_nA, oa_nA, la_nA, nx_nA]; rw [u3_j (by decide), u3_s]
  have k6 : m_fi (m_sI (m_sI (m_sI w2 6 3 h ho) 6 4 h out) 6 5 h (nI R.2.2.2.1)) 6 5 h = nI R.2.2.2.1 := by
    simp only [kd_sI, fi_sI, fr_sI, ln_sI, ia_sI, oa_sI, la_sI, nx_sI, kd_sR, fi_sR, fr_sR, ln_sR, ia_sR, oa_sR, la_sR, nx_sR, kd_sA, fi_sA, fr_sA, ln_sA, ia_sA, oa_sA, la_sA, nx_sA, kd_sO, fi_sO, fr_sO, ln_sO, ia_sO, oa_sO, la_sO, nx_sO, kd_sL, fi_sL, fr_sL, ln_sL, ia_sL, oa_sL, la_sL, nx_sL, kd_sF, fi_sF, fr_sF, ln_sF, ia_sF, oa_sF, la_sF, nx_sF, kd_sG, fi_sG, fr_sG, ln_sG, ia_sG, oa_sG, la_sG, nx_sG, kd_sX, fi_sX, fr_sX, ln_sX, ia_sX, oa_sX, la_sX, nx_sX, kd_nO, fi_nO, fr_nO, ln_nO, ia_nO, oa_nO, la_nO, nx_nO, kd_nA, fi_nA, fr_nA, ln_nA, ia_nA, oa_nA, la_nA, nx_nA]; rw [u3_s]
  have k7 : m_fr (m_sI (m_sI (m_sI w2 6 3 h ho) 6 4 h out) 6 5 h (nI R.2.2.2.1)) 6 6 h = some sa := by
    simp only [kd_sI, fi_sI, fr_sI, ln_sI, ia_sI, oa_sI, la_sI, nx_sI, kd_sR, fi_sR, fr_sR, ln_sR, ia_sR, oa_sR, la_sR, nx_sR, kd_sA, fi_sA, fr_sA, ln_sA, ia_sA, oa_sA, la_sA, nx_sA, kd_sO, fi_sO, fr_sO, ln_sO, ia_sO, oa_sO, la_sO, nx_sO, kd_sL, fi_sL, fr_sL, ln_sL, ia_sL, oa_sL, la_sL, nx_sL, kd_sF, fi_sF, fr_sF, ln_sF, ia_sF, oa_sF, la_sF, nx_sF, kd_sG, fi_sG, fr_sG, ln_sG, ia_sG, oa_sG, la_sG, nx_sG, kd_sX, fi_sX, fr_sX, ln_sX, ia_sX, oa_sX, la_sX, nx_sX, kd_nO, fi_nO, fr_nO, ln_nO, ia_nO, oa_nO, la_nO, nx_nO, kd_nA, fi_nA, fr_nA, ln_nA, ia_nA, oa_nA, la_nA, nx_nA]; rw [← hw2]; simp only [kd_sI, fi_sI, fr_sI, ln_sI, ia_sI, oa_sI, la_sI, nx_sI, kd_sR, fi_sR, fr_sR, ln_sR, ia_sR, oa_sR, la_sR, nx_sR, kd_sA, fi_sA, fr_sA, ln_sA, ia_sA, oa_sA, la_sA, nx_sA, kd_sO, fi_sO, fr_sO, ln_sO, ia_sO, oa_sO, la_sO, nx_sO, kd_sL, fi_sL, fr_sL, ln_sL, ia_sL, oa_sL, la_sL, nx_sL, kd_sF, fi_sF, fr_sF, ln_sF, ia_sF, oa_sF, la_sF, nx_sF, kd_sG, fi_sG, fr_sG, ln_sG, ia_sG, oa_sG, la_sG, nx_sG, kd_sX, fi_sX, fr_sX, ln_sX, ia_sX, oa_sX, la_sX, nx_sX, kd_nO, fi_nO, fr_nO, ln_nO, ia_nO, oa_nO, la_nO, nx_nO, kd_nA, fi_nA, fr_nA, ln_nA, ia_nA, oa_nA, la_nA, nx_nA]; rw [u3_j (by decide), u3_s]
  generalize m_sI (m_sI (m_sI w2 6 3 h ho) 6 4 h out) 6 5 h (nI R.2.2.2.1) = w5 at *
  have b1 := tg_ch a1 GG
  have b3 := tg_ch a3 GG
  obtain ⟨w6, q1, q2, q3⟩ := RU_init_loop ht 8 m_N 0 w5 (by decide) rfl b1 k7 b3 ((tg_ln a3 GG).trans a4) a9 (fun j hj => absurd hj (by omega))
  obtain ⟨s1, s2, -, -, -⟩ := tg_sm b1 q2 (by omega)
  refine ⟨w6, ρ1, q1, ⟨sa, tg_ch b1 q2, (s1 _ _).trans k1, (s2 _ _).trans k2, (s1 _ _).trans k3, (s1 _ _).trans (k4.trans e1), fun z hz => ((s1 _ _).trans k5).trans (e2 z hz), (s1 _ _).trans k6, (s2 _ _).trans k7, tg_ch b3 q2, (tg_ln b3 q2).trans ((tg_ln a3 GG).trans a4), fun i hi hb => (q3 i hi).trans (e3 i hi hb)⟩, ch_trans g1 (ch_trans (ch_mono GG (fun q hq => by unfold Sr; omega)) (ch_mono q2 (fun q hq => by unfold Sr; omega)))⟩
