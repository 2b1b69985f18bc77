/-! Names, Session, Cell, Statement: what they hold, and what their methods answer -/
theorem lge8 {i : Nat} (h : i < 8) : ¬ (8 : Int32) ≤ nI i := nI_ge (b := 8) h (by decide)
theorem lge16 {i : Nat} (h : i < 16) : ¬ (16 : Int32) ≤ nI i := nI_ge (b := 16) h (by decide)
def Sr (t n : Nat) : Nat → Prop := fun q => t ≤ q ∧ q < t + n
theorem nb_isName {w : mW} {i : Nat} (h : i < 8) : e_X6_isName w (nI i) = some (1, w) := by
  unfold e_X6_isName e_X6_isName_15
  rw [if_neg (nI_pos (by omega)), if_neg (lge8 (by omega)), m_g_t (by decide +kernel)]
theorem nb_isNameN {w : mW} {p : Int32} (h : p < 0 ∨ nI 8 ≤ p) : e_X6_isName w p = some (0, w) := by
  unfold e_X6_isName e_X6_isName_14 e_X6_isName_15
  by_cases c : p < 0
  · rw [if_pos c, m_g_t (by decide +kernel)]
  · rw [if_neg c, if_pos (show (8 : Int32) ≤ p from h.resolve_left c), m_g_t (by decide +kernel)]
theorem nb_isNameB {w : mW} {i : Nat} (h : 8 ≤ i) (hi : i < 2 ^ 31) : e_X6_isName w (nI i) = some (0, w) := nb_isNameN (Or.inr (nI_le h hi))
theorem nb_10 : ¬ (1 : Int32) = 0 := by decide
def NM (w : mW) (ρ : Nat → Nat) (a t : Nat) (v s : Nat → Int32) : Prop :=
  ∃ va sa, tg w ρ a 6 t ∧ m_fr w 5 0 a = some va ∧ m_fr w 5 1 a = some sa ∧ tg w ρ va 21 (t + 1) ∧ tg w ρ sa 21 (t + 2) ∧ m_ln w va = 8 ∧ m_ln w sa = 8 ∧ ∀ i, i < 8 → m_ia w va i = v i ∧ m_ia w sa i = s i
theorem NM_kd {w : mW} {ρ : Nat → Nat} {a t : Nat} {v s : Nat → Int32} (h : NM w ρ a t v s) : tg w ρ a 6 t := by
  obtain ⟨va, sa, b1, -⟩ := h
  exact b1
theorem NM_ch {S : Nat → Prop} {w w' : mW} {ρ ρ' : Nat → Nat} {a t : Nat} {v s : Nat → Int32} (h : NM w ρ a t v s) (g : ch S w ρ w' ρ') (h0 : ¬ S t) (h1 : ¬ S (t + 1)) (h2 : ¬ S (t + 2)) : NM w' ρ' a t v s := by
  obtain ⟨va, sa, b1, b2, b3, b4, b5, b6, b7, b8⟩ := h
  obtain ⟨-, s2, -, -, -⟩ := tg_sm b1 g h0
  obtain ⟨-, -, s3, -, -⟩ := tg_sm b4 g h1
  obtain ⟨-, -, s4, -, -⟩ := tg_sm b5 g h2
  exact ⟨va, sa, tg_ch b1 g, (s2 _ _).trans b2, (s2 _ _).trans b3, tg_ch b4 g, tg_ch b5 g, (tg_ln b4 g).trans b6, (tg_ln b5 g).trans b7, fun i hi => by rw [s3, s4]; exact b8 i hi⟩
theorem NM_cong {w : mW} {ρ : Nat → Nat} {a t : Nat} {v s v' s' : Nat → Int32} (h : NM w ρ a t v s) (e : ∀ i, i < 8 → v i = v' i ∧ s i = s' i) : NM w ρ a t v' s' := by
  obtain ⟨va, sa, b1, b2, b3, b4, b5, b6, b7, b8⟩ := h
  exact ⟨va, sa, b1, b2, b3, b4, b5, b6, b7, fun i hi => ⟨(b8 i hi).1.trans (e i hi).1, (b8 i hi).2.trans (e i hi).2⟩⟩
theorem NM_valueOf {w : mW} {ρ : Nat → Nat} {a t : Nat} {v s : Nat → Int32} (h : NM w ρ a t v s) {i : Nat} (hi : i < 8) : e_X2_valueOf w a (nI i) = some (v i, w) := by
  obtain ⟨va, sa, b1, b2, b3, b4, b5, b6, b7, b8⟩ := h
  unfold e_X2_valueOf e_X2_valueOf_17
  rw [nb_isName hi, m_b_s, if_neg nb_10, m_g_t b1.1, b2, m_o_s, m_g_t ⟨b4.1, nI_in (by omega) (by omega)⟩, nI_clamp (by omega), (b8 i hi).1]
theorem NM_stampOf {w : mW} {ρ : Nat → Nat} {a t : Nat} {v s : Nat → Int32} (h : NM w ρ a t v s) {i : Nat} (hi : i < 8) : e_X2_stampOf w a (nI i) = some (s i, w) := by
  obtain ⟨va, sa, b1, b2, b3, b4, b5, b6, b7, b8⟩ := h
  unfold e_X2_stampOf e_X2_stampOf_17
  rw [nb_isName hi, m_b_s, if_neg nb_10, m_g_t b1.1, b3, m_o_s, m_g_t ⟨b5.1, nI_in (by omega) (by omega)⟩, nI_clamp (by omega), (b8 i hi).2]
theorem NM_hold {w : mW} {ρ : Nat → Nat} {a t : Nat} {v s : Nat → Int32} (h : NM w ρ a t v s) {i : Nat} (hi : i < 8) : e_X2_hold w a (nI i) = some (if s i = 0 then 0 else 1, w) := by
  obtain ⟨va, sa, b1, b2, b3, b4, b5, b6, b7, b8⟩ := h
  unfold e_X2_hold e_X2_hold_20 e_X2_hold_21
  rw [nb_isName hi, m_b_s, if_neg nb_10, m_g_t b1.1, b3, m_o_s, m_g_t ⟨b5.1, nI_in (by omega) (by omega)⟩, nI_clamp (by omega), (b8 i hi).2]
  by_cases c : s i = 0
  · rw [if_pos c, if_pos c, m_g_t (by decide +kernel)]
  · rw [if_neg c, if_neg c, m_g_t (by decide +kernel)]
theorem NM_assign {w : mW} {ρ : Nat → Nat} {a t : Nat} {v s : Nat → Int32} (h : NM w ρ a t v s) {i : Nat} (hi : i < 8) (x y : Int32) : ∃ w', e_X2_assign w a (nI i) x y = some ((), w') ∧ NM w' ρ a t (upd v i x) (upd s i y) ∧ ch (Sr (t + 1) 2) w ρ w' ρ := by
  obtain ⟨va, sa, b1, b2, b3, b4, b5, b6, b7, b8⟩ := h
  have hvs : sa ≠ va := tg_ne b5 b4 (by omega)
  unfold e_X2_assign e_X2_assign_21
  rw [nb_isName hi, m_b_s, if_neg nb_10, m_g_t b1.1, b2, m_o_s, m_g_t ⟨b4.1, nI_in (by omega) (by omega)⟩, m_l_s, nI_clamp (by omega)]
  rw [fr_sA, b3, m_o_s, m_g_t (by exact ⟨b5.1, fun q => by
    rcases q with q | q
    · exact nI_pos (by omega) q
    · exact absurd q (Nat.not_le.mpr (show i < m_ln w sa by omega))⟩), m_l_s]
  refine ⟨_, rfl, ⟨va, sa, b1, b2, b3, b4, b5, b6, b7, fun j hj => ?_⟩, ch_trans (ch_sA (by rw [b4.2.1]; exact ⟨by omega, by omega⟩)) (ch_sA (by rw [b5.2.1]; exact ⟨by omega, by omega⟩))⟩
  simp only [kd_sI, fi_sI, fr_sI, ln_sI, ia_sI, oa_sI, la_sI, nx_sI, kd_sR, fi_sR, fr_sR, ln_sR, ia_sR, oa_sR, la_sR, nx_sR, kd_sA, fi_sA, fr_sA, ln_sA, ia_sA, oa_sA, la_sA, nx_sA, kd_sO, fi_sO, fr_sO, ln_sO, ia_sO, oa_sO, la_sO, nx_sO, kd_sL, fi_sL, fr_sL, ln_sL, ia_sL, oa_sL, la_sL, nx_sL, kd_sF, fi_sF, fr_sF, ln_sF, ia_sF, oa_sF, la_sF, nx_sF, kd_sG, fi_sG, fr_sG, ln_sG, ia_sG, oa_sG, la_sG, nx_sG, kd_sX, fi_sX, fr_sX, ln_sX, ia_sX, oa_sX, la_sX, nx_sX, kd_nO, fi_nO, fr_nO, ln_nO, ia_nO, oa_nO, la_nO, nx_nO, kd_nA, fi_nA, fr_nA, ln_nA, ia_nA, oa_nA, la_nA, nx_nA, va_up_s, va_up_n hvs, va_up_n hvs.symm]
  by_cases e : j = i
  · subst e
    simp only [pk_us, and_self]
  · rw [pk_un e, pk_un e, pk_un e, pk_un e]
    exact b8 j hj
theorem NM_becomeLike_loop {ρ : Nat → Nat} {a t b t' : Nat} {v' s' : Nat → Int32} (ht : t' + 2 < t + 1 ∨ t + 2 < t') : ∀ (k f i : Nat) (w : mW) (v s : Nat → Int32), k < f → i + k = 8 → NM w ρ a t v s → NM w ρ b t' v' s' → (∀ j, j < i → v j = v' j ∧ s j = s' j) → ∃ w', e_X2_becomeLike_2 f w a b (nI i) = some ((), w') ∧ NM w' ρ a t v' s' ∧ ch (Sr (t + 1) 2) w ρ w' ρ := by
  intro k
  induction k with
  | zero =>
    intro f i w v s hf hi h g e
    obtain ⟨f, rfl⟩ : ∃ q, f = q + 1 := ⟨f - 1, by omega⟩
    have hi8 : i = 8 := by omega
    subst hi8
    refine ⟨w, ?_, NM_cong h e, ch_rfl⟩
    show e_X2_becomeLike_2_b _ _ _ _ _ = _
    unfold e_X2_becomeLike_2_b
    rw [if_pos (by decide +kernel)]
  | succ k ih =>
    intro f i w v s hf hi h g e
    obtain ⟨f, rfl⟩ : ∃ q, f = q + 1 := ⟨f - 1, by omega⟩
    obtain ⟨w1, q1, q2, q3⟩ := NM_assign h (i := i) (by omega) (v' i) (s' i)
    obtain ⟨w', r1, r2, r3⟩ := ih f (i + 1) w1 _ _ (by omega) (by omega) q2 (NM_ch g q3 (by unfold Sr; omega) (by unfold Sr; omega) (by unfold Sr; omega)) (fun j hj => by
      by_cases c : j = i
      · subst c; simp only [pk_us, and_self]
      · rw [pk_un c, pk_un c]; exact e j (by omega))
    refine ⟨w', ?_, r2, ch_trans q3 r3⟩
    show e_X2_becomeLike_2_b _ _ _ _ _ = _
    unfold e_X2_becomeLike_2_b
    rw [if_neg (lge8 (by omega)), m_g_t (NM_kd g).1, NM_valueOf g (by omega), m_b_s, m_g_t (NM_kd g).1, NM_stampOf g (by omega), m_b_s, m_g_t (NM_kd h).1, q1, m_b_s, nI_1]
    exact r1
theorem NM_becomeLike {w : mW} {ρ : Nat → Nat} {a t b t' : Nat} {v s v' s' : Nat → Int32} (ht : t' + 2 < t + 1 ∨ t + 2 < t') (h : NM w ρ a t v s) (g : NM w ρ b t' v' s') : ∃ w', e_X2_becomeLike w a b = some ((), w') ∧ NM w' ρ a t v' s' ∧ ch (Sr (t + 1) 2) w ρ w' ρ :=
  NM_becomeLike_loop ht 8 m_N 0 w v s (by decide) rfl h g (fun j hj => absurd hj (by omega))
theorem NM_unsetAll_loop {ρ : Nat → Nat} {a t : Nat} : ∀ (k f i : Nat) (w : mW) (v s : Nat → Int32), k < f → i + k = 8 → NM w ρ a t v s → (∀ j, j < i → v j = 0 ∧ s j = 0) → ∃ w', e_X2_unsetAll_2 f w a (nI i) = some ((), w') ∧ NM w' ρ a t (fun _ => 0) (fun _ => 0) ∧ ch (Sr (t + 1) 2) w ρ w' ρ := by
  intro k
  induction k with
  | zero =>
    intro f i w v s hf hi h e
    obtain ⟨f, rfl⟩ : ∃ q, f = q + 1 := ⟨f - 1, by omega⟩
    have hi8 : i = 8 := by omega
    subst hi8
    refine ⟨w, ?_, NM_cong h e, ch_rfl⟩
    show e_X2_unsetAll_2_b _ _ _ _ = _
    unfold e_X2_unsetAll_2_b
    rw [if_pos (by decide +kernel)]
  | succ k ih =>
    intro f i w v s hf hi h e
    obtain ⟨f, rfl⟩ : ∃ q, f = q + 1 := ⟨f - 1, by omega⟩
    obtain ⟨w1, q1, q2, q3⟩ := NM_assign h (i := i) (by omega) 0 0
    obtain ⟨w', r1, r2, r3⟩ := ih f (i + 1) w1 _ _ (by omega) (by omega) q2 (fun j hj => by
      by_cases c : j = i
      · subst c; simp only [pk_us, and_self]
      · rw [pk_un c, pk_un c]; exact e j (by omega))
    refine ⟨w', ?_, r2, ch_trans q3 r3⟩
    show e_X2_unsetAll_2_b _ _ _ _ = _
    unfold e_X2_unsetAll_2_b
    rw [if_neg (lge8 (by omega)), m_g_t (NM_kd h).1, q1, m_b_s, nI_1]
    exact r1
theorem NM_unsetAll {w : mW} {ρ : Nat → Nat} {a t : Nat} {v s : Nat → Int32} (h : NM w ρ a t v s) : ∃ w', e_X2_unsetAll w a = some ((), w') ∧ NM w' ρ a t (fun _ => 0) (fun _ => 0) ∧ ch (Sr (t + 1) 2) w ρ w' ρ :=
  NM_unsetAll_loop 8 m_N 0 w v s (by decide) rfl h (fun j hj => absurd hj (by omega))
def nb_cnt (p : Nat → Bool) : Nat → Nat
  | 0 => 0
  | n + 1 => nb_cnt p n + (if p n = true then 1 else 0)
theorem nb_cnt_le (p : Nat → Bool) : ∀ n, nb_cnt p n ≤ n
  | 0 => Nat.le_refl _
  | n + 1 => by
    have := nb_cnt_le p n
    unfold nb_cnt
    split <;> omega
theorem nb_cnt_cong {p q : Nat → Bool} : ∀ {n : Nat}, (∀ k, k < n → p k = q k) → nb_cnt p n = nb_cnt q n
  | 0, _ => rfl
  | n + 1, h => by
    unfold nb_cnt
    rw [nb_cnt_cong (fun k hk => h k (by omega)), h n (Nat.lt_succ_self n)]
theorem NM_howMany_loop {w : mW} {ρ : Nat → Nat} {a t : Nat} {v s : Nat → Int32} (h : NM w ρ a t v s) : ∀ (k f i : Nat), k < f → i + k = 8 → e_X2_howManySet_4 f w a (nI (nb_cnt (fun j => decide (¬ s j = 0)) i)) (nI i) = some (nI (nb_cnt (fun j => decide (¬ s j = 0)) 8), w) := by
  intro k
  induction k with
  | zero =>
    intro f i hf hi
    obtain ⟨f, rfl⟩ : ∃ q, f = q + 1 := ⟨f - 1, by omega⟩
    have hi8 : i = 8 := by omega
    subst hi8
    show e_X2_howManySet_4_b _ _ _ _ _ = _
    unfold e_X2_howManySet_4_b
    rw [if_pos (by decide +kernel)]
  | succ k ih =>
    intro f i hf hi
    obtain ⟨f, rfl⟩ : ∃ q, f = q + 1 := ⟨f - 1, by omega⟩
    have := ih f (i + 1) (by omega) (by omega)
    show e_X2_howManySet_4_b _ _ _ _ _ = _
    unfold e_X2_howManySet_4_b
    rw [if_neg (lge8 (by omega)), m_g_t (NM_kd h).1, NM_hold h (by omega), m_b_s]
    unfold e_X2_howManySet_21
    have eq : nb_cnt (fun j => decide (¬ s j = 0)) (i + 1) = nb_cnt (fun j => decide (¬ s j = 0)) i + (if decide (¬ s i = 0) = true then 1 else 0) := rfl
    rw [eq] at this
    rw [nI_1]
    by_cases c : s i = 0
    · rw [if_neg (by simp [c])] at this
      rw [if_pos c, if_pos rfl]
      exact this
    · rw [if_pos (by simp [c])] at this
      rw [if_neg c, if_neg nb_10, nI_1]
      exact this
theorem NM_howMany {w : mW} {ρ : Nat → Nat} {a t : Nat} {v s : Nat → Int32} (h : NM w ρ a t v s) : e_X2_howManySet w a = some (nI (nb_cnt (fun j => decide (¬ s j = 0)) 8), w) := NM_howMany_loop h 8 m_N 0 (by decide) rfl
theorem NM_init {w : mW} {ρ : Nat → Nat} {a t : Nat} (h : tg w ρ a 6 t) : ∃ w' ρ', e_X2_init w a = some ((), w') ∧ NM w' ρ' a t (fun _ => 0) (fun _ => 0) ∧ ch (fun q => q = t) w ρ w' ρ' := by
  have ha := tg_nx h
  have z8 : (8 : Int32).toNatClampNeg = 8 := by decide +kernel
  have ha1 : a ≠ m_nx w + 1 := fun e => by have := h.2.2; omega
  have hne : m_nx w ≠ m_nx w + 1 := by omega
  unfold e_X2_init
  rw [m_g_t ⟨by decide, by decide, by decide⟩, m_l_s, z8]
  rw [m_g_t (by show va_up (m_kd w) (m_nx w) 21 a = 6; rw [va_up_n ha]; exact h.1), m_l_s, m_g_t ⟨by decide, by decide, by decide⟩, m_l_s, m_l_s]
  refine ⟨_, va_up (va_up ρ (m_nx w) (t + 1)) (m_nx w + 1) (t + 2), rfl, ⟨m_nx w, m_nx w + 1, ⟨?_, ?_, ?_⟩, ?_, ?_, ⟨?_, ?_, ?_⟩, ⟨?_, ?_, ?_⟩, ?_, ?_, fun i hi => ⟨?_, ?_⟩⟩, ?_⟩
  · simp only [kd_sI, fi_sI, fr_sI, ln_sI, ia_sI, oa_sI, la_sI, nx_sI, kd_sR, fi_sR, fr_sR, ln_sR, ia_sR, oa_sR, la_sR, nx_sR, kd_sA, fi_sA, fr_sA, ln_sA, ia_sA, oa_sA, la_sA, nx_sA, kd_sO, fi_sO, fr_sO, ln_sO, ia_sO, oa_sO, la_sO, nx_sO, kd_sL, fi_sL, fr_sL, ln_sL, ia_sL, oa_sL, la_sL, nx_sL, kd_sF, fi_sF, fr_sF, ln_sF, ia_sF, oa_sF, la_sF, nx_sF, kd_sG, fi_sG, fr_sG, ln_sG, ia_sG, oa_sG, la_sG, nx_sG, kd_sX, fi_sX, fr_sX, ln_sX, ia_sX, oa_sX, la_sX, nx_sX, kd_nO, fi_nO, fr_nO, ln_nO, ia_nO, oa_nO, la_nO, nx_nO, kd_nA, fi_nA, fr_nA, ln_nA, ia_nA, oa_nA, la_nA, nx_nA, va_up_n ha1, va_up_n ha]; exact h.1
  · rw [va_up_n ha1, va_up_n ha]; exact h.2.1
  · simp only [kd_sI, fi_sI, fr_sI, ln_sI, ia_sI, oa_sI, la_sI, nx_sI, kd_sR, fi_sR, fr_sR, ln_sR, ia_sR, oa_sR, la_sR, nx_sR, kd_sA, fi_sA, fr_sA, ln_sA, ia_sA, oa_sA, la_sA, nx_sA, kd_sO, fi_sO, fr_sO, ln_sO, ia_sO, oa_sO, la_sO, nx_sO, kd_sL, fi_sL, fr_sL, ln_sL, ia_sL, oa_sL, la_sL, nx_sL, kd_sF, fi_sF, fr_sF, ln_sF, ia_sF, oa_sF, la_sF, nx_sF, kd_sG, fi_sG, fr_sG, ln_sG, ia_sG, oa_sG, la_sG, nx_sG, kd_sX, fi_sX, fr_sX, ln_sX, ia_sX, oa_sX, la_sX, nx_sX, kd_nO, fi_nO, fr_nO, ln_nO, ia_nO, oa_nO, la_nO, nx_nO, kd_nA, fi_nA, fr_nA, ln_nA, ia_nA, oa_nA, la_nA, nx_nA]; have := h.2.2; omega
  · simp only [kd_sI, fi_sI, fr_sI, ln_sI, ia_sI, oa_sI, la_sI, nx_sI, kd_sR, fi_sR, fr_sR, ln_sR, ia_sR, oa_sR, la_sR, nx_sR, kd_sA, fi_sA, fr_sA, ln_sA, ia_sA, oa_sA, la_sA, nx_sA, kd_sO, fi_sO, fr_sO, ln_sO, ia_sO, oa_sO, la_sO, nx_sO, kd_sL, fi_sL, fr_sL, ln_sL, ia_sL, oa_sL, la_sL, nx_sL, kd_sF, fi_sF, fr_sF, ln_sF, ia_sF, oa_sF, la_sF, nx_sF, kd_sG, fi_sG, fr_sG, ln_sG, ia_sG, oa_sG, la_sG, nx_sG, kd_sX, fi_sX, fr_sX, ln_sX, ia_sX, oa_sX, la_sX, nx_sX, kd_nO, fi_nO, fr_nO, ln_nO, ia_nO, oa_nO, la_nO, nx_nO, kd_nA, fi_nA, fr_nA, ln_nA, ia_nA, oa_nA, la_nA, nx_nA]; rw [u3_j (by decide), u3_s]
  · simp only [kd_sI, fi_sI, fr_sI, ln_sI, ia_sI, oa_sI, la_sI, nx_sI, kd_sR, fi_sR, fr_sR, ln_sR, ia_sR, oa_sR, la_sR, nx_sR, kd_sA, fi_sA, fr_sA, ln_sA, ia_sA, oa_sA, la_sA, nx_sA, kd_sO, fi_sO, fr_sO, ln_sO, ia_sO, oa_sO, la_sO, nx_sO, kd_sL, fi_sL, fr_sL, ln_sL, ia_sL, oa_sL, la_sL, nx_sL, kd_sF, fi_sF, fr_sF, ln_sF, ia_sF, oa_sF, la_sF, nx_sF, kd_sG, fi_sG, fr_sG, ln_sG, ia_sG, oa_sG, la_sG, nx_sG, kd_sX, fi_sX, fr_sX, ln_sX, ia_sX, oa_sX, la_sX, nx_sX, kd_nO, fi_nO, fr_nO, ln_nO, ia_nO, oa_nO, la_nO, nx_nO, kd_nA, fi_nA, fr_nA, ln_nA, ia_nA, oa_nA, la_nA, nx_nA]; rw [u3_s]
  · simp only [kd_sI, fi_sI, fr_sI, ln_sI, ia_sI, oa_sI, la_sI, nx_sI, kd_sR, fi_sR, fr_sR, ln_sR, ia_sR, oa_sR, la_sR, nx_sR, kd_sA, fi_sA, fr_sA, ln_sA, ia_sA, oa_sA, la_sA, nx_sA, kd_sO, fi_sO, fr_sO, ln_sO, ia_sO, oa_sO, la_sO, nx_sO, kd_sL, fi_sL, fr_sL, ln_sL, ia_sL, oa_sL, la_sL, nx_sL, kd_sF, fi_sF, fr_sF, ln_sF, ia_sF, oa_sF, la_sF, nx_sF, kd_sG, fi_sG, fr_sG, ln_sG, ia_sG, oa_sG, la_sG, nx_sG, kd_sX, fi_sX, fr_sX, ln_sX, ia_sX, oa_sX, la_sX, nx_sX, kd_nO, fi_nO, fr_nO, ln_nO, ia_nO, oa_nO, la_nO, nx_nO, kd_nA, fi_nA, fr_nA, ln_nA, ia_nA, oa_nA, la_nA, nx_nA, va_up_n hne, va_up_s]
  · rw [va_up_n hne, va_up_s]
  · simp only [kd_sI, fi_sI, fr_sI, ln_sI, ia_sI, oa_sI, la_sI, nx_sI, kd_sR, fi_sR, fr_sR, ln_sR, ia_sR, oa_sR, la_sR, nx_sR, kd_sA, fi_sA, fr_sA, ln_sA, ia_sA, oa_sA, la_sA, nx_sA, kd_sO, fi_sO, fr_sO, ln_sO, ia_sO, oa_sO, la_sO, nx_sO, kd_sL, fi_sL, fr_sL, ln_sL, ia_sL, oa_sL, la_sL, nx_sL, kd_sF, fi_sF, fr_sF, ln_sF, ia_sF, oa_sF, la_sF, nx_sF, kd_sG, fi_sG, fr_sG, ln_sG, ia_sG, oa_sG, la_sG, nx_sG, kd_sX, fi_sX, fr_sX, ln_sX, ia_sX, oa_sX, la_sX, nx_sX, kd_nO, fi_nO, fr_nO, ln_nO, ia_nO, oa_nO, la_nO, nx_nO, kd_nA, fi_nA, fr_nA, ln_nA, ia_nA, oa_nA, la_nA, nx_nA]; omega
  · simp only [kd_sI, fi_sI, fr_sI, ln_sI, ia_sI, oa_sI, la_sI, nx_sI, kd_sR, fi_sR, fr_sR, ln_sR, ia_sR, oa_sR, la_sR, nx_sR, kd_sA, fi_sA, fr_sA, ln_sA, ia_sA, oa_sA, la_sA, nx_sA, kd_sO, fi_sO, fr_sO, ln_sO, ia_sO, oa_sO, la_sO, nx_sO, kd_sL, fi_sL, fr_sL, ln_sL, ia_sL, oa_sL, la_sL, nx_sL, kd_sF, fi_sF, fr_sF, ln_sF, ia_sF, oa_sF, la_sF, nx_sF, kd_sG, fi_sG, fr_sG, ln_sG, ia_sG, oa_sG, la_sG, nx_sG, kd_sX, fi_sX, fr_sX, ln_sX, ia_sX, oa_sX, la_sX, nx_sX, kd_nO, fi_nO, fr_nO, ln_nO, ia_nO, oa_nO, la_nO, nx_nO, kd_nA, fi_nA, fr_nA, ln_nA, ia_nA, oa_nA, la_nA, nx_nA, va_up_s]
  · rw [va_up_s]
  · simp only [kd_sI, fi_sI, fr_sI, ln_sI, ia_sI, oa_sI, la_sI, nx_sI, kd_sR, fi_sR, fr_sR, ln_sR, ia_sR, oa_sR, la_sR, nx_sR, kd_sA, fi_sA, fr_sA, ln_sA, ia_sA, oa_sA, la_sA, nx_sA, kd_sO, fi_sO, fr_sO, ln_sO, ia_sO, oa_sO, la_sO, nx_sO, kd_sL, fi_sL, fr_sL, ln_sL, ia_sL, oa_sL, la_sL, nx_sL, kd_sF, fi_sF, fr_sF, ln_sF, ia_sF, oa_sF, la_sF, nx_sF, kd_sG, fi_sG, fr_sG, ln_sG, ia_sG, oa_sG, la_sG, nx_sG, kd_sX, fi_sX, fr_sX, ln_sX, ia_sX, oa_sX, la_sX, nx_sX, kd_nO, fi_nO, fr_nO, ln_nO, ia_nO, oa_nO, la_nO, nx_nO, kd_nA, fi_nA, fr_nA, ln_nA, ia_nA, oa_nA, la_nA, nx_nA]; omega
  · simp only [kd_sI, fi_sI, fr_sI, ln_sI, ia_sI, oa_sI, la_sI, nx_sI, kd_sR, fi_sR, fr_sR, ln_sR, ia_sR, oa_sR, la_sR, nx_sR, kd_sA, fi_sA, fr_sA, ln_sA, ia_sA, oa_sA, la_sA, nx_sA, kd_sO, fi_sO, fr_sO, ln_sO, ia_sO, oa_sO, la_sO, nx_sO, kd_sL, fi_sL, fr_sL, ln_sL, ia_sL, oa_sL, la_sL, nx_sL, kd_sF, fi_sF, fr_sF, ln_sF, ia_sF, oa_sF, la_sF, nx_sF, kd_sG, fi_sG, fr_sG, ln_sG, ia_sG, oa_sG, la_sG, nx_sG, kd_sX, fi_sX, fr_sX, ln_sX, ia_sX, oa_sX, la_sX, nx_sX, kd_nO, fi_nO, fr_nO, ln_nO, ia_nO, oa_nO, la_nO, nx_nO, kd_nA, fi_nA, fr_nA, ln_nA, ia_nA, oa_nA, la_nA, nx_nA, va_up_n hne, va_up_s]
  · simp only [kd_sI, fi_sI, fr_sI, ln_sI, ia_sI, oa_sI, la_sI, nx_sI, kd_sR, fi_sR, fr_sR, ln_sR, ia_sR, oa_sR, la_sR, nx_sR, kd_sA, fi_sA, fr_sA, ln_sA, ia_sA, oa_sA, la_sA, nx_sA, kd_sO, fi_sO, fr_sO, ln_sO, ia_sO, oa_sO, la_sO, nx_sO, kd_sL, fi_sL, fr_sL, ln_sL, ia_sL, oa_sL, la_sL, nx_sL, kd_sF, fi_sF, fr_sF, ln_sF, ia_sF, oa_sF, la_sF, nx_sF, kd_sG, fi_sG, fr_sG, ln_sG, ia_sG, oa_sG, la_sG, nx_sG, kd_sX, fi_sX, fr_sX, ln_sX, ia_sX, oa_sX, la_sX, nx_sX, kd_nO, fi_nO, fr_nO, ln_nO, ia_nO, oa_nO, la_nO, nx_nO, kd_nA, fi_nA, fr_nA, ln_nA, ia_nA, oa_nA, la_nA, nx_nA, va_up_s]
  · simp only [kd_sI, fi_sI, fr_sI, ln_sI, ia_sI, oa_sI, la_sI, nx_sI, kd_sR, fi_sR, fr_sR, ln_sR, ia_sR, oa_sR, la_sR, nx_sR, kd_sA, fi_sA, fr_sA, ln_sA, ia_sA, oa_sA, la_sA, nx_sA, kd_sO, fi_sO, fr_sO, ln_sO, ia_sO, oa_sO, la_sO, nx_sO, kd_sL, fi_sL, fr_sL, ln_sL, ia_sL, oa_sL, la_sL, nx_sL, kd_sF, fi_sF, fr_sF, ln_sF, ia_sF, oa_sF, la_sF, nx_sF, kd_sG, fi_sG, fr_sG, ln_sG, ia_sG, oa_sG, la_sG, nx_sG, kd_sX, fi_sX, fr_sX, ln_sX, ia_sX, oa_sX, la_sX, nx_sX, kd_nO, fi_nO, fr_nO, ln_nO, ia_nO, oa_nO, la_nO, nx_nO, kd_nA, fi_nA, fr_nA, ln_nA, ia_nA, oa_nA, la_nA, nx_nA, va_up_n hne, va_up_s]
  · simp only [kd_sI, fi_sI, fr_sI, ln_sI, ia_sI, oa_sI, la_sI, nx_sI, kd_sR, fi_sR, fr_sR, ln_sR, ia_sR, oa_sR, la_sR, nx_sR, kd_sA, fi_sA, fr_sA, ln_sA, ia_sA, oa_sA, la_sA, nx_sA, kd_sO, fi_sO, fr_sO, ln_sO, ia_sO, oa_sO, la_sO, nx_sO, kd_sL, fi_sL, fr_sL, ln_sL, ia_sL, oa_sL, la_sL, nx_sL, kd_sF, fi_sF, fr_sF, ln_sF, ia_sF, oa_sF, la_sF, nx_sF, kd_sG, fi_sG, fr_sG, ln_sG, ia_sG, oa_sG, la_sG, nx_sG, kd_sX, fi_sX, fr_sX, ln_sX, ia_sX, oa_sX, la_sX, nx_sX, kd_nO, fi_nO, fr_nO, ln_nO, ia_nO, oa_nO, la_nO, nx_nO, kd_nA, fi_nA, fr_nA, ln_nA, ia_nA, oa_nA, la_nA, nx_nA, va_up_s]
  · refine ch_trans (ch_trans (ch_trans (ch_nA (t := t + 1)) (ch_sR ?_)) (ch_nA (t := t + 2))) (ch_sR ?_)
    · rw [va_up_n ha]; exact h.2.1
    · simp only [kd_sI, fi_sI, fr_sI, ln_sI, ia_sI, oa_sI, la_sI, nx_sI, kd_sR, fi_sR, fr_sR, ln_sR, ia_sR, oa_sR, la_sR, nx_sR, kd_sA, fi_sA, fr_sA, ln_sA, ia_sA, oa_sA, la_sA, nx_sA, kd_sO, fi_sO, fr_sO, ln_sO, ia_sO, oa_sO, la_sO, nx_sO, kd_sL, fi_sL, fr_sL, ln_sL, ia_sL, oa_sL, la_sL, nx_sL, kd_sF, fi_sF, fr_sF, ln_sF, ia_sF, oa_sF, la_sF, nx_sF, kd_sG, fi_sG, fr_sG, ln_sG, ia_sG, oa_sG, la_sG, nx_sG, kd_sX, fi_sX, fr_sX, ln_sX, ia_sX, oa_sX, la_sX, nx_sX, kd_nO, fi_nO, fr_nO, ln_nO, ia_nO, oa_nO, la_nO, nx_nO, kd_nA, fi_nA, fr_nA, ln_nA, ia_nA, oa_nA, la_nA, nx_nA, va_up_n ha1, va_up_n ha]; exact h.2.1
