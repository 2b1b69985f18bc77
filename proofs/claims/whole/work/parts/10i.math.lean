/-! text: what a program is written out as -/
def tx_dg (a : Nat) : List Nat := if a < 10 then [48 + a] else if a < 100 then [48 + a / 10, 48 + a % 10] else [48 + a / 100, 48 + a / 10 % 10, 48 + a % 10]
def tx_op (o : Nat) : List Nat := if o < 8 then [97 + o] else if o < 600 then 45 :: tx_dg (600 - o) else tx_dg (o - 600)
def tx_sg (op : Nat) : Nat := if op = 0 then 43 else if op = 1 then 45 else if op = 2 then 42 else 47
def tx_st (x : nS) : List Nat := (([97 + x.1, 61] ++ tx_op x.2.2.1) ++ [tx_sg x.2.1]) ++ tx_op x.2.2.2 ++ [10]
def tx_all : List nS → List Nat
  | [] => []
  | x :: P => tx_st x ++ tx_all P
def a_opd (o : Nat) : Prop := o < 8 ∨ (100 ≤ o ∧ o ≤ 1100)
theorem tx_dg_len {a : Nat} : 1 ≤ (tx_dg a).length ∧ (tx_dg a).length ≤ 3 := by
  unfold tx_dg
  split
  · exact ⟨by simp, by simp⟩
  · split <;> exact ⟨by simp, by simp⟩
theorem tx_op_len {o : Nat} : 1 ≤ (tx_op o).length ∧ (tx_op o).length ≤ 4 := by
  unfold tx_op
  split
  · exact ⟨by simp, by simp⟩
  · split
    · have := tx_dg_len (a := 600 - o)
      rw [List.length_cons]
      omega
    · have := tx_dg_len (a := o - 600)
      omega
theorem tx_dg_ch {a : Nat} (h : a < 1000) : ∀ c ∈ tx_dg a, c < 128 := by
  intro c hc
  unfold tx_dg at hc
  split at hc
  · rw [List.mem_singleton.mp hc]; omega
  · split at hc
    · simp only [List.mem_cons, List.not_mem_nil, or_false] at hc
      omega
    · simp only [List.mem_cons, List.not_mem_nil, or_false] at hc
      omega
theorem tx_st_len {x : nS} : (tx_st x).length = 4 + (tx_op x.2.2.1).length + (tx_op x.2.2.2).length := by
  unfold tx_st
  simp only [List.length_append, List.length_cons, List.length_nil]
  omega
theorem tx_all_len : ∀ {P : List nS}, (tx_all P).length ≤ 12 * P.length
  | [] => Nat.le_refl _
  | x :: P => by
    have ih := tx_all_len (P := P)
    have h1 := tx_st_len (x := x)
    have h2 := tx_op_len (o := x.2.2.1)
    have h3 := tx_op_len (o := x.2.2.2)
    show (tx_st x ++ tx_all P).length ≤ _
    rw [List.length_append, List.length_cons]
    omega
/-! the StringBuilder -/
def SB (w : mW) (ρ : Nat → Nat) (b : Nat) (T : List Nat) : Prop :=
  ∃ a, tg w ρ b 2 6 ∧ m_fi w 1 1 b = 0 ∧ m_fi w 1 3 b = nI T.length ∧ m_fr w 1 0 b = some a ∧ tg w ρ a 24 7 ∧ T.length ≤ m_ln w a ∧ 1 ≤ m_ln w a ∧ m_ln w a ≤ 150 ∧ (∀ i, i < T.length → m_ia w a i = nI (T.getD i 0)) ∧ ∀ i, ∃ c, c < 128 ∧ m_ia w a i = nI c
def ST2 : Nat → Prop := fun q => q = 6 ∨ q = 7
theorem SB_kd {w : mW} {ρ : Nat → Nat} {b : Nat} {T : List Nat} (h : SB w ρ b T) : tg w ρ b 2 6 := by
  obtain ⟨a, b1, -⟩ := h
  exact b1
theorem nar_b : ∀ c, c < 128 → vp_nar .byte (nI c) = nI c ∧ vp_nar .byte (nI c).toInt8.toInt32 = nI c := by decide +kernel
theorem sh0 {n : Nat} (h : n < 2 ^ 31) : nI n >>> ((0 : Int32) &&& 31) = nI n := by
  have := pk_shrN h ((0 : Int32) &&& 31) 0 (by decide)
  rw [Nat.pow_zero, Nat.div_one] at this
  exact this
theorem sl0 {n : Nat} (h : n < 2 ^ 31) : nI n <<< ((0 : Int32) &&& 31) = nI n := by
  have := pk_shlN (n := n) ((0 : Int32) &&& 31) 0 (by decide) (by omega)
  rw [Nat.pow_zero, Nat.mul_one] at this
  exact this
theorem SB_init {w : mW} {ρ : Nat → Nat} {b : Nat} (h : tg w ρ b 2 6) (h3 : m_fi w 1 3 b = 0) : ∃ w' ρ', e_J4_init_da8c8 w b = some ((), w') ∧ SB w' ρ' b [] ∧ ch ST2 w ρ w' ρ' := by
  have hb := tg_nx h
  have z16 : (16 : Int32).toNatClampNeg = 16 := by decide +kernel
  unfold e_J4_init_da8c8 e_J5_init_d00df
  rw [if_neg (show ¬ (1 : Int32) = 0 by decide), m_g_t ⟨by decide, by decide, by decide⟩, m_l_s, z16]
  have g1 : ch ST2 w ρ (m_nA w 24 16) (va_up ρ (m_nx w) 7) := ch_nA
  have h1 := tg_ch h g1
  have t1 : tg (m_nA w 24 16) (va_up ρ (m_nx w) 7) (m_nx w) 24 7 := ⟨by simp only [kd_sI, fi_sI, fr_sI, ln_sI, ia_sI, oa_sI, la_sI, nx_sI, kd_sR, fi_sR, fr_sR, ln_sR, ia_sR, oa_sR, la_sR, nx_sR, kd_sA, fi_sA, fr_sA, ln_sA, ia_sA, oa_sA, la_sA, nx_sA, kd_sO, fi_sO, fr_sO, ln_sO, ia_sO, oa_sO, la_sO, nx_sO, kd_sL, fi_sL, fr_sL, ln_sL, ia_sL, oa_sL, la_sL, nx_sL, kd_sF, fi_sF, fr_sF, ln_sF, ia_sF, oa_sF, la_sF, nx_sF, kd_sG, fi_sG, fr_sG, ln_sG, ia_sG, oa_sG, la_sG, nx_sG, kd_sX, fi_sX, fr_sX, ln_sX, ia_sX, oa_sX, la_sX, nx_sX, kd_nO, fi_nO, fr_nO, ln_nO, ia_nO, oa_nO, la_nO, nx_nO, kd_nA, fi_nA, fr_nA, ln_nA, ia_nA, oa_nA, la_nA, nx_nA, va_up_s], va_up_s, by simp only [kd_sI, fi_sI, fr_sI, ln_sI, ia_sI, oa_sI, la_sI, nx_sI, kd_sR, fi_sR, fr_sR, ln_sR, ia_sR, oa_sR, la_sR, nx_sR, kd_sA, fi_sA, fr_sA, ln_sA, ia_sA, oa_sA, la_sA, nx_sA, kd_sO, fi_sO, fr_sO, ln_sO, ia_sO, oa_sO, la_sO, nx_sO, kd_sL, fi_sL, fr_sL, ln_sL, ia_sL, oa_sL, la_sL, nx_sL, kd_sF, fi_sF, fr_sF, ln_sF, ia_sF, oa_sF, la_sF, nx_sF, kd_sG, fi_sG, fr_sG, ln_sG, ia_sG, oa_sG, la_sG, nx_sG, kd_sX, fi_sX, fr_sX, ln_sX, ia_sX, oa_sX, la_sX, nx_sX, kd_nO, fi_nO, fr_nO, ln_nO, ia_nO, oa_nO, la_nO, nx_nO, kd_nA, fi_nA, fr_nA, ln_nA, ia_nA, oa_nA, la_nA, nx_nA]; omega⟩
  have l1 : m_ln (m_nA w 24 16) (m_nx w) = 16 := by simp only [kd_sI, fi_sI, fr_sI, ln_sI, ia_sI, oa_sI, la_sI, nx_sI, kd_sR, fi_sR, fr_sR, ln_sR, ia_sR, oa_sR, la_sR, nx_sR, kd_sA, fi_sA, fr_sA, ln_sA, ia_sA, oa_sA, la_sA, nx_sA, kd_sO, fi_sO, fr_sO, ln_sO, ia_sO, oa_sO, la_sO, nx_sO, kd_sL, fi_sL, fr_sL, ln_sL, ia_sL, oa_sL, la_sL, nx_sL, kd_sF, fi_sF, fr_sF, ln_sF, ia_sF, oa_sF, la_sF, nx_sF, kd_sG, fi_sG, fr_sG, ln_sG, ia_sG, oa_sG, la_sG, nx_sG, kd_sX, fi_sX, fr_sX, ln_sX, ia_sX, oa_sX, la_sX, nx_sX, kd_nO, fi_nO, fr_nO, ln_nO, ia_nO, oa_nO, la_nO, nx_nO, kd_nA, fi_nA, fr_nA, ln_nA, ia_nA, oa_nA, la_nA, nx_nA, va_up_s]
  have i1 : ∀ i, m_ia (m_nA w 24 16) (m_nx w) i = 0 := fun i => by simp only [kd_sI, fi_sI, fr_sI, ln_sI, ia_sI, oa_sI, la_sI, nx_sI, kd_sR, fi_sR, fr_sR, ln_sR, ia_sR, oa_sR, la_sR, nx_sR, kd_sA, fi_sA, fr_sA, ln_sA, ia_sA, oa_sA, la_sA, nx_sA, kd_sO, fi_sO, fr_sO, ln_sO, ia_sO, oa_sO, la_sO, nx_sO, kd_sL, fi_sL, fr_sL, ln_sL, ia_sL, oa_sL, la_sL, nx_sL, kd_sF, fi_sF, fr_sF, ln_sF, ia_sF, oa_sF, la_sF, nx_sF, kd_sG, fi_sG, fr_sG, ln_sG, ia_sG, oa_sG, la_sG, nx_sG, kd_sX, fi_sX, fr_sX, ln_sX, ia_sX, oa_sX, la_sX, nx_sX, kd_nO, fi_nO, fr_nO, ln_nO, ia_nO, oa_nO, la_nO, nx_nO, kd_nA, fi_nA, fr_nA, ln_nA, ia_nA, oa_nA, la_nA, nx_nA, va_up_s]
  have f1 : m_fi (m_nA w 24 16) 1 3 b = 0 := h3
  generalize m_nA w 24 16 = w1 at *
  generalize va_up ρ (m_nx w) 7 = ρ1 at *
  generalize m_nx w = a at *
  rw [m_g_t h1.1, m_l_s, m_g_t (by decide +kernel), m_l_s, m_b_s]
  have g2 : ch ST2 w1 ρ1 (m_sI (m_sR w1 1 0 b (some a)) 1 1 b 0) ρ1 := ch_trans (ch_sR (by rw [h1.2.1]; exact Or.inl rfl)) (ch_sI (by rw [h1.2.1]; exact Or.inl rfl))
  refine ⟨_, ρ1, rfl, ⟨a, h1, ?_, ?_, ?_, t1, Nat.zero_le _, ?_, ?_, fun i hi => absurd hi (by show ¬ i < 0; omega), fun i => ⟨0, by decide, i1 i⟩⟩, ch_trans g1 g2⟩
  · simp only [kd_sI, fi_sI, fr_sI, ln_sI, ia_sI, oa_sI, la_sI, nx_sI, kd_sR, fi_sR, fr_sR, ln_sR, ia_sR, oa_sR, la_sR, nx_sR, kd_sA, fi_sA, fr_sA, ln_sA, ia_sA, oa_sA, la_sA, nx_sA, kd_sO, fi_sO, fr_sO, ln_sO, ia_sO, oa_sO, la_sO, nx_sO, kd_sL, fi_sL, fr_sL, ln_sL, ia_sL, oa_sL, la_sL, nx_sL, kd_sF, fi_sF, fr_sF, ln_sF, ia_sF, oa_sF, la_sF, nx_sF, kd_sG, fi_sG, fr_sG, ln_sG, ia_sG, oa_sG, la_sG, nx_sG, kd_sX, fi_sX, fr_sX, ln_sX, ia_sX, oa_sX, la_sX, nx_sX, kd_nO, fi_nO, fr_nO, ln_nO, ia_nO, oa_nO, la_nO, nx_nO, kd_nA, fi_nA, fr_nA, ln_nA, ia_nA, oa_nA, la_nA, nx_nA, u3_s]
  · simp only [kd_sI, fi_sI, fr_sI, ln_sI, ia_sI, oa_sI, la_sI, nx_sI, kd_sR, fi_sR, fr_sR, ln_sR, ia_sR, oa_sR, la_sR, nx_sR, kd_sA, fi_sA, fr_sA, ln_sA, ia_sA, oa_sA, la_sA, nx_sA, kd_sO, fi_sO, fr_sO, ln_sO, ia_sO, oa_sO, la_sO, nx_sO, kd_sL, fi_sL, fr_sL, ln_sL, ia_sL, oa_sL, la_sL, nx_sL, kd_sF, fi_sF, fr_sF, ln_sF, ia_sF, oa_sF, la_sF, nx_sF, kd_sG, fi_sG, fr_sG, ln_sG, ia_sG, oa_sG, la_sG, nx_sG, kd_sX, fi_sX, fr_sX, ln_sX, ia_sX, oa_sX, la_sX, nx_sX, kd_nO, fi_nO, fr_nO, ln_nO, ia_nO, oa_nO, la_nO, nx_nO, kd_nA, fi_nA, fr_nA, ln_nA, ia_nA, oa_nA, la_nA, nx_nA]; rw [u3_j (by decide)]; exact f1
  · simp only [kd_sI, fi_sI, fr_sI, ln_sI, ia_sI, oa_sI, la_sI, nx_sI, kd_sR, fi_sR, fr_sR, ln_sR, ia_sR, oa_sR, la_sR, nx_sR, kd_sA, fi_sA, fr_sA, ln_sA, ia_sA, oa_sA, la_sA, nx_sA, kd_sO, fi_sO, fr_sO, ln_sO, ia_sO, oa_sO, la_sO, nx_sO, kd_sL, fi_sL, fr_sL, ln_sL, ia_sL, oa_sL, la_sL, nx_sL, kd_sF, fi_sF, fr_sF, ln_sF, ia_sF, oa_sF, la_sF, nx_sF, kd_sG, fi_sG, fr_sG, ln_sG, ia_sG, oa_sG, la_sG, nx_sG, kd_sX, fi_sX, fr_sX, ln_sX, ia_sX, oa_sX, la_sX, nx_sX, kd_nO, fi_nO, fr_nO, ln_nO, ia_nO, oa_nO, la_nO, nx_nO, kd_nA, fi_nA, fr_nA, ln_nA, ia_nA, oa_nA, la_nA, nx_nA, u3_s]
  · show 1 ≤ m_ln w1 a; omega
  · show m_ln w1 a ≤ 150; omega
theorem SB_ensure {w : mW} {ρ : Nat → Nat} {b : Nat} {T : List Nat} (h : SB w ρ b T) {k : Nat} (hk : k ≤ 72) (hT : T.length ≤ k) : ∃ w' ρ' a, e_J5_ensureCapacityInternal_d00df w b (nI k) = some ((), w') ∧ SB w' ρ' b T ∧ m_fr w' 1 0 b = some a ∧ k ≤ m_ln w' a ∧ ch ST2 w ρ w' ρ' := by
  obtain ⟨a, b1, b2, b3, b4, b5, b6, b6', b7, b8, b9⟩ := id h
  have hl : m_ln w a < 2 ^ 31 := by omega
  have k5 : 21 ≤ m_kd w a ∧ m_kd w a ≤ 25 := by rw [b5.1]; decide
  unfold e_J5_ensureCapacityInternal_d00df e_J5_ensureCapacityInternal_d00df_38
  rw [m_g_t b1.1, b4, m_o_s, m_g_t k5, b2, sh0 hl]
  by_cases c : k ≤ m_ln w a
  · have e : nI k - nI (m_ln w a) ≤ 0 := by
      by_cases c2 : k = m_ln w a
      · rw [c2, pk_sub (Nat.le_refl _), Nat.sub_self]; decide
      · exact Int32.le_of_lt (pk_sneg (by omega) (by omega))
    rw [if_pos e]
    exact ⟨w, ρ, a, rfl, h, b4, c, ch_rfl⟩
  · rw [pk_sub (by omega), if_neg (nI_nle (by omega) (by omega)), m_o_s]
    have hn : (k - m_ln w a < m_ln w a + 2 ∧ e_J5_newCapacity_0f7a4 w b (nI k) = some (nI (m_ln w a + (m_ln w a + 2)), w)) ∨ e_J5_newCapacity_0f7a4 w b (nI k) = some (nI k, w) := by
      unfold e_J5_newCapacity_0f7a4 e_J8_newLength_cabcc
      rw [m_g_t b1.1, b4, m_o_s, m_g_t k5, b2, sl0 (by omega), pk_sub (by omega), show (2 : Int32) <<< ((0 : Int32) &&& 31) = nI 2 by decide, nI_add]
      by_cases c2 : k - m_ln w a < m_ln w a + 2
      · have em : m_max (nI (k - m_ln w a)) (nI (m_ln w a + 2)) = nI (m_ln w a + 2) := by
          unfold m_max; rw [if_pos (nI_lt c2 (by omega))]
        rw [em, nI_add, if_neg (nI_nle (by omega) (by omega)), if_neg (show ¬ (2147483639 : Int32) < nI (m_ln w a + (m_ln w a + 2)) from nI_nlt (a := 2147483639) (by omega) (by decide)), m_b_s, if_neg (show ¬ nI (m_ln w a + (m_ln w a + 2)) = 2147483647 from fun q => by have := (nI_eq (b := 2147483647) (by omega) (by decide)).mp q; omega), m_g_t b1.1, b2, sh0 (by omega)]
        exact Or.inl ⟨c2, rfl⟩
      · have em : m_max (nI (k - m_ln w a)) (nI (m_ln w a + 2)) = nI (k - m_ln w a) := by
          unfold m_max; rw [if_neg (nI_nlt (by omega) (by omega))]
        have ek : m_ln w a + (k - m_ln w a) = k := by omega
        rw [em, nI_add, ek, if_neg (nI_nle (by omega) (by omega)), if_neg (show ¬ (2147483639 : Int32) < nI k from nI_nlt (a := 2147483639) (by omega) (by decide)), m_b_s, if_neg (show ¬ nI k = 2147483647 from fun q => by have := (nI_eq (b := 2147483647) (by omega) (by decide)).mp q; omega), m_g_t b1.1, b2, sh0 (by omega)]
        exact Or.inr rfl
    -- copied into an array of n bytes
    have key : ∀ n : Nat, e_J5_newCapacity_0f7a4 w b (nI k) = some (nI n, w) → m_ln w a < n → k ≤ n → n ≤ 150 → ∃ w' ρ' a', (m_b (e_J5_newCapacity_0f7a4 w b (nI k)) fun r6 w7 => m_g (m_kd w7 b = 2) <| m_b (e_J7_copyOf_9075b w7 a (r6 <<< ((m_fi w7 1 1 b) &&& 31))) fun r10 w11 => m_g (m_kd w11 b = 2) <| m_l (m_sR w11 1 0 b (some r10)) fun w14 => some ((), w14)) = some ((), w') ∧ SB w' ρ' b T ∧ m_fr w' 1 0 b = some a' ∧ k ≤ m_ln w' a' ∧ ch ST2 w ρ w' ρ' := by
      intro n e1 e2 e3 e4
      have hax : a ≠ m_nx w := tg_nx b5
      have hbx : b ≠ m_nx w := tg_nx b1
      have emn : m_min (nI (m_ln w a)) (nI n) = nI (m_ln w a) := by
        unfold m_min
        rw [if_neg (nI_nlt (by omega) (by omega))]
      have eln : m_ln (m_nA w 24 n) a = m_ln w a := by simp only [kd_sI, fi_sI, fr_sI, ln_sI, ia_sI, oa_sI, la_sI, nx_sI, kd_sR, fi_sR, fr_sR, ln_sR, ia_sR, oa_sR, la_sR, nx_sR, kd_sA, fi_sA, fr_sA, ln_sA, ia_sA, oa_sA, la_sA, nx_sA, kd_sO, fi_sO, fr_sO, ln_sO, ia_sO, oa_sO, la_sO, nx_sO, kd_sL, fi_sL, fr_sL, ln_sL, ia_sL, oa_sL, la_sL, nx_sL, kd_sF, fi_sF, fr_sF, ln_sF, ia_sF, oa_sF, la_sF, nx_sF, kd_sG, fi_sG, fr_sG, ln_sG, ia_sG, oa_sG, la_sG, nx_sG, kd_sX, fi_sX, fr_sX, ln_sX, ia_sX, oa_sX, la_sX, nx_sX, kd_nO, fi_nO, fr_nO, ln_nO, ia_nO, oa_nO, la_nO, nx_nO, kd_nA, fi_nA, fr_nA, ln_nA, ia_nA, oa_nA, la_nA, nx_nA, va_up_n hax]
      have eln2 : m_ln (m_nA w 24 n) (m_nx w) = n := by simp only [kd_sI, fi_sI, fr_sI, ln_sI, ia_sI, oa_sI, la_sI, nx_sI, kd_sR, fi_sR, fr_sR, ln_sR, ia_sR, oa_sR, la_sR, nx_sR, kd_sA, fi_sA, fr_sA, ln_sA, ia_sA, oa_sA, la_sA, nx_sA, kd_sO, fi_sO, fr_sO, ln_sO, ia_sO, oa_sO, la_sO, nx_sO, kd_sL, fi_sL, fr_sL, ln_sL, ia_sL, oa_sL, la_sL, nx_sL, kd_sF, fi_sF, fr_sF, ln_sF, ia_sF, oa_sF, la_sF, nx_sF, kd_sG, fi_sG, fr_sG, ln_sG, ia_sG, oa_sG, la_sG, nx_sG, kd_sX, fi_sX, fr_sX, ln_sX, ia_sX, oa_sX, la_sX, nx_sX, kd_nO, fi_nO, fr_nO, ln_nO, ia_nO, oa_nO, la_nO, nx_nO, kd_nA, fi_nA, fr_nA, ln_nA, ia_nA, oa_nA, la_nA, nx_nA, va_up_s]
      have ekd : m_kd (m_nA w 24 n) a = 24 := by simp only [kd_sI, fi_sI, fr_sI, ln_sI, ia_sI, oa_sI, la_sI, nx_sI, kd_sR, fi_sR, fr_sR, ln_sR, ia_sR, oa_sR, la_sR, nx_sR, kd_sA, fi_sA, fr_sA, ln_sA, ia_sA, oa_sA, la_sA, nx_sA, kd_sO, fi_sO, fr_sO, ln_sO, ia_sO, oa_sO, la_sO, nx_sO, kd_sL, fi_sL, fr_sL, ln_sL, ia_sL, oa_sL, la_sL, nx_sL, kd_sF, fi_sF, fr_sF, ln_sF, ia_sF, oa_sF, la_sF, nx_sF, kd_sG, fi_sG, fr_sG, ln_sG, ia_sG, oa_sG, la_sG, nx_sG, kd_sX, fi_sX, fr_sX, ln_sX, ia_sX, oa_sX, la_sX, nx_sX, kd_nO, fi_nO, fr_nO, ln_nO, ia_nO, oa_nO, la_nO, nx_nO, kd_nA, fi_nA, fr_nA, ln_nA, ia_nA, oa_nA, la_nA, nx_nA, va_up_n hax]; exact b5.1
      have ekd2 : m_kd (m_nA w 24 n) (m_nx w) = 24 := by simp only [kd_sI, fi_sI, fr_sI, ln_sI, ia_sI, oa_sI, la_sI, nx_sI, kd_sR, fi_sR, fr_sR, ln_sR, ia_sR, oa_sR, la_sR, nx_sR, kd_sA, fi_sA, fr_sA, ln_sA, ia_sA, oa_sA, la_sA, nx_sA, kd_sO, fi_sO, fr_sO, ln_sO, ia_sO, oa_sO, la_sO, nx_sO, kd_sL, fi_sL, fr_sL, ln_sL, ia_sL, oa_sL, la_sL, nx_sL, kd_sF, fi_sF, fr_sF, ln_sF, ia_sF, oa_sF, la_sF, nx_sF, kd_sG, fi_sG, fr_sG, ln_sG, ia_sG, oa_sG, la_sG, nx_sG, kd_sX, fi_sX, fr_sX, ln_sX, ia_sX, oa_sX, la_sX, nx_sX, kd_nO, fi_nO, fr_nO, ln_nO, ia_nO, oa_nO, la_nO, nx_nO, kd_nA, fi_nA, fr_nA, ln_nA, ia_nA, oa_nA, la_nA, nx_nA, va_up_s]
      have ekb : m_kd (m_nA w 24 n) b = 2 := by simp only [kd_sI, fi_sI, fr_sI, ln_sI, ia_sI, oa_sI, la_sI, nx_sI, kd_sR, fi_sR, fr_sR, ln_sR, ia_sR, oa_sR, la_sR, nx_sR, kd_sA, fi_sA, fr_sA, ln_sA, ia_sA, oa_sA, la_sA, nx_sA, kd_sO, fi_sO, fr_sO, ln_sO, ia_sO, oa_sO, la_sO, nx_sO, kd_sL, fi_sL, fr_sL, ln_sL, ia_sL, oa_sL, la_sL, nx_sL, kd_sF, fi_sF, fr_sF, ln_sF, ia_sF, oa_sF, la_sF, nx_sF, kd_sG, fi_sG, fr_sG, ln_sG, ia_sG, oa_sG, la_sG, nx_sG, kd_sX, fi_sX, fr_sX, ln_sX, ia_sX, oa_sX, la_sX, nx_sX, kd_nO, fi_nO, fr_nO, ln_nO, ia_nO, oa_nO, la_nO, nx_nO, kd_nA, fi_nA, fr_nA, ln_nA, ia_nA, oa_nA, la_nA, nx_nA, va_up_n hbx]; exact b1.1
      have eia : m_ia (m_nA w 24 n) a = m_ia w a := by simp only [kd_sI, fi_sI, fr_sI, ln_sI, ia_sI, oa_sI, la_sI, nx_sI, kd_sR, fi_sR, fr_sR, ln_sR, ia_sR, oa_sR, la_sR, nx_sR, kd_sA, fi_sA, fr_sA, ln_sA, ia_sA, oa_sA, la_sA, nx_sA, kd_sO, fi_sO, fr_sO, ln_sO, ia_sO, oa_sO, la_sO, nx_sO, kd_sL, fi_sL, fr_sL, ln_sL, ia_sL, oa_sL, la_sL, nx_sL, kd_sF, fi_sF, fr_sF, ln_sF, ia_sF, oa_sF, la_sF, nx_sF, kd_sG, fi_sG, fr_sG, ln_sG, ia_sG, oa_sG, la_sG, nx_sG, kd_sX, fi_sX, fr_sX, ln_sX, ia_sX, oa_sX, la_sX, nx_sX, kd_nO, fi_nO, fr_nO, ln_nO, ia_nO, oa_nO, la_nO, nx_nO, kd_nA, fi_nA, fr_nA, ln_nA, ia_nA, oa_nA, la_nA, nx_nA, va_up_n hax]
      have eia2 : ∀ i, m_ia (m_nA w 24 n) (m_nx w) i = 0 := fun i => by simp only [kd_sI, fi_sI, fr_sI, ln_sI, ia_sI, oa_sI, la_sI, nx_sI, kd_sR, fi_sR, fr_sR, ln_sR, ia_sR, oa_sR, la_sR, nx_sR, kd_sA, fi_sA, fr_sA, ln_sA, ia_sA, oa_sA, la_sA, nx_sA, kd_sO, fi_sO, fr_sO, ln_sO, ia_sO, oa_sO, la_sO, nx_sO, kd_sL, fi_sL, fr_sL, ln_sL, ia_sL, oa_sL, la_sL, nx_sL, kd_sF, fi_sF, fr_sF, ln_sF, ia_sF, oa_sF, la_sF, nx_sF, kd_sG, fi_sG, fr_sG, ln_sG, ia_sG, oa_sG, la_sG, nx_sG, kd_sX, fi_sX, fr_sX, ln_sX, ia_sX, oa_sX, la_sX, nx_sX, kd_nO, fi_nO, fr_nO, ln_nO, ia_nO, oa_nO, la_nO, nx_nO, kd_nA, fi_nA, fr_nA, ln_nA, ia_nA, oa_nA, la_nA, nx_nA, va_up_s]
      have efi : ∀ j, m_fi (m_nA w 24 n) 1 j b = m_fi w 1 j b := fun j => rfl
      have g1 : ch ST2 w ρ (m_nA w 24 n) (va_up ρ (m_nx w) 7) := ch_nA
      have t1 : tg (m_nA w 24 n) (va_up ρ (m_nx w) 7) (m_nx w) 24 7 := ⟨ekd2, va_up_s, by simp only [kd_sI, fi_sI, fr_sI, ln_sI, ia_sI, oa_sI, la_sI, nx_sI, kd_sR, fi_sR, fr_sR, ln_sR, ia_sR, oa_sR, la_sR, nx_sR, kd_sA, fi_sA, fr_sA, ln_sA, ia_sA, oa_sA, la_sA, nx_sA, kd_sO, fi_sO, fr_sO, ln_sO, ia_sO, oa_sO, la_sO, nx_sO, kd_sL, fi_sL, fr_sL, ln_sL, ia_sL, oa_sL, la_sL, nx_sL, kd_sF, fi_sF, fr_sF, ln_sF, ia_sF, oa_sF, la_sF, nx_sF, kd_sG, fi_sG, fr_sG, ln_sG, ia_sG, oa_sG, la_sG, nx_sG, kd_sX, fi_sX, fr_sX, ln_sX, ia_sX, oa_sX, la_sX, nx_sX, kd_nO, fi_nO, fr_nO, ln_nO, ia_nO, oa_nO, la_nO, nx_nO, kd_nA, fi_nA, fr_nA, ln_nA, ia_nA, oa_nA, la_nA, nx_nA]; omega⟩
      have tb := tg_ch b1 g1
      have z0 : (0 : Int32).toNatClampNeg = 0 := by decide +kernel
      rw [e1, m_b_s, m_g_t b1.1, b2, sl0 (by omega)]
      unfold e_J7_copyOf_9075b
      rw [m_g_t k5, if_neg (fun q => by have := (nI_eq (by omega) (by omega)).mp q; omega), nI_clamp (by omega), m_g_t ⟨nI_pos (by omega), e4, by decide⟩, m_l_s]
      generalize m_nA w 24 n = w4 at *
      generalize va_up ρ (m_nx w) 7 = ρ4 at *
      generalize m_nx w = x at *
      rw [eln, emn, nI_clamp (by omega), m_g_t (by rw [ekd]; decide), z0, m_g_t ⟨ekd, ekd2, by decide, by decide, nI_pos (by omega), by omega, by rw [eln2]; omega, by rw [eln2]; omega⟩, m_g_t (fun i hi => by
        rw [Nat.zero_add, eia]
        obtain ⟨c, hc1, hc2⟩ := b9 i
        rw [hc2]
        exact (nar_b c hc1).1), m_l_s, m_b_s]
      have g2 : ch ST2 w4 ρ4 (m_sF w4 x (va_cpy (m_ia w4 a) (m_ia w4 x) 0 0 (m_ln w a))) ρ4 := ch_sF (by rw [t1.2.1]; exact Or.inr rfl)
      have hbr : b ≠ x := tg_ne tb t1 (by decide)
      rw [m_g_t (by exact tb.1), m_l_s]
      have g3 : ch ST2 (m_sF w4 x (va_cpy (m_ia w4 a) (m_ia w4 x) 0 0 (m_ln w a))) ρ4 (m_sR (m_sF w4 x (va_cpy (m_ia w4 a) (m_ia w4 x) 0 0 (m_ln w a))) 1 0 b (some x)) ρ4 := ch_sR (by rw [tb.2.1]; exact Or.inl rfl)
      have fin : ∀ i, m_ia (m_sR (m_sF w4 x (va_cpy (m_ia w4 a) (m_ia w4 x) 0 0 (m_ln w a))) 1 0 b (some x)) x i = if i < m_ln w a then m_ia w a i else 0 := fun i => by
        simp only [kd_sI, fi_sI, fr_sI, ln_sI, ia_sI, oa_sI, la_sI, nx_sI, kd_sR, fi_sR, fr_sR, ln_sR, ia_sR, oa_sR, la_sR, nx_sR, kd_sA, fi_sA, fr_sA, ln_sA, ia_sA, oa_sA, la_sA, nx_sA, kd_sO, fi_sO, fr_sO, ln_sO, ia_sO, oa_sO, la_sO, nx_sO, kd_sL, fi_sL, fr_sL, ln_sL, ia_sL, oa_sL, la_sL, nx_sL, kd_sF, fi_sF, fr_sF, ln_sF, ia_sF, oa_sF, la_sF, nx_sF, kd_sG, fi_sG, fr_sG, ln_sG, ia_sG, oa_sG, la_sG, nx_sG, kd_sX, fi_sX, fr_sX, ln_sX, ia_sX, oa_sX, la_sX, nx_sX, kd_nO, fi_nO, fr_nO, ln_nO, ia_nO, oa_nO, la_nO, nx_nO, kd_nA, fi_nA, fr_nA, ln_nA, ia_nA, oa_nA, la_nA, nx_nA, va_up_s]
        by_cases hi : i < m_ln w a
        · rw [pk_cpy_in (Nat.zero_le _) (by omega), if_pos hi, eia, Nat.zero_add, Nat.sub_zero]
        · rw [pk_cpy_out (Or.inr (by omega)), if_neg hi, eia2]
      refine ⟨_, ρ4, x, rfl, ⟨x, tb, (efi 1).trans b2, (efi 3).trans b3, ?_, t1, ?_, ?_, ?_, fun i hi => ?_, fun i => ?_⟩, ?_, ?_, ch_trans g1 (ch_trans g2 g3)⟩
      · simp only [kd_sI, fi_sI, fr_sI, ln_sI, ia_sI, oa_sI, la_sI, nx_sI, kd_sR, fi_sR, fr_sR, ln_sR, ia_sR, oa_sR, la_sR, nx_sR, kd_sA, fi_sA, fr_sA, ln_sA, ia_sA, oa_sA, la_sA, nx_sA, kd_sO, fi_sO, fr_sO, ln_sO, ia_sO, oa_sO, la_sO, nx_sO, kd_sL, fi_sL, fr_sL, ln_sL, ia_sL, oa_sL, la_sL, nx_sL, kd_sF, fi_sF, fr_sF, ln_sF, ia_sF, oa_sF, la_sF, nx_sF, kd_sG, fi_sG, fr_sG, ln_sG, ia_sG, oa_sG, la_sG, nx_sG, kd_sX, fi_sX, fr_sX, ln_sX, ia_sX, oa_sX, la_sX, nx_sX, kd_nO, fi_nO, fr_nO, ln_nO, ia_nO, oa_nO, la_nO, nx_nO, kd_nA, fi_nA, fr_nA, ln_nA, ia_nA, oa_nA, la_nA, nx_nA, u3_s]
      · show T.length ≤ m_ln w4 x; omega
      · show 1 ≤ m_ln w4 x; omega
      · show m_ln w4 x ≤ 150; omega
      · rw [fin, if_pos (by omega)]; exact b8 i hi
      · rw [fin]
        by_cases hi : i < m_ln w a
        · rw [if_pos hi]; exact b9 i
        · rw [if_neg hi]; exact ⟨0, by decide, rfl⟩
      · simp only [kd_sI, fi_sI, fr_sI, ln_sI, ia_sI, oa_sI, la_sI, nx_sI, kd_sR, fi_sR, fr_sR, ln_sR, ia_sR, oa_sR, la_sR, nx_sR, kd_sA, fi_sA, fr_sA, ln_sA, ia_sA, oa_sA, la_sA, nx_sA, kd_sO, fi_sO, fr_sO, ln_sO, ia_sO, oa_sO, la_sO, nx_sO, kd_sL, fi_sL, fr_sL, ln_sL, ia_sL, oa_sL, la_sL, nx_sL, kd_sF, fi_sF, fr_sF, ln_sF, ia_sF, oa_sF, la_sF, nx_sF, kd_sG, fi_sG, fr_sG, ln_sG, ia_sG, oa_sG, la_sG, nx_sG, kd_sX, fi_sX, fr_sX, ln_sX, ia_sX, oa_sX, la_sX, nx_sX, kd_nO, fi_nO, fr_nO, ln_nO, ia_nO, oa_nO, la_nO, nx_nO, kd_nA, fi_nA, fr_nA, ln_nA, ia_nA, oa_nA, la_nA, nx_nA, u3_s]
      · show k ≤ m_ln w4 x; omega
    rcases hn with ⟨hk3, e⟩ | e
    · exact key _ e (by omega) (by omega) (by omega)
    · exact key _ e (by omega) (by omega) (by omega)
theorem latin {w : mW} {ρ : Nat → Nat} {b : Nat} {T : List Nat} (h : SB w ρ b T) : e_J5_isLatin1_aae02 w b = some (1, w) := by
  obtain ⟨a, b1, b2, -⟩ := h
  unfold e_J5_isLatin1_aae02 e_J5_isLatin1_aae02_18
  rw [if_neg (show ¬ (1 : Int32) = 0 by decide), m_g_t b1.1, b2, if_pos rfl, m_g_t vb1]
theorem getD_app {T : List Nat} {c i : Nat} (h : i ≤ T.length) : (T ++ [c]).getD i 0 = if i = T.length then c else T.getD i 0 := by
  rw [List.getD_eq_getElem?_getD, List.getD_eq_getElem?_getD]
  by_cases e : i = T.length
  · subst e
    rw [List.getElem?_append_right (Nat.le_refl _), Nat.sub_self, if_pos rfl]
    rfl
  · rw [List.getElem?_append_left (by omega), if_neg e]
theorem SB_char {w : mW} {ρ : Nat → Nat} {b : Nat} {T : List Nat} (h : SB w ρ b T) (hT : T.length < 72) {c : Nat} (hc : c < 128) : ∃ w' ρ', e_J4_append_cf468 w b (nI c) = some (b, w') ∧ SB w' ρ' b (T ++ [c]) ∧ ch ST2 w ρ w' ρ' := by
  have hb := SB_kd h
  have f3 : m_fi w 1 3 b = nI T.length := by obtain ⟨_, _, _, q, _⟩ := h; exact q
  obtain ⟨w1, ρ1, a', q1, q2, q3, q4, q5⟩ := SB_ensure h (k := T.length + 1) (by omega) (by omega)
  obtain ⟨a, b1, b2, b3, b4, b5, b6, b6', b7, b8, b9⟩ := id q2
  have ea : a = a' := Option.some.inj (b4.symm.trans q3)
  subst ea
  unfold e_J4_append_cf468 e_J5_append_3fe6f e_J1_canEncode_fc78d e_J1_canEncode_fc78d_12
  rw [m_g_t hb.1, m_g_t hb.1, f3, nI_1, q1, m_b_s, m_g_t b1.1, latin q2, m_b_s, if_neg nb_10, if_neg (show ¬ (255 : Int32) < nI c from nI_nlt (a := 255) (by omega) (by decide)), m_g_t vb1, m_b_s, if_neg nb_10, m_g_t b1.1, b4, m_o_s, b3, nI_1, m_l_s, m_g_t (by exact ⟨b5.1, nI_in (N := m_ln w1 a) (by omega) (by omega)⟩), m_l_s, m_b_s, nI_clamp (by omega), (nar_b c hc).2]
  have hab : a ≠ b := tg_ne b5 b1 (by decide)
  refine ⟨_, ρ1, rfl, ⟨a, b1, ?_, ?_, b4, b5, ?_, b6', b7, fun i hi => ?_, fun i => ?_⟩, ch_trans q5 (ch_trans (ch_sI (by rw [b1.2.1]; exact Or.inl rfl)) (ch_sA (by rw [b5.2.1]; exact Or.inr rfl)))⟩
  · simp only [kd_sI, fi_sI, fr_sI, ln_sI, ia_sI, oa_sI, la_sI, nx_sI, kd_sR, fi_sR, fr_sR, ln_sR, ia_sR, oa_sR, la_sR, nx_sR, kd_sA, fi_sA, fr_sA, ln_sA, ia_sA, oa_sA, la_sA, nx_sA, kd_sO, fi_sO, fr_sO, ln_sO, ia_sO, oa_sO, la_sO, nx_sO, kd_sL, fi_sL, fr_sL, ln_sL, ia_sL, oa_sL, la_sL, nx_sL, kd_sF, fi_sF, fr_sF, ln_sF, ia_sF, oa_sF, la_sF, nx_sF, kd_sG, fi_sG, fr_sG, ln_sG, ia_sG, oa_sG, la_sG, nx_sG, kd_sX, fi_sX, fr_sX, ln_sX, ia_sX, oa_sX, la_sX, nx_sX, kd_nO, fi_nO, fr_nO, ln_nO, ia_nO, oa_nO, la_nO, nx_nO, kd_nA, fi_nA, fr_nA, ln_nA, ia_nA, oa_nA, la_nA, nx_nA]; rw [u3_j (by decide)]; exact b2
  · simp only [kd_sI, fi_sI, fr_sI, ln_sI, ia_sI, oa_sI, la_sI, nx_sI, kd_sR, fi_sR, fr_sR, ln_sR, ia_sR, oa_sR, la_sR, nx_sR, kd_sA, fi_sA, fr_sA, ln_sA, ia_sA, oa_sA, la_sA, nx_sA, kd_sO, fi_sO, fr_sO, ln_sO, ia_sO, oa_sO, la_sO, nx_sO, kd_sL, fi_sL, fr_sL, ln_sL, ia_sL, oa_sL, la_sL, nx_sL, kd_sF, fi_sF, fr_sF, ln_sF, ia_sF, oa_sF, la_sF, nx_sF, kd_sG, fi_sG, fr_sG, ln_sG, ia_sG, oa_sG, la_sG, nx_sG, kd_sX, fi_sX, fr_sX, ln_sX, ia_sX, oa_sX, la_sX, nx_sX, kd_nO, fi_nO, fr_nO, ln_nO, ia_nO, oa_nO, la_nO, nx_nO, kd_nA, fi_nA, fr_nA, ln_nA, ia_nA, oa_nA, la_nA, nx_nA, u3_s, List.length_append, List.length_singleton]
  · rw [List.length_append, List.length_singleton]; exact q4
  · rw [List.length_append, List.length_singleton] at hi
    rw [getD_app (by omega)]
    simp only [kd_sI, fi_sI, fr_sI, ln_sI, ia_sI, oa_sI, la_sI, nx_sI, kd_sR, fi_sR, fr_sR, ln_sR, ia_sR, oa_sR, la_sR, nx_sR, kd_sA, fi_sA, fr_sA, ln_sA, ia_sA, oa_sA, la_sA, nx_sA, kd_sO, fi_sO, fr_sO, ln_sO, ia_sO, oa_sO, la_sO, nx_sO, kd_sL, fi_sL, fr_sL, ln_sL, ia_sL, oa_sL, la_sL, nx_sL, kd_sF, fi_sF, fr_sF, ln_sF, ia_sF, oa_sF, la_sF, nx_sF, kd_sG, fi_sG, fr_sG, ln_sG, ia_sG, oa_sG, la_sG, nx_sG, kd_sX, fi_sX, fr_sX, ln_sX, ia_sX, oa_sX, la_sX, nx_sX, kd_nO, fi_nO, fr_nO, ln_nO, ia_nO, oa_nO, la_nO, nx_nO, kd_nA, fi_nA, fr_nA, ln_nA, ia_nA, oa_nA, la_nA, nx_nA, va_up_s]
    by_cases e : i = T.length
    · subst e; rw [pk_us, if_pos rfl]
    · rw [pk_un e, if_neg e]; exact b8 i (by omega)
  · simp only [kd_sI, fi_sI, fr_sI, ln_sI, ia_sI, oa_sI, la_sI, nx_sI, kd_sR, fi_sR, fr_sR, ln_sR, ia_sR, oa_sR, la_sR, nx_sR, kd_sA, fi_sA, fr_sA, ln_sA, ia_sA, oa_sA, la_sA, nx_sA, kd_sO, fi_sO, fr_sO, ln_sO, ia_sO, oa_sO, la_sO, nx_sO, kd_sL, fi_sL, fr_sL, ln_sL, ia_sL, oa_sL, la_sL, nx_sL, kd_sF, fi_sF, fr_sF, ln_sF, ia_sF, oa_sF, la_sF, nx_sF, kd_sG, fi_sG, fr_sG, ln_sG, ia_sG, oa_sG, la_sG, nx_sG, kd_sX, fi_sX, fr_sX, ln_sX, ia_sX, oa_sX, la_sX, nx_sX, kd_nO, fi_nO, fr_nO, ln_nO, ia_nO, oa_nO, la_nO, nx_nO, kd_nA, fi_nA, fr_nA, ln_nA, ia_nA, oa_nA, la_nA, nx_nA, va_up_s]
    by_cases e : i = T.length
    · subst e; rw [pk_us]; exact ⟨c, hc, rfl⟩
    · rw [pk_un e]; exact b9 i
/-! a number is appended -/
theorem SB_put {w : mW} {ρ : Nat → Nat} {b a : Nat} {T : List Nat} (h : SB w ρ b T) (ha : m_fr w 1 0 b = some a) {i c : Nat} (hi : T.length ≤ i) (hc : c < 128) : SB (m_sA w a i (nI c)) ρ b T ∧ ch ST2 w ρ (m_sA w a i (nI c)) ρ := by
  obtain ⟨a', b1, b2, b3, b4, b5, b6, b6', b7, b8, b9⟩ := h
  have ea : a = a' := Option.some.inj (ha.symm.trans b4)
  subst ea
  refine ⟨⟨a, b1, b2, b3, b4, b5, b6, b6', b7, fun j hj => ?_, fun j => ?_⟩, ch_sA (by rw [b5.2.1]; exact Or.inr rfl)⟩
  · simp only [kd_sI, fi_sI, fr_sI, ln_sI, ia_sI, oa_sI, la_sI, nx_sI, kd_sR, fi_sR, fr_sR, ln_sR, ia_sR, oa_sR, la_sR, nx_sR, kd_sA, fi_sA, fr_sA, ln_sA, ia_sA, oa_sA, la_sA, nx_sA, kd_sO, fi_sO, fr_sO, ln_sO, ia_sO, oa_sO, la_sO, nx_sO, kd_sL, fi_sL, fr_sL, ln_sL, ia_sL, oa_sL, la_sL, nx_sL, kd_sF, fi_sF, fr_sF, ln_sF, ia_sF, oa_sF, la_sF, nx_sF, kd_sG, fi_sG, fr_sG, ln_sG, ia_sG, oa_sG, la_sG, nx_sG, kd_sX, fi_sX, fr_sX, ln_sX, ia_sX, oa_sX, la_sX, nx_sX, kd_nO, fi_nO, fr_nO, ln_nO, ia_nO, oa_nO, la_nO, nx_nO, kd_nA, fi_nA, fr_nA, ln_nA, ia_nA, oa_nA, la_nA, nx_nA, va_up_s]
    rw [pk_un (by omega)]
    exact b8 j hj
  · simp only [kd_sI, fi_sI, fr_sI, ln_sI, ia_sI, oa_sI, la_sI, nx_sI, kd_sR, fi_sR, fr_sR, ln_sR, ia_sR, oa_sR, la_sR, nx_sR, kd_sA, fi_sA, fr_sA, ln_sA, ia_sA, oa_sA, la_sA, nx_sA, kd_sO, fi_sO, fr_sO, ln_sO, ia_sO, oa_sO, la_sO, nx_sO, kd_sL, fi_sL, fr_sL, ln_sL, ia_sL, oa_sL, la_sL, nx_sL, kd_sF, fi_sF, fr_sF, ln_sF, ia_sF, oa_sF, la_sF, nx_sF, kd_sG, fi_sG, fr_sG, ln_sG, ia_sG, oa_sG, la_sG, nx_sG, kd_sX, fi_sX, fr_sX, ln_sX, ia_sX, oa_sX, la_sX, nx_sX, kd_nO, fi_nO, fr_nO, ln_nO, ia_nO, oa_nO, la_nO, nx_nO, kd_nA, fi_nA, fr_nA, ln_nA, ia_nA, oa_nA, la_nA, nx_nA, va_up_s]
    by_cases e : j = i
    · subst e; rw [pk_us]; exact ⟨c, hc, rfl⟩
    · rw [pk_un e]; exact b9 j
theorem ng_lt : ∀ a, a < 501 → ((-100 : Int32) < -(nI a) ↔ a < 100) ∧ ((-9 : Int32) ≤ -(nI a) ↔ a < 10) ∧ (-(-(nI a))) = nI a ∧ (-(nI a) ≤ (-10 : Int32) ↔ 10 ≤ a) ∧ (-(nI a) ≤ (-100 : Int32) ↔ 100 ≤ a) ∧ (-(nI a) ≤ (-1000 : Int32) ↔ False) ∧ (-(nI a)) / 100 = -(nI (a / 100)) ∧ (-(nI a)) / 100 * 100 - (-(nI a)) = nI (a % 100) ∧ (0 < a → -(nI a) < 0) := by decide +kernel
def tx_sz (a : Nat) : Nat := if a < 10 then 1 else if a < 100 then 2 else 3
theorem J_size {w : mW} {a : Nat} (ha : a < 501) (d : Nat) : e_J6_stringSize_0f7a4_11 w (-(nI a)) (nI d) = some (nI (tx_sz a + d), w) := by
  obtain ⟨-, -, -, h10, h100, h1000, -⟩ := ng_lt a ha
  have st : ∀ f x2 x3, e_J6_stringSize_0f7a4_16 (f + 1) w (-(nI a)) (nI d) x2 x3 = if 10 ≤ x3 then some (10 + nI d, w) else (if -(nI a) ≤ x2 then (e_J6_stringSize_0f7a4_16 f w (-(nI a)) (nI d) (10 * x2) (x3 + 1)) else some (x3 + nI d, w)) := fun f x2 x3 => rfl
  unfold e_J6_stringSize_0f7a4_11 tx_sz
  rw [show m_N = 4997 + 1 + 1 + 1 from rfl, st, if_neg (by decide)]
  by_cases c1 : a < 10
  · rw [if_neg (fun q => by have := h10.mp q; omega), if_pos c1, show (1 : Int32) = nI 1 from rfl, nI_add]
  · rw [if_pos (h10.mpr (by omega)), if_neg c1, st, if_neg (by decide), show (10 : Int32) * -10 = -100 by decide]
    by_cases c2 : a < 100
    · rw [if_neg (fun q => by have := h100.mp q; omega), if_pos c2, show (1 : Int32) + 1 = nI 2 by decide, nI_add]
    · rw [if_pos (h100.mpr (by omega)), if_neg c2, st, if_neg (by decide), show (10 : Int32) * -100 = -1000 by decide, if_neg (fun q => h1000.mp q), show (1 : Int32) + 1 + 1 = nI 3 by decide, nI_add]
theorem tx_dg_sz {a : Nat} : (tx_dg a).length = tx_sz a := by
  unfold tx_dg tx_sz
  split
  · rfl
  · split <;> rfl
def tx_sn (e a : Nat) : List Nat := if e = 1 then 45 :: tx_dg a else tx_dg a
theorem SB_low {t0 : Nat × Nat × Nat × Nat} {w : mW} {ρ : Nat → Nat} {b ar : Nat} {T : List Nat} (h : SB w ρ b T) (har : m_fr w 1 0 b = some ar) {a : Nat} (ha : a < 100) {e : Nat} (hcap : T.length + e + tx_sz a ≤ m_ln w ar) (he : e ≤ 1) (f : Nat) :
    ∃ w', e_J6_getChars_ba4f3_22 t0 (f + 1) w (-(nI a)) ar (nI (T.length + e + tx_sz a)) (nI e) = some (nI T.length, w') ∧ SB w' ρ b T ∧ m_fr w' = m_fr w ∧ m_fi w' = m_fi w ∧ m_ln w' = m_ln w ∧ (∀ j, T.length + e + tx_sz a ≤ j → m_ia w' ar j = m_ia w ar j) ∧ (∀ i, i < (tx_sn e a).length → m_ia w' ar (T.length + i) = nI ((tx_sn e a).getD i 0)) ∧ ch ST2 w ρ w' ρ := by
  obtain ⟨a', b1, b2, b3, b4, b5, b6, b6', b7, b8, b9⟩ := id h
  have ea : ar = a' := Option.some.inj (har.symm.trans b4)
  subst ea
  obtain ⟨n1, n2, n3, -⟩ := ng_lt a (by omega)
  have k24 := b5.1
  -- the sign
  have sgn : ∀ w1 : mW, SB w1 ρ b T → m_fr w1 = m_fr w → m_fi w1 = m_fi w → m_ln w1 = m_ln w → ∃ w', e_J6_getChars_ba4f3_104 t0 w1 ar (nI (T.length + e)) (nI e) = some (nI T.length, w') ∧ SB w' ρ b T ∧ m_fr w' = m_fr w ∧ m_fi w' = m_fi w ∧ m_ln w' = m_ln w ∧ (∀ j, j ≠ T.length → m_ia w' ar j = m_ia w1 ar j) ∧ (e = 1 → m_ia w' ar T.length = nI 45) ∧ (e = 0 → m_ia w' ar T.length = m_ia w1 ar T.length) ∧ ch ST2 w1 ρ w' ρ := by
    intro w1 h1 f1 f2 f3
    have hk : m_kd w1 ar = 24 := by
      obtain ⟨a2, c1, c2, c3, c4, c5, -⟩ := h1
      have : ar = a2 := Option.some.inj ((by rw [f1]; exact har : m_fr w1 1 0 b = some ar).symm.trans c4)
      rw [this]; exact c5.1
    unfold e_J6_getChars_ba4f3_104 e_J6_getChars_ba4f3_118
    rcases (by omega : e = 0 ∨ e = 1) with e0 | e1
    · subst e0
      rw [if_pos (show nI 0 = 0 from nI_0)]
      exact ⟨w1, rfl, h1, f1, f2, f3, fun _ _ => rfl, fun q => (nomatch q), fun _ => rfl, ch_rfl⟩
    · subst e1
      obtain ⟨p1, p2⟩ := SB_put h1 (by rw [f1]; exact har) (i := T.length) (c := 45) (Nat.le_refl _) (by decide)
      rw [if_neg (show ¬ nI 1 = 0 by decide), pk_m1, m_g_t ⟨hk, nI_in (by rw [f3]; omega) (by rw [f3]; omega)⟩, m_l_s, nI_clamp (by omega), show vp_nar .byte 45 = nI 45 from (nar_b 45 (by decide)).1]
      refine ⟨_, rfl, p1, f1, f2, f3, fun j hj => ?_, fun _ => ?_, fun q => (nomatch q), p2⟩
      · simp only [kd_sI, fi_sI, fr_sI, ln_sI, ia_sI, oa_sI, la_sI, nx_sI, kd_sR, fi_sR, fr_sR, ln_sR, ia_sR, oa_sR, la_sR, nx_sR, kd_sA, fi_sA, fr_sA, ln_sA, ia_sA, oa_sA, la_sA, nx_sA, kd_sO, fi_sO, fr_sO, ln_sO, ia_sO, oa_sO, la_sO, nx_sO, kd_sL, fi_sL, fr_sL, ln_sL, ia_sL, oa_sL, la_sL, nx_sL, kd_sF, fi_sF, fr_sF, ln_sF, ia_sF, oa_sF, la_sF, nx_sF, kd_sG, fi_sG, fr_sG, ln_sG, ia_sG, oa_sG, la_sG, nx_sG, kd_sX, fi_sX, fr_sX, ln_sX, ia_sX, oa_sX, la_sX, nx_sX, kd_nO, fi_nO, fr_nO, ln_nO, ia_nO, oa_nO, la_nO, nx_nO, kd_nA, fi_nA, fr_nA, ln_nA, ia_nA, oa_nA, la_nA, nx_nA, va_up_s]; rw [pk_un hj]
      · simp only [kd_sI, fi_sI, fr_sI, ln_sI, ia_sI, oa_sI, la_sI, nx_sI, kd_sR, fi_sR, fr_sR, ln_sR, ia_sR, oa_sR, la_sR, nx_sR, kd_sA, fi_sA, fr_sA, ln_sA, ia_sA, oa_sA, la_sA, nx_sA, kd_sO, fi_sO, fr_sO, ln_sO, ia_sO, oa_sO, la_sO, nx_sO, kd_sL, fi_sL, fr_sL, ln_sL, ia_sL, oa_sL, la_sL, nx_sL, kd_sF, fi_sF, fr_sF, ln_sF, ia_sF, oa_sF, la_sF, nx_sF, kd_sG, fi_sG, fr_sG, ln_sG, ia_sG, oa_sG, la_sG, nx_sG, kd_sX, fi_sX, fr_sX, ln_sX, ia_sX, oa_sX, la_sX, nx_sX, kd_nO, fi_nO, fr_nO, ln_nO, ia_nO, oa_nO, la_nO, nx_nO, kd_nA, fi_nA, fr_nA, ln_nA, ia_nA, oa_nA, la_nA, nx_nA, va_up_s]; rw [pk_us]
  have step : e_J6_getChars_ba4f3_22 t0 (f + 1) w (-(nI a)) ar (nI (T.length + e + tx_sz a)) (nI e) = e_J6_getChars_ba4f3_22_b t0 (e_J6_getChars_ba4f3_22 t0 f) w (-(nI a)) ar (nI (T.length + e + tx_sz a)) (nI e) := rfl
  rw [step]
  unfold e_J6_getChars_ba4f3_22_b
  rw [if_pos (n1.mpr ha), n3, m_g_t (nI_in ha (by decide)), nI_clamp (by omega)]
  by_cases c1 : a < 10
  · have es : tx_sz a = 1 := if_pos c1
    have ed : tx_dg a = [48 + a] := if_pos c1
    obtain ⟨p1, p2⟩ := SB_put h har (i := T.length + e) (c := 48 + a) (by omega) (by omega)
    have em : a % 10 = a := Nat.mod_eq_of_lt c1
    rw [es] at hcap ⊢
    rw [pk_m1, m_g_t ⟨k24, nI_in (by omega) (by omega)⟩, m_l_s, nI_clamp (by omega), em, (nar_b (48 + a) (by omega)).1, if_pos (n2.mpr c1)]
    obtain ⟨w', y1, y2, y3, y4, y5, y6, y7, y8, y9⟩ := sgn (m_sA w ar (T.length + e) (nI (48 + a))) p1 rfl rfl rfl
    refine ⟨w', y1, y2, y3, y4, y5, fun j hj => ?_, fun i hi => ?_, ch_trans p2 y9⟩
    · rw [y6 j (by omega)]
      simp only [kd_sI, fi_sI, fr_sI, ln_sI, ia_sI, oa_sI, la_sI, nx_sI, kd_sR, fi_sR, fr_sR, ln_sR, ia_sR, oa_sR, la_sR, nx_sR, kd_sA, fi_sA, fr_sA, ln_sA, ia_sA, oa_sA, la_sA, nx_sA, kd_sO, fi_sO, fr_sO, ln_sO, ia_sO, oa_sO, la_sO, nx_sO, kd_sL, fi_sL, fr_sL, ln_sL, ia_sL, oa_sL, la_sL, nx_sL, kd_sF, fi_sF, fr_sF, ln_sF, ia_sF, oa_sF, la_sF, nx_sF, kd_sG, fi_sG, fr_sG, ln_sG, ia_sG, oa_sG, la_sG, nx_sG, kd_sX, fi_sX, fr_sX, ln_sX, ia_sX, oa_sX, la_sX, nx_sX, kd_nO, fi_nO, fr_nO, ln_nO, ia_nO, oa_nO, la_nO, nx_nO, kd_nA, fi_nA, fr_nA, ln_nA, ia_nA, oa_nA, la_nA, nx_nA, va_up_s]; rw [pk_un (by omega)]
    · unfold tx_sn at hi ⊢
      rw [ed] at hi ⊢
      rcases (by omega : e = 0 ∨ e = 1) with e0 | e1
      · subst e0
        rw [if_neg (by decide)] at hi ⊢
        have i0 : i = 0 := by simp at hi; omega
        subst i0
        show m_ia w' ar T.length = _
        rw [y8 rfl]
        simp only [kd_sI, fi_sI, fr_sI, ln_sI, ia_sI, oa_sI, la_sI, nx_sI, kd_sR, fi_sR, fr_sR, ln_sR, ia_sR, oa_sR, la_sR, nx_sR, kd_sA, fi_sA, fr_sA, ln_sA, ia_sA, oa_sA, la_sA, nx_sA, kd_sO, fi_sO, fr_sO, ln_sO, ia_sO, oa_sO, la_sO, nx_sO, kd_sL, fi_sL, fr_sL, ln_sL, ia_sL, oa_sL, la_sL, nx_sL, kd_sF, fi_sF, fr_sF, ln_sF, ia_sF, oa_sF, la_sF, nx_sF, kd_sG, fi_sG, fr_sG, ln_sG, ia_sG, oa_sG, la_sG, nx_sG, kd_sX, fi_sX, fr_sX, ln_sX, ia_sX, oa_sX, la_sX, nx_sX, kd_nO, fi_nO, fr_nO, ln_nO, ia_nO, oa_nO, la_nO, nx_nO, kd_nA, fi_nA, fr_nA, ln_nA, ia_nA, oa_nA, la_nA, nx_nA, va_up_s]; exact pk_us
      · subst e1
        rw [if_pos rfl] at hi ⊢
        have i2 : i = 0 ∨ i = 1 := by simp at hi; omega
        rcases i2 with i0 | i1
        · subst i0; exact y7 rfl
        · subst i1
          rw [y6 _ (by omega)]
          simp only [kd_sI, fi_sI, fr_sI, ln_sI, ia_sI, oa_sI, la_sI, nx_sI, kd_sR, fi_sR, fr_sR, ln_sR, ia_sR, oa_sR, la_sR, nx_sR, kd_sA, fi_sA, fr_sA, ln_sA, ia_sA, oa_sA, la_sA, nx_sA, kd_sO, fi_sO, fr_sO, ln_sO, ia_sO, oa_sO, la_sO, nx_sO, kd_sL, fi_sL, fr_sL, ln_sL, ia_sL, oa_sL, la_sL, nx_sL, kd_sF, fi_sF, fr_sF, ln_sF, ia_sF, oa_sF, la_sF, nx_sF, kd_sG, fi_sG, fr_sG, ln_sG, ia_sG, oa_sG, la_sG, nx_sG, kd_sX, fi_sX, fr_sX, ln_sX, ia_sX, oa_sX, la_sX, nx_sX, kd_nO, fi_nO, fr_nO, ln_nO, ia_nO, oa_nO, la_nO, nx_nO, kd_nA, fi_nA, fr_nA, ln_nA, ia_nA, oa_nA, la_nA, nx_nA, va_up_s]; exact pk_us
  · have es : tx_sz a = 2 := by unfold tx_sz; rw [if_neg c1, if_pos ha]
    have ed : tx_dg a = [48 + a / 10, 48 + a % 10] := by unfold tx_dg; rw [if_neg c1, if_pos ha]
    have hm : a % 10 < 10 := Nat.mod_lt _ (by decide)
    have hd : a / 10 < 10 := by omega
    obtain ⟨p1, p2⟩ := SB_put h har (i := T.length + e + 1) (c := 48 + a % 10) (by omega) (by omega)
    obtain ⟨r1, r2⟩ := SB_put p1 (by exact har) (i := T.length + e) (c := 48 + a / 10) (by omega) (by omega)
    rw [es] at hcap ⊢
    rw [pk_m1, m_g_t ⟨k24, nI_in (by omega) (by omega)⟩, m_l_s, nI_clamp (by omega), (nar_b (48 + a % 10) (by omega)).1, if_neg (fun q => c1 (n2.mp q)), m_g_t (nI_in2 ha (by decide)), pk_m1, m_g_t (by exact ⟨k24, nI_in (N := m_ln w ar) (by omega) (by omega)⟩), m_l_s, nI_clamp (by omega), (nar_b (48 + a / 10) (by omega)).1]
    obtain ⟨w', y1, y2, y3, y4, y5, y6, y7, y8, y9⟩ := sgn _ r1 rfl rfl rfl
    refine ⟨w', y1, y2, y3, y4, y5, fun j hj => ?_, fun i hi => ?_, ch_trans p2 (ch_trans r2 y9)⟩
    · rw [y6 j (by omega)]
      simp only [kd_sI, fi_sI, fr_sI, ln_sI, ia_sI, oa_sI, la_sI, nx_sI, kd_sR, fi_sR, fr_sR, ln_sR, ia_sR, oa_sR, la_sR, nx_sR, kd_sA, fi_sA, fr_sA, ln_sA, ia_sA, oa_sA, la_sA, nx_sA, kd_sO, fi_sO, fr_sO, ln_sO, ia_sO, oa_sO, la_sO, nx_sO, kd_sL, fi_sL, fr_sL, ln_sL, ia_sL, oa_sL, la_sL, nx_sL, kd_sF, fi_sF, fr_sF, ln_sF, ia_sF, oa_sF, la_sF, nx_sF, kd_sG, fi_sG, fr_sG, ln_sG, ia_sG, oa_sG, la_sG, nx_sG, kd_sX, fi_sX, fr_sX, ln_sX, ia_sX, oa_sX, la_sX, nx_sX, kd_nO, fi_nO, fr_nO, ln_nO, ia_nO, oa_nO, la_nO, nx_nO, kd_nA, fi_nA, fr_nA, ln_nA, ia_nA, oa_nA, la_nA, nx_nA, va_up_s]; rw [pk_un (by omega), pk_un (by omega)]
    · unfold tx_sn at hi ⊢
      rw [ed] at hi ⊢
      rcases (by omega : e = 0 ∨ e = 1) with e0 | e1
      · subst e0
        rw [if_neg (by decide)] at hi ⊢
        have i2 : i = 0 ∨ i = 1 := by simp at hi; omega
        rcases i2 with i0 | i1
        · subst i0
          show m_ia w' ar T.length = _
          rw [y8 rfl]
          simp only [kd_sI, fi_sI, fr_sI, ln_sI, ia_sI, oa_sI, la_sI, nx_sI, kd_sR, fi_sR, fr_sR, ln_sR, ia_sR, oa_sR, la_sR, nx_sR, kd_sA, fi_sA, fr_sA, ln_sA, ia_sA, oa_sA, la_sA, nx_sA, kd_sO, fi_sO, fr_sO, ln_sO, ia_sO, oa_sO, la_sO, nx_sO, kd_sL, fi_sL, fr_sL, ln_sL, ia_sL, oa_sL, la_sL, nx_sL, kd_sF, fi_sF, fr_sF, ln_sF, ia_sF, oa_sF, la_sF, nx_sF, kd_sG, fi_sG, fr_sG, ln_sG, ia_sG, oa_sG, la_sG, nx_sG, kd_sX, fi_sX, fr_sX, ln_sX, ia_sX, oa_sX, la_sX, nx_sX, kd_nO, fi_nO, fr_nO, ln_nO, ia_nO, oa_nO, la_nO, nx_nO, kd_nA, fi_nA, fr_nA, ln_nA, ia_nA, oa_nA, la_nA, nx_nA, va_up_s]; exact pk_us
        · subst i1
          rw [y6 _ (by omega)]
          simp only [kd_sI, fi_sI, fr_sI, ln_sI, ia_sI, oa_sI, la_sI, nx_sI, kd_sR, fi_sR, fr_sR, ln_sR, ia_sR, oa_sR, la_sR, nx_sR, kd_sA, fi_sA, fr_sA, ln_sA, ia_sA, oa_sA, la_sA, nx_sA, kd_sO, fi_sO, fr_sO, ln_sO, ia_sO, oa_sO, la_sO, nx_sO, kd_sL, fi_sL, fr_sL, ln_sL, ia_sL, oa_sL, la_sL, nx_sL, kd_sF, fi_sF, fr_sF, ln_sF, ia_sF, oa_sF, la_sF, nx_sF, kd_sG, fi_sG, fr_sG, ln_sG, ia_sG, oa_sG, la_sG, nx_sG, kd_sX, fi_sX, fr_sX, ln_sX, ia_sX, oa_sX, la_sX, nx_sX, kd_nO, fi_nO, fr_nO, ln_nO, ia_nO, oa_nO, la_nO, nx_nO, kd_nA, fi_nA, fr_nA, ln_nA, ia_nA, oa_nA, la_nA, nx_nA, va_up_s]; rw [pk_un (by omega)]; exact pk_us
      · subst e1
        rw [if_pos rfl] at hi ⊢
        have i2 : i = 0 ∨ i = 1 ∨ i = 2 := by simp at hi; omega
        rcases i2 with i0 | i1 | i1
        · subst i0; exact y7 rfl
        · subst i1
          rw [y6 _ (by omega)]
          simp only [kd_sI, fi_sI, fr_sI, ln_sI, ia_sI, oa_sI, la_sI, nx_sI, kd_sR, fi_sR, fr_sR, ln_sR, ia_sR, oa_sR, la_sR, nx_sR, kd_sA, fi_sA, fr_sA, ln_sA, ia_sA, oa_sA, la_sA, nx_sA, kd_sO, fi_sO, fr_sO, ln_sO, ia_sO, oa_sO, la_sO, nx_sO, kd_sL, fi_sL, fr_sL, ln_sL, ia_sL, oa_sL, la_sL, nx_sL, kd_sF, fi_sF, fr_sF, ln_sF, ia_sF, oa_sF, la_sF, nx_sF, kd_sG, fi_sG, fr_sG, ln_sG, ia_sG, oa_sG, la_sG, nx_sG, kd_sX, fi_sX, fr_sX, ln_sX, ia_sX, oa_sX, la_sX, nx_sX, kd_nO, fi_nO, fr_nO, ln_nO, ia_nO, oa_nO, la_nO, nx_nO, kd_nA, fi_nA, fr_nA, ln_nA, ia_nA, oa_nA, la_nA, nx_nA, va_up_s]; exact pk_us
        · subst i1
          rw [y6 _ (by omega)]
          simp only [kd_sI, fi_sI, fr_sI, ln_sI, ia_sI, oa_sI, la_sI, nx_sI, kd_sR, fi_sR, fr_sR, ln_sR, ia_sR, oa_sR, la_sR, nx_sR, kd_sA, fi_sA, fr_sA, ln_sA, ia_sA, oa_sA, la_sA, nx_sA, kd_sO, fi_sO, fr_sO, ln_sO, ia_sO, oa_sO, la_sO, nx_sO, kd_sL, fi_sL, fr_sL, ln_sL, ia_sL, oa_sL, la_sL, nx_sL, kd_sF, fi_sF, fr_sF, ln_sF, ia_sF, oa_sF, la_sF, nx_sF, kd_sG, fi_sG, fr_sG, ln_sG, ia_sG, oa_sG, la_sG, nx_sG, kd_sX, fi_sX, fr_sX, ln_sX, ia_sX, oa_sX, la_sX, nx_sX, kd_nO, fi_nO, fr_nO, ln_nO, ia_nO, oa_nO, la_nO, nx_nO, kd_nA, fi_nA, fr_nA, ln_nA, ia_nA, oa_nA, la_nA, nx_nA, va_up_s]; rw [pk_un (by omega)]; exact pk_us
/-- the digits are laid, from behind -/
theorem SB_chars {t0 : Nat × Nat × Nat × Nat} {w : mW} {ρ : Nat → Nat} {b ar : Nat} {T : List Nat} (h : SB w ρ b T) (har : m_fr w 1 0 b = some ar) {a : Nat} (ha : a < 501) {e : Nat} (hcap : T.length + e + tx_sz a ≤ m_ln w ar) (he : e ≤ 1) :
    ∃ w', e_J6_getChars_ba4f3_22 t0 m_N w (-(nI a)) ar (nI (T.length + e + tx_sz a)) (nI e) = some (nI T.length, w') ∧ SB w' ρ b T ∧ m_fr w' = m_fr w ∧ m_fi w' = m_fi w ∧ m_ln w' = m_ln w ∧ (∀ i, i < (tx_sn e a).length → m_ia w' ar (T.length + i) = nI ((tx_sn e a).getD i 0)) ∧ ch ST2 w ρ w' ρ := by
  rw [show m_N = 4998 + 1 + 1 from rfl]
  by_cases c : a < 100
  · obtain ⟨w', y1, y2, y3, y4, y5, y6, y7, y8⟩ := SB_low (t0 := t0) h har c hcap he (4998 + 1)
    exact ⟨w', y1, y2, y3, y4, y5, y7, y8⟩
  · obtain ⟨a', b1, b2, b3, b4, b5, b6, b6', b7, b8, b9⟩ := id h
    have ea : ar = a' := Option.some.inj (har.symm.trans b4)
    subst ea
    obtain ⟨n1, n2, n3, -, -, -, n7, n8, -⟩ := ng_lt a ha
    have k24 := b5.1
    have es : tx_sz a = 3 := by unfold tx_sz; rw [if_neg (by omega), if_neg c]
    have es2 : tx_sz (a / 100) = 1 := by unfold tx_sz; rw [if_pos (by omega)]
    have ed : tx_dg a = [48 + a / 100, 48 + a / 10 % 10, 48 + a % 10] := by unfold tx_dg; rw [if_neg (by omega), if_neg c]
    have ed2 : tx_dg (a / 100) = [48 + a / 100] := by unfold tx_dg; rw [if_pos (by omega)]
    have hm : a % 100 < 100 := Nat.mod_lt _ (by decide)
    have m1 : a % 100 % 10 = a % 10 := by omega
    have m2 : a % 100 / 10 = a / 10 % 10 := by omega
    have hm1 : a % 10 < 10 := Nat.mod_lt _ (by decide)
    have hm2 : a / 10 % 10 < 10 := Nat.mod_lt _ (by decide)
    obtain ⟨p1, p2⟩ := SB_put h har (i := T.length + e + 2) (c := 48 + a % 10) (by omega) (by omega)
    obtain ⟨r1, r2⟩ := SB_put p1 (by exact har) (i := T.length + e + 1) (c := 48 + a / 10 % 10) (by omega) (by omega)
    have step : e_J6_getChars_ba4f3_22 t0 (4998 + 1 + 1) w (-(nI a)) ar (nI (T.length + e + tx_sz a)) (nI e) = e_J6_getChars_ba4f3_22_b t0 (e_J6_getChars_ba4f3_22 t0 (4998 + 1)) w (-(nI a)) ar (nI (T.length + e + tx_sz a)) (nI e) := rfl
    rw [step]
    unfold e_J6_getChars_ba4f3_22_b
    rw [if_neg (fun q => c (n1.mp q)), m_g_t (by decide), n8, es, pk_m1, m_g_t (nI_in hm (by decide)), m_g_t ⟨k24, nI_in (by omega) (by omega)⟩, m_l_s, nI_clamp (show a % 100 < 2 ^ 31 by omega), nI_clamp (show T.length + e + 2 < 2 ^ 31 by omega), m1, (nar_b (48 + a % 10) (by omega)).1, m_g_t (nI_in2 hm (by decide)), pk_m1, m_g_t (by exact ⟨k24, nI_in (N := m_ln w ar) (by omega) (by omega)⟩), m_l_s, nI_clamp (show T.length + e + 1 < 2 ^ 31 by omega), m2, (nar_b (48 + a / 10 % 10) (by omega)).1, n7]
    obtain ⟨w', y1, y2, y3, y4, y5, y6, y7, y8⟩ := SB_low (t0 := t0) r1 (by exact har) (a := a / 100) (by omega) (e := e) (by rw [es2]; show _ ≤ m_ln w ar; omega) he 4998
    rw [es2] at y1 y6
    refine ⟨w', y1, y2, y3, y4, y5, fun i hi => ?_, ch_trans p2 (ch_trans r2 y8)⟩
    have v1 : m_ia w' ar (T.length + e + 1) = nI (48 + a / 10 % 10) := by
      rw [y6 _ (Nat.le_refl _)]
      simp only [kd_sI, fi_sI, fr_sI, ln_sI, ia_sI, oa_sI, la_sI, nx_sI, kd_sR, fi_sR, fr_sR, ln_sR, ia_sR, oa_sR, la_sR, nx_sR, kd_sA, fi_sA, fr_sA, ln_sA, ia_sA, oa_sA, la_sA, nx_sA, kd_sO, fi_sO, fr_sO, ln_sO, ia_sO, oa_sO, la_sO, nx_sO, kd_sL, fi_sL, fr_sL, ln_sL, ia_sL, oa_sL, la_sL, nx_sL, kd_sF, fi_sF, fr_sF, ln_sF, ia_sF, oa_sF, la_sF, nx_sF, kd_sG, fi_sG, fr_sG, ln_sG, ia_sG, oa_sG, la_sG, nx_sG, kd_sX, fi_sX, fr_sX, ln_sX, ia_sX, oa_sX, la_sX, nx_sX, kd_nO, fi_nO, fr_nO, ln_nO, ia_nO, oa_nO, la_nO, nx_nO, kd_nA, fi_nA, fr_nA, ln_nA, ia_nA, oa_nA, la_nA, nx_nA, va_up_s]; exact pk_us
    have v2 : m_ia w' ar (T.length + e + 2) = nI (48 + a % 10) := by
      rw [y6 _ (by omega)]
      simp only [kd_sI, fi_sI, fr_sI, ln_sI, ia_sI, oa_sI, la_sI, nx_sI, kd_sR, fi_sR, fr_sR, ln_sR, ia_sR, oa_sR, la_sR, nx_sR, kd_sA, fi_sA, fr_sA, ln_sA, ia_sA, oa_sA, la_sA, nx_sA, kd_sO, fi_sO, fr_sO, ln_sO, ia_sO, oa_sO, la_sO, nx_sO, kd_sL, fi_sL, fr_sL, ln_sL, ia_sL, oa_sL, la_sL, nx_sL, kd_sF, fi_sF, fr_sF, ln_sF, ia_sF, oa_sF, la_sF, nx_sF, kd_sG, fi_sG, fr_sG, ln_sG, ia_sG, oa_sG, la_sG, nx_sG, kd_sX, fi_sX, fr_sX, ln_sX, ia_sX, oa_sX, la_sX, nx_sX, kd_nO, fi_nO, fr_nO, ln_nO, ia_nO, oa_nO, la_nO, nx_nO, kd_nA, fi_nA, fr_nA, ln_nA, ia_nA, oa_nA, la_nA, nx_nA, va_up_s]; rw [pk_un (by omega)]; exact pk_us
    unfold tx_sn at hi y7 ⊢
    rw [ed] at hi ⊢
    rw [ed2] at y7
    rcases (by omega : e = 0 ∨ e = 1) with e0 | e1
    · subst e0
      rw [if_neg (by decide)] at hi y7 ⊢
      have i2 : i = 0 ∨ i = 1 ∨ i = 2 := by simp at hi; omega
      rcases i2 with i0 | i1 | i1
      · subst i0; exact y7 0 (by simp)
      · subst i1; exact v1
      · subst i1; exact v2
    · subst e1
      rw [if_pos rfl] at hi y7 ⊢
      have i2 : i = 0 ∨ i = 1 ∨ i = 2 ∨ i = 3 := by simp at hi; omega
      rcases i2 with i0 | i1 | i1 | i1
      · subst i0; exact y7 0 (by simp)
      · subst i1; exact y7 1 (by simp)
      · subst i1; exact v1
      · subst i1; exact v2
theorem nI_neg {a : Nat} (ha : a < 501) : (nI a < 0 ↔ False) ∧ (0 < a → (0 : Int32) ≤ -(nI a) → False) := ⟨⟨fun q => nI_pos (by omega) q, fun q => q.elim⟩, fun h q => by
  have := (ng_lt a ha).2.2.2.2.2.2.2.2 h
  exact Int32.not_le.mpr this q⟩
theorem sub600 : ∀ o, o < 600 → 100 ≤ o → nI o - 600 = -(nI (600 - o)) := by decide +kernel
theorem SB_int {t0 : Nat × Nat × Nat × Nat} {w : mW} {ρ : Nat → Nat} {b : Nat} {T : List Nat} (h : SB w ρ b T) {o : Nat} (ho : 100 ≤ o ∧ o ≤ 1100) (hT : T.length + (tx_op o).length ≤ 72) : ∃ w' ρ', e_J4_append_bf812 t0 w b (nI o - 600) = some (b, w') ∧ SB w' ρ' b (T ++ tx_op o) ∧ ch ST2 w ρ w' ρ' := by
  have hb := SB_kd h
  have f3 : m_fi w 1 3 b = nI T.length := by obtain ⟨_, _, _, q, _⟩ := h; exact q
  -- the sign and the digits
  have hs : ∃ e a, a < 501 ∧ e ≤ 1 ∧ tx_op o = tx_sn e a ∧ e_J6_stringSize_0f7a4 w (nI o - 600) = some (nI (tx_sz a + e), w) ∧ ∀ (w1 : mW) ar p, e_J6_getChars_ba4f3 t0 w1 (nI o - 600) p ar = e_J6_getChars_ba4f3_22 t0 m_N w1 (-(nI a)) ar p (nI e) := by
    by_cases c : o < 600
    · have e1 : nI o - 600 = -(nI (600 - o)) := sub600 o c ho.1
      have hneg : -(nI (600 - o)) < 0 := (ng_lt (600 - o) (by omega)).2.2.2.2.2.2.2.2 (by omega)
      refine ⟨1, 600 - o, by omega, Nat.le_refl _, ?_, ?_, fun w1 ar p => ?_⟩
      · unfold tx_op tx_sn; rw [if_neg (by omega), if_pos c, if_pos rfl]
      · unfold e_J6_stringSize_0f7a4
        rw [e1, if_pos hneg]
        exact J_size (by omega) 1
      · unfold e_J6_getChars_ba4f3 e_J6_getChars_ba4f3_12
        rw [e1, if_neg (Int32.not_le.mpr hneg), if_neg nb_10]
        rfl
    · have e1 : nI o - 600 = nI (o - 600) := pk_sub (a := o) (b := 600) (by omega)
      refine ⟨0, o - 600, by omega, Nat.zero_le _, ?_, ?_, fun w1 ar p => ?_⟩
      · unfold tx_op tx_sn; rw [if_neg (by omega), if_neg c, if_neg (by decide)]
      · unfold e_J6_stringSize_0f7a4
        rw [e1, if_neg (nI_pos (by omega))]
        exact J_size (by omega) 0
      · unfold e_J6_getChars_ba4f3 e_J6_getChars_ba4f3_12
        rw [e1, if_pos (nI_pos' (by omega)), if_pos rfl]
        rfl
  obtain ⟨e, a, ha, he, eop, esz, egc⟩ := hs
  have hlen : (tx_sn e a).length = e + tx_sz a := by
    unfold tx_sn
    rcases (by omega : e = 0 ∨ e = 1) with e0 | e1
    · subst e0; rw [if_neg (by decide), tx_dg_sz]; omega
    · subst e1; rw [if_pos rfl, List.length_cons, tx_dg_sz]; omega
  rw [eop] at hT ⊢
  have e2 : nI T.length + nI (tx_sz a + e) = nI (T.length + e + tx_sz a) := by rw [nI_add]; congr 1; omega
  obtain ⟨w1, ρ1, a', q1, q2, q3, q4, q5⟩ := SB_ensure h (k := T.length + e + tx_sz a) (by omega) (by omega)
  have b1 := SB_kd q2
  obtain ⟨w2, y1, y2, y3, y4, y5, y6, y7⟩ := SB_chars (t0 := t0) q2 q3 ha q4 he
  have c1 := SB_kd y2
  unfold e_J4_append_bf812 e_J5_append_c97b9
  rw [m_g_t hb.1, m_g_t hb.1, esz, m_b_s, m_g_t hb.1, f3, e2, q1, m_b_s, m_g_t b1.1, latin q2, m_b_s, if_neg nb_10, m_g_t b1.1, q3, m_o_s, egc, y1, m_b_s, m_g_t c1.1, m_l_s, m_b_s]
  obtain ⟨a2, d1, d2, d3, d4, d5, d6, d6', d7, d8, d9⟩ := y2
  have ea : a' = a2 := Option.some.inj ((by rw [y3]; exact q3 : m_fr w2 1 0 b = some a').symm.trans d4)
  subst ea
  refine ⟨_, ρ1, rfl, ⟨a', d1, ?_, ?_, d4, d5, ?_, d6', d7, fun i hi => ?_, d9⟩, ch_trans q5 (ch_trans y7 (ch_sI (by rw [d1.2.1]; exact Or.inl rfl)))⟩
  · simp only [kd_sI, fi_sI, fr_sI, ln_sI, ia_sI, oa_sI, la_sI, nx_sI, kd_sR, fi_sR, fr_sR, ln_sR, ia_sR, oa_sR, la_sR, nx_sR, kd_sA, fi_sA, fr_sA, ln_sA, ia_sA, oa_sA, la_sA, nx_sA, kd_sO, fi_sO, fr_sO, ln_sO, ia_sO, oa_sO, la_sO, nx_sO, kd_sL, fi_sL, fr_sL, ln_sL, ia_sL, oa_sL, la_sL, nx_sL, kd_sF, fi_sF, fr_sF, ln_sF, ia_sF, oa_sF, la_sF, nx_sF, kd_sG, fi_sG, fr_sG, ln_sG, ia_sG, oa_sG, la_sG, nx_sG, kd_sX, fi_sX, fr_sX, ln_sX, ia_sX, oa_sX, la_sX, nx_sX, kd_nO, fi_nO, fr_nO, ln_nO, ia_nO, oa_nO, la_nO, nx_nO, kd_nA, fi_nA, fr_nA, ln_nA, ia_nA, oa_nA, la_nA, nx_nA]; rw [u3_j (by decide)]; exact d2
  · simp only [kd_sI, fi_sI, fr_sI, ln_sI, ia_sI, oa_sI, la_sI, nx_sI, kd_sR, fi_sR, fr_sR, ln_sR, ia_sR, oa_sR, la_sR, nx_sR, kd_sA, fi_sA, fr_sA, ln_sA, ia_sA, oa_sA, la_sA, nx_sA, kd_sO, fi_sO, fr_sO, ln_sO, ia_sO, oa_sO, la_sO, nx_sO, kd_sL, fi_sL, fr_sL, ln_sL, ia_sL, oa_sL, la_sL, nx_sL, kd_sF, fi_sF, fr_sF, ln_sF, ia_sF, oa_sF, la_sF, nx_sF, kd_sG, fi_sG, fr_sG, ln_sG, ia_sG, oa_sG, la_sG, nx_sG, kd_sX, fi_sX, fr_sX, ln_sX, ia_sX, oa_sX, la_sX, nx_sX, kd_nO, fi_nO, fr_nO, ln_nO, ia_nO, oa_nO, la_nO, nx_nO, kd_nA, fi_nA, fr_nA, ln_nA, ia_nA, oa_nA, la_nA, nx_nA, u3_s]; rw [List.length_append, hlen]; congr 1; omega
  · rw [List.length_append, hlen]
    show _ ≤ m_ln w2 a'
    rw [y5]; omega
  · show m_ia w2 a' i = _
    rw [List.getD_eq_getElem?_getD]
    by_cases c : i < T.length
    · rw [List.getElem?_append_left c, ← List.getD_eq_getElem?_getD]
      exact d8 i c
    · rw [List.length_append] at hi
      rw [List.getElem?_append_right (by omega), ← List.getD_eq_getElem?_getD]
      have := y6 (i - T.length) (by omega)
      rw [show T.length + (i - T.length) = i by omega] at this
      exact this
