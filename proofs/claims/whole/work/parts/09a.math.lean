/-! the reference's numbers -/
def HX (u : xS) (σ : qS) : Prop :=
  (u.1 0 = nI (q_N σ) ∧ u.1 13 = nI (q_n σ) ∧ u.1 21 = nI (q_m σ)) ∧ (∀ k, k < q_N σ → u.2 1 k = nI ((q_O σ).getD k 0)) ∧
  (∀ k, k < q_N σ → u.2 2 k = nI (q_P σ k).length ∧ u.2 7 k = nI (q_C σ k) ∧ (∀ j, 1 ≤ j → j < 5 → u.2 9 (16 * j + k) = nI (q_R σ k j)) ∧ ∀ j (hj : j < (q_P σ k).length), u.2 3 (6 * k + j) = nI (q_P σ k)[j].1 ∧ u.2 4 (6 * k + j) = nI (q_P σ k)[j].2.1 ∧ u.2 5 (6 * k + j) = nI (q_P σ k)[j].2.2.1 ∧ u.2 6 (6 * k + j) = nI (q_P σ k)[j].2.2.2) ∧
  (∀ k, q_N σ ≤ k → k < 16 → u.2 2 k = 0 ∧ u.2 7 k = 0 ∧ ∀ j, 1 ≤ j → j < 5 → u.2 9 (16 * j + k) = 0) ∧
  (∀ k, k < 16 → u.2 8 k = nI (q_L σ k)) ∧ (∀ i, i < 8 → u.2 11 i = nI (q_S σ i) ∧ (q_S σ i ≠ 0 → u.2 10 i = q_V σ i) ∧ u.2 12 i = nI (nb_cnt (fun k => (q_r σ k).2.2.2.1.testBit i) (q_n σ))) ∧
  (∀ i, i < q_n σ → u.2 14 (i + 1) = nI (q_r σ i).1 ∧ u.2 15 (i + 1) = nI (q_r σ i).2.1 ∧ u.2 16 (i + 1) = nI (q_r σ i).2.2.2.1 ∧ u.2 18 (i + 1) = (if (q_r σ i).2.2.1 = none then 0 else 1) ∧ (∀ z, (q_r σ i).2.2.1 = some z → u.2 17 (i + 1) = z) ∧ u.2 19 (i + 1) = (if i ∈ q_G σ then 0 else 1) ∧ ∀ j, j < 8 → u.2 20 (8 * (i + 1) + j) = nI ((q_r σ i).2.2.2.2 j)) ∧
  (∀ i, q_n σ ≤ i → i < 400 → u.2 19 (i + 1) = 0) ∧ (u.2 16 0 = 0 ∧ u.2 18 0 = 0) ∧
  ∀ i, i < q_m σ → (∀ j, j < 8 → u.2 23 (8 * i + j) = nI ((q_I σ i).2.1 j) ∧ ((q_I σ i).2.1 j ≠ 0 → u.2 22 (8 * i + j) = (q_I σ i).1 j)) ∧ ∀ k, k < 16 → u.2 24 (16 * i + k) = nI ((q_I σ i).2.2 k)
/-- only what is scratch has changed -/
def xs (u u' : xS) : Prop := (∀ j, j < 25 → u'.1 j = u.1 j ∧ (j ≠ 20 → u'.2 j = u.2 j)) ∧ ∀ i, 8 ≤ i → u'.2 20 i = u.2 20 i
theorem nI_in2 {c N : Nat} (h : c < N) (hN : N < 2 ^ 31) : ¬ (nI c < 0 ∨ N ≤ c) := fun q => by
  rcases q with q | q
  · exact nI_pos (by omega) q
  · omega
theorem xA_s {u : xS} {j i k : Nat} {v : Int32} : (x_sA u j i v).2 j k = upd (u.2 j) i v k := by
  show va_up u.2 j (upd (u.2 j) i v) j k = _
  rw [va_up_s]
theorem xA_n {u : xS} {j i t : Nat} {v : Int32} (h : t ≠ j) : (x_sA u j i v).2 t = u.2 t := va_up_n h
theorem xI_n {u : xS} {j t : Nat} {v : Int32} (h : t ≠ j) : (x_sI u j v).1 t = u.1 t := pk_un h
theorem xI_s {u : xS} {j : Nat} {v : Int32} : (x_sI u j v).1 j = v := pk_us
theorem xs_rfl {u : xS} : xs u u := ⟨fun _ _ => ⟨rfl, fun _ => rfl⟩, fun _ _ => rfl⟩
theorem xs_trans {u u1 u2 : xS} (h : xs u u1) (g : xs u1 u2) : xs u u2 := ⟨fun j hj => ⟨(g.1 j hj).1.trans (h.1 j hj).1, fun e => ((g.1 j hj).2 e).trans ((h.1 j hj).2 e)⟩, fun i hi => (g.2 i hi).trans (h.2 i hi)⟩
theorem xs_sI {u : xS} {j : Nat} {v : Int32} (h : 25 ≤ j) : xs u (x_sI u j v) := ⟨fun k hk => ⟨pk_un (by omega), fun _ => rfl⟩, fun _ _ => rfl⟩
theorem xs_sA {u : xS} {j i : Nat} {v : Int32} (h : 25 ≤ j) : xs u (x_sA u j i v) := ⟨fun k hk => ⟨rfl, fun _ => va_up_n (by omega)⟩, fun _ _ => by
  show va_up u.2 j _ 20 _ = _
  rw [va_up_n (by omega)]⟩
theorem xs_s20 {u : xS} {i : Nat} {v : Int32} (h : i < 8) : xs u (x_sA u 20 i v) := ⟨fun k hk => ⟨rfl, fun e => va_up_n e⟩, fun k hk => by
  show va_up u.2 20 (upd (u.2 20) i v) 20 k = _
  rw [va_up_s, pk_un (by omega)]⟩
theorem HX_xs {u u' : xS} {σ : qS} (H : HX u σ) (g : xs u u') : HX u' σ := by
  obtain ⟨⟨a1, a2, a3⟩, b1, b2, b3, b4, b5, b6, b7, ⟨b8, b8'⟩, b9⟩ := H
  have e : ∀ j, j < 25 → j ≠ 20 → u'.2 j = u.2 j := fun j hj hn => (g.1 j hj).2 hn
  have f : ∀ j, j < 25 → u'.1 j = u.1 j := fun j hj => (g.1 j hj).1
  refine ⟨⟨by rw [f _ (by decide)]; exact a1, by rw [f _ (by decide)]; exact a2, by rw [f _ (by decide)]; exact a3⟩, fun k hk => ?_, fun k hk => ?_, fun k h1 h2 => ?_, fun k hk => ?_, fun i hi => ?_, fun i hi => ?_, fun i h1 h2 => ?_, ⟨?_, ?_⟩, fun i hi => ?_⟩
  · rw [e _ (by decide) (by decide)]; exact b1 k hk
  · rw [e 2 (by decide) (by decide), e 7 (by decide) (by decide), e 9 (by decide) (by decide), e 3 (by decide) (by decide), e 4 (by decide) (by decide), e 5 (by decide) (by decide), e 6 (by decide) (by decide)]; exact b2 k hk
  · rw [e 2 (by decide) (by decide), e 7 (by decide) (by decide), e 9 (by decide) (by decide)]; exact b3 k h1 h2
  · rw [e _ (by decide) (by decide)]; exact b4 k hk
  · rw [e 11 (by decide) (by decide), e 10 (by decide) (by decide), e 12 (by decide) (by decide)]; exact b5 i hi
  · obtain ⟨c1, c2, c3, c4, c5, c6, c7⟩ := b6 i hi
    rw [e 14 (by decide) (by decide), e 15 (by decide) (by decide), e 16 (by decide) (by decide), e 17 (by decide) (by decide), e 18 (by decide) (by decide), e 19 (by decide) (by decide)]
    exact ⟨c1, c2, c3, c4, c5, c6, fun j hj => by rw [g.2 _ (by omega)]; exact c7 j hj⟩
  · rw [e _ (by decide) (by decide)]; exact b7 i h1 h2
  · rw [e _ (by decide) (by decide)]; exact b8
  · rw [e _ (by decide) (by decide)]; exact b8'
  · rw [e 23 (by decide) (by decide), e 22 (by decide) (by decide), e 24 (by decide) (by decide)]; exact b9 i hi
/-! the reference's tests -/
theorem vb0 : vp_nar .boolean 0 = 0 := by decide +kernel
theorem vb1 : vp_nar .boolean 1 = 1 := by decide +kernel
theorem X_inY {u : xS} {k n : Nat} (hk : k < n) (hn : n < 2 ^ 31) : f_X7_in u (nI k) 0 (nI n - 1) = some (1, u) := by
  have e : nI n - 1 = nI (n - 1) := by rw [nb_1, pk_sub (by omega)]
  unfold f_X7_in f_X7_in_15
  rw [if_neg (nI_pos (by omega)), e, if_neg (nI_nlt (by omega) (by omega)), m_g_t vb1]
theorem X_inN {u : xS} {p : Int32} {n : Nat} (hn : n < 2 ^ 31) (h : p < 0 ∨ nI n ≤ p) : f_X7_in u p 0 (nI n - 1) = some (0, u) := by
  unfold f_X7_in f_X7_in_14 f_X7_in_15
  by_cases c : p < 0
  · rw [if_pos c, m_g_t vb0]
  · obtain ⟨j, hj, rfl⟩ := nI_of c
    have h2 := h.resolve_left c
    have h3 : n ≤ j := (nI_leI hn hj).mp h2
    have e : nI n - 1 < nI j := by
      rcases Nat.eq_zero_or_pos n with z | z
      · subst z
        have : ¬ nI j ≤ -1 := fun q => c (Int32.lt_of_le_of_lt q (by decide))
        exact Int32.not_le.mp this
      · rw [nb_1, pk_sub z]
        exact nI_lt (by omega) hj
    rw [if_neg c, if_pos e, m_g_t vb0]
theorem X_nameY {u : xS} {k : Nat} (hk : k < 8) : f_X7_isName u (nI k) = some (1, u) := by
  unfold f_X7_isName
  rw [show (7 : Int32) = nI 8 - 1 by decide +kernel, X_inY hk (by decide), m_b_s, m_g_t vb1]
theorem X_nameN {u : xS} {p : Int32} (h : p < 0 ∨ nI 8 ≤ p) : f_X7_isName u p = some (0, u) := by
  unfold f_X7_isName
  rw [show (7 : Int32) = nI 8 - 1 by decide +kernel, X_inN (by decide) h, m_b_s, m_g_t vb0]
theorem X_userY {u : xS} {k : Nat} (hk : k < 5) : f_X7_isUser u (nI k) = some (1, u) := by
  unfold f_X7_isUser
  rw [show (4 : Int32) = nI 5 - 1 by decide +kernel, X_inY hk (by decide), m_b_s, m_g_t vb1]
theorem X_userN {u : xS} {p : Int32} (h : p < 0 ∨ nI 5 ≤ p) : f_X7_isUser u p = some (0, u) := by
  unfold f_X7_isUser
  rw [show (4 : Int32) = nI 5 - 1 by decide +kernel, X_inN (by decide) h, m_b_s, m_g_t vb0]
theorem X_cellY {u : xS} {N k : Nat} (h0 : u.1 0 = nI N) (hk : k < N) (hN : N ≤ 16) : f_X7_isCell u (nI k) = some (1, u) := by
  unfold f_X7_isCell
  rw [h0, X_inY hk (by omega), m_b_s, m_g_t vb1]
theorem X_cellN {u : xS} {N : Nat} {p : Int32} (h0 : u.1 0 = nI N) (hN : N ≤ 16) (h : p < 0 ∨ nI N ≤ p) : f_X7_isCell u p = some (0, u) := by
  unfold f_X7_isCell
  rw [h0, X_inN (by omega) h, m_b_s, m_g_t vb0]
theorem X_goes0 {u : xS} {b c : Int32} : f_X7_goes u 0 b c = some (0, x_sI u 31 1) := by
  unfold f_X7_goes f_X7_goes_26 f_X7_goes_41
  rw [if_pos rfl, m_l_s, if_neg (by show ¬ upd u.1 31 1 31 = 0; rw [pk_us]; exact nb_10), m_g_t vb0]
theorem X_goes10 {u : xS} {c : Int32} : f_X7_goes u 1 0 c = some (0, x_sI u 31 2) := by
  unfold f_X7_goes f_X7_goes_26 f_X7_goes_41
  rw [if_neg nb_10, if_pos rfl, m_l_s, if_neg (by show ¬ upd u.1 31 2 31 = 0; rw [pk_us]; decide), m_g_t vb0]
theorem X_goes110 {u : xS} : f_X7_goes u 1 1 0 = some (0, x_sI u 31 3) := by
  unfold f_X7_goes f_X7_goes_26 f_X7_goes_41
  rw [if_neg nb_10, if_neg nb_10, if_pos rfl, m_l_s, if_neg (by show ¬ upd u.1 31 3 31 = 0; rw [pk_us]; decide), m_g_t vb0]
theorem X_goes1 {u : xS} : f_X7_goes u 1 1 1 = some (1, x_sI u 31 0) := by
  unfold f_X7_goes f_X7_goes_26 f_X7_goes_41
  rw [if_neg nb_10, if_neg nb_10, if_neg nb_10, m_l_s, if_pos (by show upd u.1 31 0 31 = 0; rw [pk_us]), m_g_t vb1]
theorem X_told {u : xS} {v : Int32} : f_X7_told u v = some (v, x_sI u 31 0) := rfl
theorem X_has {u : xS} {m j : Nat} (hj : j < 16) (hm : m < 2 ^ 31) : f_X7_has u (nI m) (nI j) = some (if m.testBit j = true then 1 else 0, u) := by
  have e : (nI m >>> (nI j &&& 31)) &&& 1 = nI (m / 2 ^ j % 2) := by
    rw [pk_shrN hm _ j ((by decide +kernel : ∀ j, j < 16 → ((nI j &&& 31).toBitVec.smod 32).toNat = j) j hj)]
    have := pk_andN (n := m / 2 ^ j) (Nat.lt_of_le_of_lt (Nat.div_le_self _ _) (by omega)) (m := 1) 1 (by decide)
    exact this
  have e2 : m.testBit j = decide (m / 2 ^ j % 2 = 1) := Nat.testBit_eq_decide_div_mod_eq
  unfold f_X7_has f_X7_has_14
  rw [e, e2]
  rcases Nat.mod_two_eq_zero_or_one (m / 2 ^ j) with c | c
  · rw [c, if_neg (by decide), m_g_t vb0, if_neg (by decide)]
  · rw [c, if_pos (by decide), m_g_t vb1, if_pos (by decide)]
theorem X_bit1 {m j : Nat} (hj : j < 16) (hm : m < 2 ^ 31) : (nI m >>> (nI j &&& 31)) &&& 1 = nI (if m.testBit j = true then 1 else 0) := by
  have e : (nI m >>> (nI j &&& 31)) &&& 1 = nI (m / 2 ^ j % 2) := by
    rw [pk_shrN hm _ j ((by decide +kernel : ∀ j, j < 16 → ((nI j &&& 31).toBitVec.smod 32).toNat = j) j hj)]
    have := pk_andN (n := m / 2 ^ j) (Nat.lt_of_le_of_lt (Nat.div_le_self _ _) (by omega)) (m := 1) 1 (by decide)
    exact this
  have e2 : m.testBit j = decide (m / 2 ^ j % 2 = 1) := Nat.testBit_eq_decide_div_mod_eq
  rw [e, e2]
  rcases Nat.mod_two_eq_zero_or_one (m / 2 ^ j) with c | c
  · rw [c, if_neg (by decide)]
  · rw [c, if_pos (by decide)]
theorem X_ix {p : Int32} {n : Nat} (hn : n < 2 ^ 31) : (p < 0 ∨ nI n ≤ p) ∨ ∃ k, k < n ∧ p = nI k := by
  rcases pk_ix p hn with h | h | h
  · exact Or.inl (Or.inl h)
  · exact Or.inl (Or.inr h)
  · exact Or.inr h
/-- an operand: a name, a number, or none -/
theorem X_op {p : Int32} : (∃ k, (k < 8 ∨ (100 ≤ k ∧ k ≤ 1100)) ∧ p = nI k ∧ (∀ w : mW, e_X6_isOperand w p = some (1, w)) ∧ ∀ u : xS, f_X7_isOperand u p = some (1, u)) ∨ ((∀ w : mW, e_X6_isOperand w p = some (0, w)) ∧ ∀ u : xS, f_X7_isOperand u p = some (0, u)) := by
  rcases X_ix (p := p) (n := 8) (by decide) with h | ⟨k, hk, rfl⟩
  · by_cases c1 : p < 100
    · refine Or.inr ⟨fun w => ?_, fun u => ?_⟩
      · unfold e_X6_isOperand e_X6_isOperand_24 e_X6_isOperand_25
        rw [nb_isNameN h, m_b_s, if_pos rfl, if_pos c1, m_g_t vb0]
      · unfold f_X7_isOperand f_X7_isOperand_24 f_X7_in f_X7_in_14 f_X7_in_15
        rw [X_nameN h, m_b_s, if_pos rfl, if_pos c1, m_g_t vb0, m_b_s, if_pos rfl, m_g_t vb0]
    · by_cases c2 : 1100 < p
      · refine Or.inr ⟨fun w => ?_, fun u => ?_⟩
        · unfold e_X6_isOperand e_X6_isOperand_24 e_X6_isOperand_25
          rw [nb_isNameN h, m_b_s, if_pos rfl, if_neg c1, if_pos c2, m_g_t vb0]
        · unfold f_X7_isOperand f_X7_isOperand_24 f_X7_in f_X7_in_14 f_X7_in_15
          rw [X_nameN h, m_b_s, if_pos rfl, if_neg c1, if_pos c2, m_g_t vb0, m_b_s, if_pos rfl, m_g_t vb0]
      · have h0 : ¬ p < 0 := fun q => c1 (Int32.lt_of_lt_of_le q (by decide))
        obtain ⟨j, hj, rfl⟩ := nI_of h0
        have e1 : 100 ≤ j := by
          have := Int32.not_lt.mp c1
          exact (nI_leI (a := 100) (by decide) hj).mp this
        have e2 : j ≤ 1100 := by
          have := Int32.not_lt.mp c2
          exact (nI_leI (b := 1100) hj (by decide)).mp this
        refine Or.inl ⟨j, Or.inr ⟨e1, e2⟩, rfl, fun w => ?_, fun u => ?_⟩
        · unfold e_X6_isOperand e_X6_isOperand_20 e_X6_isOperand_25
          rw [nb_isNameN h, m_b_s, if_pos rfl, if_neg c1, if_neg c2, m_g_t vb1]
        · unfold f_X7_isOperand f_X7_isOperand_19 f_X7_isOperand_24 f_X7_in f_X7_in_15
          rw [X_nameN h, m_b_s, if_pos rfl, if_neg c1, if_neg c2, m_g_t vb1, m_b_s, if_neg nb_10, m_g_t vb1]
  · refine Or.inl ⟨k, Or.inl hk, rfl, fun w => ?_, fun u => ?_⟩
    · unfold e_X6_isOperand e_X6_isOperand_20 e_X6_isOperand_25
      rw [nb_isName hk, m_b_s, if_neg nb_10, m_g_t vb1]
    · unfold f_X7_isOperand f_X7_isOperand_19 f_X7_isOperand_24
      rw [X_nameY hk, m_b_s, if_neg nb_10, m_g_t vb1]
theorem X_rightOf {u : xS} {σ : qS} (H : HX u σ) (hG : qG σ) {i k : Nat} (hi : i < 5) (hk : k < q_N σ) : f_X7_rightOf u (nI i) (nI k) = some (nI (q_R σ k i), u) := by
  have hN := hG.1
  unfold f_X7_rightOf f_X7_rightOf_19
  by_cases c : i = 0
  · subst c
    rw [if_pos nI_0, (hG.2.2.1 k hk).2.2.2.1]
    rfl
  · have e : 16 * nI i + nI k = nI (16 * i + k) := by rw [show (16 : Int32) = nI 16 from rfl, pk_mul, nI_add]
    rw [if_neg (nI_ne0 (by omega) (by omega)), e, m_g_t (nI_in (by omega) (by decide)), nI_clamp (by omega), (H.2.2.1 k hk).2.2.1 i (by omega) hi]
/-! the reference's reasons -/
def HY (u : xS) (σ : qS) (S : Nat → Nat) : Prop := u.1 0 = nI (q_N σ) ∧ (∀ k, k < 16 → u.2 8 k = nI (q_L σ k)) ∧ (∀ k, k < q_N σ → u.2 7 k = nI (q_C σ k)) ∧ (∀ i, i < 8 → u.2 11 i = nI (S i) ∧ S i < 1000) ∧ ∀ i, i < q_n σ → u.2 14 (i + 1) = nI (q_r σ i).1 ∧ u.2 16 (i + 1) = nI (q_r σ i).2.2.2.1 ∧ ∀ j, j < 8 → u.2 20 (8 * (i + 1) + j) = nI ((q_r σ i).2.2.2.2 j)
theorem HX_HY {u : xS} {σ : qS} (hG : qG σ) (H : HX u σ) : HY u σ (q_S σ) := ⟨H.1.1, H.2.2.2.2.1, fun k hk => (H.2.2.1 k hk).2.1, fun i hi => ⟨(H.2.2.2.2.2.1 i hi).1, by
  have h1 : q_S σ i ≤ q_n σ := (hG.2.2.2.2.1.1 i hi).1
  have h2 := hG.2.2.2.1
  omega⟩, fun i hi => by
  obtain ⟨x1, x2, x3, x4, x5, x6, x7⟩ := H.2.2.2.2.2.2.1 i hi
  exact ⟨x1, x3, x7⟩⟩
theorem HY_xs {u u' : xS} {σ : qS} {S : Nat → Nat} (H : HY u σ S) (g : xs u u') : HY u' σ S := by
  obtain ⟨b1, b2, b3, b4, b5⟩ := H
  have e : ∀ j, j < 25 → j ≠ 20 → u'.2 j = u.2 j := fun j hj hn => (g.1 j hj).2 hn
  rw [← (g.1 0 (by decide)).1] at b1
  refine ⟨b1, fun k hk => ?_, fun k hk => ?_, fun i hi => ?_, fun i hi => ?_⟩
  · rw [e 8 (by decide) (by decide)]; exact b2 k hk
  · rw [e 7 (by decide) (by decide)]; exact b3 k hk
  · rw [e 11 (by decide) (by decide)]; exact b4 i hi
  · rw [e 14 (by decide) (by decide), e 16 (by decide) (by decide)]
    exact ⟨(b5 i hi).1, (b5 i hi).2.1, fun j hj => by rw [g.2 _ (by omega)]; exact (b5 i hi).2.2 j hj⟩
theorem X_rests_loop {u : xS} {σ : qS} {S : Nat → Nat} (hG : qG σ) (H : HY u σ S) {R : Nat → Nat} (hR : ∀ c, c < q_N σ → u.2 30 c = nI (R c) ∧ R c < 8) {k : Nat} (hk : k < q_N σ) (h0 : 0 < q_L σ k) : ∀ (d f j : Nat) (b : Bool), d < f → j + d = 8 → b = z_any (z_re (q_r σ) (q_L σ) (q_n σ) (q_r σ (q_L σ k - 1)) (fun c => decide (0 < R c))) j →
    f_X7_rests_12 f u (nI k) (nI (q_L σ k)) (if b = true then 1 else 0) (nI j) = some (if z_any (z_re (q_r σ) (q_L σ) (q_n σ) (q_r σ (q_L σ k - 1)) (fun c => decide (0 < R c))) 8 = true then 1 else 0, u) := by
  have hN := hG.1
  have hn := hG.2.2.2.1
  have hLk := (hG.2.2.2.2.1.2 k)
  have hLn : q_L σ k ≤ q_n σ := hLk.1
  have hLc : (q_r σ (q_L σ k - 1)).1 = k := hLk.2.2 h0
  have hri := hG.2.2.2.2.2.1 (q_L σ k - 1) (by omega)
  obtain ⟨x1, x3, x7⟩ := H.2.2.2.2 (q_L σ k - 1) (by omega)
  have e1 : q_L σ k - 1 + 1 = q_L σ k := by omega
  rw [e1] at x3 x7
  intro d
  induction d with
  | zero =>
    intro f j b hf hj hb
    obtain ⟨f, rfl⟩ : ∃ q, f = q + 1 := ⟨f - 1, by omega⟩
    have hj8 : j = 8 := by omega
    subst hj8
    show f_X7_rests_12_b (f_X7_rests_12 f) _ _ _ _ _ = _
    unfold f_X7_rests_12_b
    rw [if_pos (by decide +kernel), ← hb]
    cases b
    · rw [if_neg (by decide), m_g_t vb0]
    · rw [if_pos rfl, m_g_t vb1]
  | succ d ih =>
    intro f j b hf hj hb
    obtain ⟨f, rfl⟩ : ∃ q, f = q + 1 := ⟨f - 1, by omega⟩
    have hj8 : j < 8 := by omega
    have hss := hri.2.2.2 j hj8
    show f_X7_rests_12_b (f_X7_rests_12 f) _ _ _ _ _ = _
    unfold f_X7_rests_12_b
    rw [if_neg (lge8 hj8), m_g_t (nI_in (by omega) (by decide)), nI_clamp (by omega), x3, X_has (by omega) (by have := hri.2.2.1; omega), m_b_s]
    unfold f_X7_rests_49 f_X7_rests_107 f_X7_rests_103 f_X7_rests_108
    have fin : ∀ b2 : Bool, b2 = (b || z_re (q_r σ) (q_L σ) (q_n σ) (q_r σ (q_L σ k - 1)) (fun c => decide (0 < R c)) j) → f_X7_rests_12 f u (nI k) (nI (q_L σ k)) (if b2 = true then 1 else 0) (nI j + 1) = some (if z_any (z_re (q_r σ) (q_L σ) (q_n σ) (q_r σ (q_L σ k - 1)) (fun c => decide (0 < R c))) 8 = true then 1 else 0, u) := by
      intro b2 hb2
      rw [nI_1]
      refine ih f (j + 1) b2 (by omega) (by omega) ?_
      rw [hb2, hb]
      rfl
    by_cases cb : (q_r σ (q_L σ k - 1)).2.2.2.1.testBit j = true
    · have e3 : 8 * nI (q_L σ k) + nI j = nI (8 * q_L σ k + j) := by rw [show (8 : Int32) = nI 8 from rfl, pk_mul, nI_add]
      rw [if_pos cb, if_neg nb_10, e3, m_g_t (nI_in (by omega) (by decide)), nI_clamp (by omega), x7 j hj8]
      have hz : z_re (q_r σ) (q_L σ) (q_n σ) (q_r σ (q_L σ k - 1)) (fun c => decide (0 < R c)) j = true ↔ 1 ≤ (q_r σ (q_L σ k - 1)).2.2.2.2 j ∧ (q_r σ ((q_r σ (q_L σ k - 1)).2.2.2.2 j - 1)).1 ≠ k ∧ (q_L σ (q_r σ ((q_r σ (q_L σ k - 1)).2.2.2.2 j - 1)).1 ≠ (q_r σ (q_L σ k - 1)).2.2.2.2 j ∨ 0 < R (q_r σ ((q_r σ (q_L σ k - 1)).2.2.2.2 j - 1)).1) := by
        rw [z_re_t, hLc, decide_eq_true_eq]
        constructor
        · rintro ⟨_, a2, _, a4, a5⟩; exact ⟨a2, a4, a5⟩
        · rintro ⟨a2, a4, a5⟩; exact ⟨cb, a2, by omega, a4, a5⟩
      generalize (q_r σ (q_L σ k - 1)).2.2.2.2 j = y at hz hss ⊢
      cases b with
      | true =>
        rw [if_pos rfl, if_neg nb_10]
        exact fin true (by rw [Bool.true_or])
      | false =>
        rw [if_neg (show ¬ false = true by decide), if_pos rfl]
        by_cases c1 : 1 ≤ y
        · obtain ⟨y1, -⟩ := H.2.2.2.2 (y - 1) (by omega)
          have ey : y - 1 + 1 = y := by omega
          rw [ey] at y1
          have hc := (hG.2.2.2.2.2.1 (y - 1) (by omega)).1
          rw [if_neg (nI_nle (by omega) (by omega)), m_g_t (nI_in (by omega) (by decide)), nI_clamp (by omega), y1]
          by_cases c2 : (q_r σ (y - 1)).1 = k
          · rw [if_pos (by rw [c2])]
            exact fin false (by rw [Bool.false_or]; exact (z_bool_ext ⟨fun q => (nomatch q), fun q => absurd c2 (hz.mp q).2.1⟩))
          · rw [if_neg (fun q => c2 ((nI_eq (by omega) (by omega)).mp q)), m_g_t (nI_in2 (c := y) (by omega) (by decide)), m_g_t (nI_in (by omega) (by decide)), nI_clamp (by omega), H.2.1 _ (by omega)]
            have hL2 := (hG.2.2.2.2.1.2 (q_r σ (y - 1)).1).1
            have hL3 : q_L σ (q_r σ (y - 1)).1 ≤ q_n σ := hL2
            by_cases c3 : q_L σ (q_r σ (y - 1)).1 = y
            · obtain ⟨r1, r2⟩ := hR _ hc
              rw [if_pos (by rw [c3]), m_g_t (nI_in2 (c := y) (by omega) (by decide)), m_g_t (nI_in2 (by omega) (by decide)), r1]
              by_cases c4 : R (q_r σ (y - 1)).1 = 0
              · rw [if_pos (by rw [c4]; decide)]
                exact fin false (by rw [Bool.false_or]; exact (z_bool_ext ⟨fun q => (nomatch q), fun q => by
                  rcases (hz.mp q).2.2 with z | z
                  · exact absurd c3 z
                  · omega⟩))
              · rw [if_neg (nI_nle (by omega) (by omega))]
                exact fin true (by rw [Bool.false_or]; exact (hz.mpr ⟨c1, c2, Or.inr (by omega)⟩).symm)
            · rw [if_neg (fun q => c3 ((nI_eq (by omega) (by omega)).mp q))]
              exact fin true (by rw [Bool.false_or]; exact (hz.mpr ⟨c1, c2, Or.inl c3⟩).symm)
        · have y0 : y = 0 := by omega
          rw [if_pos (by rw [y0]; decide)]
          exact fin false (by rw [Bool.false_or]; exact (z_bool_ext ⟨fun q => (nomatch q), fun q => absurd (hz.mp q).1 c1⟩))
    · rw [if_neg cb, if_pos rfl]
      have hz : z_re (q_r σ) (q_L σ) (q_n σ) (q_r σ (q_L σ k - 1)) (fun c => decide (0 < R c)) j = false := by
        unfold z_re
        rw [Bool.eq_false_iff.mpr cb, Bool.false_and]
      cases b with
      | true =>
        rw [if_pos rfl, if_neg nb_10]
        exact fin true (by rw [Bool.true_or])
      | false =>
        rw [if_neg (show ¬ false = true by decide), if_pos rfl, if_pos (by decide)]
        exact fin false (by rw [hz]; rfl)
theorem X_rests {u : xS} {σ : qS} {S : Nat → Nat} (hG : qG σ) (H : HY u σ S) {R : Nat → Nat} (hR : ∀ c, c < q_N σ → u.2 30 c = nI (R c) ∧ R c < 8) {k : Nat} (hk : k < q_N σ) (h0 : 0 < q_L σ k) : f_X7_rests u (nI k) = some (if z_rt (q_L σ) (q_r σ) (q_n σ) k (fun c => decide (0 < R c)) = true then 1 else 0, u) := by
  have hN := hG.1
  unfold f_X7_rests z_rt
  rw [m_g_t (nI_in (by omega) (by decide)), nI_clamp (by omega), H.2.1 k (by omega), decide_eq_true h0, Bool.true_and]
  exact X_rests_loop hG H hR hk h0 8 m_N 0 false (by decide) rfl rfl
theorem z_acc2 (a c e : Bool) : z_b e 1 ||| z_b a 2 ||| (if c = true then 2 else 0) = z_b e 1 ||| z_b (a || c) 2 := by
  cases a <;> cases c <;> cases e <;> decide
theorem X_own_loop {u : xS} {σ : qS} {S : Nat → Nat} (hG : qG σ) (H : HY u σ S) {k : Nat} (hk : k < q_N σ) (h0 : 0 < q_L σ k) (e : Bool) : ∀ (d f j : Nat), d < f → j + d = 8 →
    f_X7_ownReason_26 f u (nI (q_L σ k)) (nI (z_b e 1 ||| z_b (z_any (z_ch S (q_r σ (q_L σ k - 1))) j) 2)) (nI j) = some (nI (z_b e 1 ||| z_b (z_any (z_ch S (q_r σ (q_L σ k - 1))) 8) 2), u) := by
  have hN := hG.1
  have hn := hG.2.2.2.1
  have hLk := (hG.2.2.2.2.1.2 k)
  have hLn : q_L σ k ≤ q_n σ := hLk.1
  have hri := hG.2.2.2.2.2.1 (q_L σ k - 1) (by omega)
  obtain ⟨x1, x3, x7⟩ := H.2.2.2.2 (q_L σ k - 1) (by omega)
  have e1 : q_L σ k - 1 + 1 = q_L σ k := by omega
  rw [e1] at x3 x7
  intro d
  induction d with
  | zero =>
    intro f j hf hj
    obtain ⟨f, rfl⟩ : ∃ q, f = q + 1 := ⟨f - 1, by omega⟩
    have hj8 : j = 8 := by omega
    subst hj8
    show f_X7_ownReason_26_b (f_X7_ownReason_26 f) _ _ _ _ = _
    unfold f_X7_ownReason_26_b
    rw [if_pos (by decide +kernel)]
  | succ d ih =>
    intro f j hf hj
    obtain ⟨f, rfl⟩ : ∃ q, f = q + 1 := ⟨f - 1, by omega⟩
    have hj8 : j < 8 := by omega
    have hss := hri.2.2.2 j hj8
    have IH := ih f (j + 1) (by omega) (by omega)
    show f_X7_ownReason_26_b (f_X7_ownReason_26 f) _ _ _ _ = _
    unfold f_X7_ownReason_26_b
    rw [if_neg (lge8 hj8), m_g_t (nI_in (by omega) (by decide)), nI_clamp (by omega), x3, X_has (by omega) (by have := hri.2.2.1; omega), m_b_s]
    unfold f_X7_ownReason_74 f_X7_ownReason_75
    have fin : ∀ c : Bool, c = z_ch S (q_r σ (q_L σ k - 1)) j → f_X7_ownReason_26 f u (nI (q_L σ k)) (nI (z_b e 1 ||| z_b (z_any (z_ch S (q_r σ (q_L σ k - 1))) j) 2) ||| nI (if c = true then 2 else 0)) (nI j + 1) = some (nI (z_b e 1 ||| z_b (z_any (z_ch S (q_r σ (q_L σ k - 1))) 8) 2), u) := by
      intro c hc
      rw [fa_or, z_acc2, hc, nI_1]
      exact IH
    by_cases cb : (q_r σ (q_L σ k - 1)).2.2.2.1.testBit j = true
    · have e3 : 8 * nI (q_L σ k) + nI j = nI (8 * q_L σ k + j) := by rw [show (8 : Int32) = nI 8 from rfl, pk_mul, nI_add]
      obtain ⟨s1, s2⟩ := H.2.2.2.1 j hj8
      rw [if_pos cb, if_neg nb_10, e3, m_g_t (nI_in (by omega) (by decide)), m_g_t (nI_in (by omega) (by decide)), nI_clamp (by omega), nI_clamp (by omega), x7 j hj8, s1]
      have hz : z_ch S (q_r σ (q_L σ k - 1)) j = decide (S j ≠ (q_r σ (q_L σ k - 1)).2.2.2.2 j) := by
        unfold z_ch
        rw [cb, Bool.true_and]
      by_cases c1 : (q_r σ (q_L σ k - 1)).2.2.2.2 j = S j
      · rw [if_pos (by rw [c1])]
        exact fin false (by rw [hz]; symm; rw [decide_eq_false_iff_not]; exact fun q => q c1.symm)
      · rw [if_neg (fun q => c1 ((nI_eq (by omega) (by omega)).mp q))]
        exact fin true (by rw [hz]; symm; rw [decide_eq_true_eq]; exact fun q => c1 q.symm)
    · rw [if_neg cb, if_pos rfl]
      exact fin false (by unfold z_ch; rw [Bool.eq_false_iff.mpr cb, Bool.false_and])
theorem X_own {u : xS} {σ : qS} {S : Nat → Nat} (hG : qG σ) (H : HY u σ S) {k : Nat} (hk : k < q_N σ) (h0 : 0 < q_L σ k) : f_X7_ownReason u (nI k) = some (nI (z_ow S (q_L σ) (q_C σ) (q_r σ) k), u) := by
  have hN := hG.1
  have hn := hG.2.2.2.1
  have hLn : q_L σ k ≤ q_n σ := (hG.2.2.2.2.1.2 k).1
  have hC := (hG.2.2.1 k hk).2.2.1
  have L1 := X_own_loop hG H hk h0 true 8 m_N 0 (by decide) rfl
  have L0 := X_own_loop hG H hk h0 false 8 m_N 0 (by decide) rfl
  rw [show z_b true 1 ||| z_b (z_any (z_ch S (q_r σ (q_L σ k - 1))) 0) 2 = 1 by (show z_b true 1 ||| z_b false 2 = 1); decide, show nI 1 = 1 from rfl, show nI 0 = 0 from rfl] at L1
  rw [show z_b false 1 ||| z_b (z_any (z_ch S (q_r σ (q_L σ k - 1))) 0) 2 = 0 by (show z_b false 1 ||| z_b false 2 = 0); decide, show nI 0 = 0 from rfl] at L0
  unfold f_X7_ownReason f_X7_ownReason_22 z_ow
  rw [m_g_t (nI_in (by omega) (by decide)), m_g_t (nI_in (by omega) (by decide)), nI_clamp (by omega), H.2.1 k (by omega), H.2.2.1 k hk, if_neg (by omega : ¬ q_L σ k = 0)]
  by_cases c : q_L σ k ≤ q_C σ k
  · rw [if_neg (nI_nlt c (by omega)), decide_eq_true c]
    exact L1
  · rw [if_pos (nI_lt (by omega) (by omega)), decide_eq_false c]
    exact L0
/-- and what was thrown is as it was; and the stamps' row -/
def xv (u u' : xS) : Prop := xs u u' ∧ u'.1 31 = u.1 31
theorem xv_rfl {u : xS} : xv u u := ⟨xs_rfl, rfl⟩
theorem xv_trans {u u1 u2 : xS} (h : xv u u1) (g : xv u1 u2) : xv u u2 := ⟨xs_trans h.1 g.1, g.2.trans h.2⟩
theorem xv_sI {u : xS} {j : Nat} {v : Int32} (h : 25 ≤ j ∧ j ≠ 31) : xv u (x_sI u j v) := ⟨xs_sI h.1, xI_n (fun e => h.2 e.symm)⟩
theorem xv_sA {u : xS} {j i : Nat} {v : Int32} (h : 25 ≤ j) : xv u (x_sA u j i v) := ⟨xs_sA h, rfl⟩
theorem xv_s20 {u : xS} {i : Nat} {v : Int32} (h : i < 8) : xv u (x_sA u 20 i v) := ⟨xs_s20 h, rfl⟩
def xt (u u' : xS) : Prop := xs u u' ∧ u'.1 31 = u.1 31 ∧ u'.2 20 = u.2 20
theorem xt_rfl {u : xS} : xt u u := ⟨xs_rfl, rfl, rfl⟩
theorem xt_trans {u u1 u2 : xS} (h : xt u u1) (g : xt u1 u2) : xt u u2 := ⟨xs_trans h.1 g.1, g.2.1.trans h.2.1, g.2.2.trans h.2.2⟩
theorem xt_sI {u : xS} {j : Nat} {v : Int32} (h : 25 ≤ j ∧ j ≠ 31) : xt u (x_sI u j v) := ⟨xs_sI h.1, xI_n (fun e => h.2 e.symm), rfl⟩
theorem xt_sA {u : xS} {j i : Nat} {v : Int32} (h : 25 ≤ j) : xt u (x_sA u j i v) := ⟨xs_sA h, rfl, xA_n (by omega)⟩
theorem xt_v {u u' : xS} (h : xt u u') : xv u u' := ⟨h.1, h.2.1⟩
/-- only rows have changed -/
def xz (u u' : xS) : Prop := xs u u' ∧ u'.1 = u.1
theorem xz_rfl {u : xS} : xz u u := ⟨xs_rfl, rfl⟩
theorem xz_trans {u u1 u2 : xS} (h : xz u u1) (g : xz u1 u2) : xz u u2 := ⟨xs_trans h.1 g.1, g.2.trans h.2⟩
theorem xz_sA {u : xS} {j i : Nat} {v : Int32} (h : 25 ≤ j) : xz u (x_sA u j i v) := ⟨xs_sA h, rfl⟩
/-- one round over the cells -/
theorem X_reasons_round {σ : qS} {S : Nat → Nat} (hG : qG σ) {t : Nat} (k42 : xS → Int32 → Option (Unit × xS)) : ∀ (d f k : Nat) (u : xS) (R : Nat → Nat), d < f → k + d = q_N σ → HY u σ S → (∀ c, c < q_N σ → u.2 30 c = nI (R c) ∧ R c < 8) → z_In S (q_L σ) (q_C σ) (q_r σ) (q_n σ) (q_N σ) t R → (∀ c, c < k → z_rk (q_L σ) (q_N σ) c < t + 1 → R c = z_fr S (q_L σ) (q_C σ) (q_r σ) (q_n σ) c) →
    ∃ u' R', f_X7_reasons_50 k42 f u (nI t) (nI k) = k42 u' (nI t + 1) ∧ xz u u' ∧ HY u' σ S ∧ (∀ c, c < q_N σ → u'.2 30 c = nI (R' c) ∧ R' c < 8) ∧ z_In S (q_L σ) (q_C σ) (q_r σ) (q_n σ) (q_N σ) (t + 1) R' := by
  have hN := hG.1
  have hn := hG.2.2.2.1
  have hL : ∀ k, q_L σ k ≤ q_n σ ∧ (q_N σ ≤ k → q_L σ k = 0) ∧ (0 < q_L σ k → (q_r σ (q_L σ k - 1)).1 = k) := hG.2.2.2.2.1.2
  intro d
  induction d with
  | zero =>
    intro f k u R hf hk H hR hI hd
    obtain ⟨f, rfl⟩ : ∃ q, f = q + 1 := ⟨f - 1, by omega⟩
    refine ⟨u, R, ?_, xz_rfl, H, hR, fun c hc => ⟨(hI c hc).1, fun h => hd c (by omega) h⟩⟩
    show f_X7_reasons_50_b k42 (f_X7_reasons_50 k42 f) _ _ _ = _
    unfold f_X7_reasons_50_b
    rw [H.1, if_pos (nI_le (by omega) (by omega))]
  | succ d ih =>
    intro f k u R hf hk H hR hI hd
    obtain ⟨f, rfl⟩ : ∃ q, f = q + 1 := ⟨f - 1, by omega⟩
    have hkN : k < q_N σ := by omega
    have hLk := hL k
    show ∃ u' R', f_X7_reasons_50_b k42 (f_X7_reasons_50 k42 f) _ _ _ = _ ∧ _
    unfold f_X7_reasons_50_b f_X7_reasons_86 f_X7_reasons_87
    rw [H.1, if_neg (nI_ge hkN (by omega)), m_g_t (nI_in (by omega) (by decide)), m_g_t (nI_in (by omega) (by decide)), nI_clamp (by omega), H.2.1 k (by omega), (hR k hkN).1]
    -- the store of the k-th reason
    have key : ∀ b : Bool, b = z_rt (q_L σ) (q_r σ) (q_n σ) k (fun c => decide (0 < R c)) → ∃ u' R', (m_g (¬ (nI k < 0 ∨ 16 ≤ k)) <| m_l (x_sA u 30 k (nI (R k) ||| (if b = true then 4 else 0))) fun u619 => f_X7_reasons_50 k42 f u619 (nI t) (nI k + 1)) = k42 u' (nI t + 1) ∧ xz u u' ∧ HY u' σ S ∧ (∀ c, c < q_N σ → u'.2 30 c = nI (R' c) ∧ R' c < 8) ∧ z_In S (q_L σ) (q_C σ) (q_r σ) (q_n σ) (q_N σ) (t + 1) R' := by
      intro b hb
      rw [m_g_t (nI_in2 (by omega) (by decide)), m_l_s, nI_1]
      have e4 : nI (R k) ||| (if b = true then (4 : Int32) else 0) = nI (R k ||| z_b b 4) := by
        rw [show (if b = true then (4 : Int32) else 0) = nI (z_b b 4) by cases b <;> rfl, fa_or]
      rw [e4]
      have hst := z_step (S := S) (C := q_C σ) (N := q_N σ) (n := q_n σ) (L := q_L σ) (r := q_r σ) (fun k h1 _ => (hL k).2.2 h1) (fun i hi => (hG.2.2.2.2.2.1 i hi).2.2.2) (fun k hk => (hL k).1) (fun i hi => (hG.2.2.2.2.2.1 i hi).1) hI hkN
      rw [← hb] at hst
      have hlt : R k ||| z_b b 4 < 8 := Nat.or_lt_two_pow (n := 3) (hR k hkN).2 (by cases b <;> decide)
      have g : xz u (x_sA u 30 k (nI (R k ||| z_b b 4))) := xz_sA (by decide)
      obtain ⟨u', R', q1, q2, q3, q4, q5⟩ := ih f (k + 1) (x_sA u 30 k (nI (R k ||| z_b b 4))) (va_up R k (R k ||| z_b b 4)) (by omega) (by omega) (HY_xs H g.1) (fun c hc => by
          rw [xA_s]
          by_cases e : c = k
          · subst e
            rw [pk_us, va_up_s]
            exact ⟨rfl, hlt⟩
          · rw [pk_un e, va_up_n e]
            exact hR c hc) (fun c hc => by
          by_cases e : c = k
          · subst e
            rw [va_up_s]
            exact ⟨hst.1, fun h => hst.2 (by omega)⟩
          · rw [va_up_n e]
            exact hI c hc) (fun c hc h => by
          by_cases e : c = k
          · subst e
            rw [va_up_s]
            exact hst.2 h
          · rw [va_up_n e]
            exact hd c (by omega) h)
      exact ⟨u', R', q1, xz_trans g q2, q3, q4, q5⟩
    by_cases c0 : q_L σ k = 0
    · rw [if_pos (by rw [c0]; decide)]
      exact key false (by unfold z_rt; rw [decide_eq_false (by omega), Bool.false_and])
    · rw [if_neg (nI_nle (by omega) (by omega)), X_rests hG H hR hkN (by omega), m_b_s]
      by_cases c1 : z_rt (q_L σ) (q_r σ) (q_n σ) k (fun c => decide (0 < R c)) = true
      · rw [if_pos c1, if_neg nb_10]
        exact key true c1.symm
      · rw [if_neg c1, if_pos rfl]
        exact key false (Bool.eq_false_iff.mpr c1).symm
theorem X_reasons_rounds {σ : qS} {S : Nat → Nat} (hG : qG σ) : ∀ (d f t : Nat) (u : xS) (R : Nat → Nat), d < f → t + d = 16 → HY u σ S → (∀ c, c < q_N σ → u.2 30 c = nI (R c) ∧ R c < 8) → z_In S (q_L σ) (q_C σ) (q_r σ) (q_n σ) (q_N σ) t R →
    ∃ u', f_X7_reasons_42 f u (nI t) = some ((), u') ∧ xz u u' ∧ (∀ c, c < q_N σ → u'.2 30 c = nI (z_fr S (q_L σ) (q_C σ) (q_r σ) (q_n σ) c)) := by
  have hN := hG.1
  intro d
  induction d with
  | zero =>
    intro f t u R hf ht H hR hI
    obtain ⟨f, rfl⟩ : ∃ q, f = q + 1 := ⟨f - 1, by omega⟩
    have ht16 : t = 16 := by omega
    subst ht16
    refine ⟨u, ?_, xz_rfl, fun c hc => ?_⟩
    · show f_X7_reasons_42_b (f_X7_reasons_42 f) _ _ = _
      unfold f_X7_reasons_42_b
      rw [if_pos (by decide +kernel)]
    · rw [← (hI c hc).2 (by have := z_rk_lt (L := q_L σ) hc; omega)]
      exact (hR c hc).1
  | succ d ih =>
    intro f t u R hf ht H hR hI
    obtain ⟨f, rfl⟩ : ∃ q, f = q + 1 := ⟨f - 1, by omega⟩
    obtain ⟨u1, R1, q1, q2, q3, q4, q5⟩ := X_reasons_round hG (t := t) (f_X7_reasons_42 f) (q_N σ) m_N 0 u R (by show _ < 5000; omega) (Nat.zero_add _) H hR hI (fun c hc => absurd hc (by omega))
    obtain ⟨u2, r1, r2, r3⟩ := ih f (t + 1) u1 R1 (by omega) (by omega) q3 q4 q5
    refine ⟨u2, ?_, xz_trans q2 r2, r3⟩
    show f_X7_reasons_42_b (f_X7_reasons_42 f) _ _ = _
    unfold f_X7_reasons_42_b
    rw [if_neg (lge16 (by omega))]
    rw [nI_1] at q1
    exact q1.trans r1
theorem X_reasons_own {σ : qS} {S : Nat → Nat} (hG : qG σ) : ∀ (d f k : Nat) (u : xS), d < f → k + d = q_N σ → HY u σ S → (∀ c, c < k → u.2 30 c = nI (z_ow S (q_L σ) (q_C σ) (q_r σ) c)) →
    ∃ u', f_X7_reasons_2 f u (nI k) = some ((), u') ∧ xz u u' ∧ (∀ c, c < q_N σ → u'.2 30 c = nI (z_fr S (q_L σ) (q_C σ) (q_r σ) (q_n σ) c)) := by
  have hN := hG.1
  have hn := hG.2.2.2.1
  have hL : ∀ k, q_L σ k ≤ q_n σ ∧ (q_N σ ≤ k → q_L σ k = 0) ∧ (0 < q_L σ k → (q_r σ (q_L σ k - 1)).1 = k) := hG.2.2.2.2.1.2
  intro d
  induction d with
  | zero =>
    intro f k u hf hk H hR
    obtain ⟨f, rfl⟩ : ∃ q, f = q + 1 := ⟨f - 1, by omega⟩
    obtain ⟨u2, r1, r2, r3⟩ := X_reasons_rounds hG 16 m_N 0 u (fun c => z_ow S (q_L σ) (q_C σ) (q_r σ) c) (by decide) rfl H (fun c hc => ⟨hR c (by omega), by
      unfold z_ow z_b
      split
      · decide
      · cases decide (q_L σ c ≤ q_C σ c) <;> cases z_any (z_ch S (q_r σ (q_L σ c - 1))) 8 <;> decide⟩) (fun c hc => ⟨Or.inl rfl, fun h => absurd h (by omega)⟩)
    refine ⟨u2, ?_, r2, r3⟩
    show f_X7_reasons_2_b (f_X7_reasons_2 f) _ _ = _
    unfold f_X7_reasons_2_b
    rw [H.1, if_pos (nI_le (by omega) (by omega))]
    exact r1
  | succ d ih =>
    intro f k u hf hk H hR
    obtain ⟨f, rfl⟩ : ∃ q, f = q + 1 := ⟨f - 1, by omega⟩
    have hkN : k < q_N σ := by omega
    show ∃ u', f_X7_reasons_2_b (f_X7_reasons_2 f) _ _ = _ ∧ _
    unfold f_X7_reasons_2_b f_X7_reasons_33
    rw [H.1, if_neg (nI_ge hkN (by omega)), m_g_t (nI_in (by omega) (by decide)), nI_clamp (by omega), H.2.1 k (by omega)]
    have key : ∃ u', (m_g (¬ (nI k < 0 ∨ 16 ≤ k)) <| m_l (x_sA u 30 k (nI (z_ow S (q_L σ) (q_C σ) (q_r σ) k))) fun u208 => f_X7_reasons_2 f u208 (nI k + 1)) = some ((), u') ∧ xz u u' ∧ (∀ c, c < q_N σ → u'.2 30 c = nI (z_fr S (q_L σ) (q_C σ) (q_r σ) (q_n σ) c)) := by
      rw [m_g_t (nI_in2 (by omega) (by decide)), m_l_s, nI_1]
      have g : xz u (x_sA u 30 k (nI (z_ow S (q_L σ) (q_C σ) (q_r σ) k))) := xz_sA (by decide)
      obtain ⟨u', q1, q2, q3⟩ := ih f (k + 1) _ (by omega) (by omega) (HY_xs H g.1) (fun c hc => by
        rw [xA_s]
        by_cases e : c = k
        · subst e
          rw [pk_us]
        · rw [pk_un e]
          exact hR c (by omega))
      exact ⟨u', q1, xz_trans g q2, q3⟩
    by_cases c0 : q_L σ k = 0
    · rw [if_pos (by rw [c0]; exact nI_0)]
      have e : z_ow S (q_L σ) (q_C σ) (q_r σ) k = 0 := if_pos c0
      rw [e] at key
      exact key
    · have hLk := (hL k).1
      rw [if_neg (nI_ne0 (by omega) (by omega)), X_own hG H hkN (by omega), m_b_s]
      exact key
theorem X_reasons {u : xS} {σ : qS} {S : Nat → Nat} (hG : qG σ) (H : HY u σ S) : ∃ u', f_X7_reasons u = some ((), u') ∧ xz u u' ∧ (∀ c, c < q_N σ → u'.2 30 c = nI (z_fr S (q_L σ) (q_C σ) (q_r σ) (q_n σ) c)) := by
  have hN := hG.1
  exact X_reasons_own hG (q_N σ) m_N 0 u (by show _ < 5000; omega) (Nat.zero_add _) H (fun c hc => absurd hc (by omega))
theorem qG_hL {σ : qS} (hG : qG σ) : ∀ k, 0 < q_L σ k → q_L σ k ≤ q_n σ → (q_r σ (q_L σ k - 1)).1 = k := fun k h _ => (hG.2.2.2.2.1.2 k).2.2 h
theorem qG_hs {σ : qS} (hG : qG σ) : ∀ i, i < q_n σ → ∀ j, j < 8 → (q_r σ i).2.2.2.2 j ≤ i := fun i hi => (hG.2.2.2.2.2.1 i hi).2.2.2
/-- the set of stale cells -/
theorem X_stale_loop {u : xS} {σ : qS} {S : Nat → Nat} (hG : qG σ) (h0 : u.1 0 = nI (q_N σ)) (h : ∀ c, c < q_N σ → u.2 30 c = nI (z_fr S (q_L σ) (q_C σ) (q_r σ) (q_n σ) c)) : ∀ (d f k m : Nat), d < f → k + d = q_N σ → m < 2 ^ k → (∀ c, c < k → (m.testBit c = true ↔ z_fr S (q_L σ) (q_C σ) (q_r σ) (q_n σ) c ≠ 0)) →
    f_X7_staleOnes_8 f u (nI m) (nI k) = some (nI (z_st S (q_L σ) (q_C σ) (q_r σ) (q_n σ) (q_n σ)), u) := by
  have hN := hG.1
  intro d
  induction d with
  | zero =>
    intro f k m hf hk hm hb
    obtain ⟨f, rfl⟩ : ∃ q, f = q + 1 := ⟨f - 1, by omega⟩
    show f_X7_staleOnes_8_b (f_X7_staleOnes_8 f) _ _ _ = _
    unfold f_X7_staleOnes_8_b
    rw [h0, if_pos (nI_le (by omega) (by omega))]
    congr 2
    have hk2 : k = q_N σ := by omega
    have e : m = z_st S (q_L σ) (q_C σ) (q_r σ) (q_n σ) (q_n σ) := by
      apply Nat.eq_of_testBit_eq
      intro c
      by_cases hc : c < q_N σ
      · apply z_bool_ext
        rw [hb c (by omega), z_stale_iff (qG_hL hG) (qG_hs hG) (hG.2.2.2.2.1.2 c).1]
      · rw [Nat.testBit_lt_two_pow (Nat.lt_of_lt_of_le hm (Nat.pow_le_pow_right (by decide) (by omega))), Nat.testBit_lt_two_pow (Nat.lt_of_lt_of_le (z_st_lt (N := q_N σ) (fun k hk => (hG.2.2.2.2.2.1 k hk).1)) (Nat.pow_le_pow_right (by decide) (by omega)))]
    rw [e]
  | succ d ih =>
    intro f k m hf hk hm hb
    obtain ⟨f, rfl⟩ : ∃ q, f = q + 1 := ⟨f - 1, by omega⟩
    have hkN : k < q_N σ := by omega
    have hlt := z_fr_lt (S := S) (L := q_L σ) (C := q_C σ) (r := q_r σ) (n := q_n σ) (k := k)
    show f_X7_staleOnes_8_b (f_X7_staleOnes_8 f) _ _ _ = _
    unfold f_X7_staleOnes_8_b f_X7_staleOnes_33
    rw [h0, if_neg (nI_ge hkN (by omega)), m_g_t (nI_in (by omega) (by decide)), nI_clamp (by omega), h k hkN]
    by_cases c0 : z_fr S (q_L σ) (q_C σ) (q_r σ) (q_n σ) k = 0
    · rw [if_pos (by rw [c0]; decide), nI_1, show (0 : Int32) = nI 0 from rfl, fa_or, Nat.or_zero]
      refine ih f (k + 1) m (by omega) (by omega) (Nat.lt_of_lt_of_le hm (Nat.pow_le_pow_right (by decide) (by omega))) (fun c hc => ?_)
      by_cases e : c = k
      · subst e
        rw [Nat.testBit_lt_two_pow hm]
        simp [c0]
      · exact hb c (by omega)
    · rw [if_neg (nI_nle (by omega) (by omega)), nb_set (by omega), nI_1]
      refine ih f (k + 1) _ (by omega) (by omega) (nb_or_lt (Nat.lt_of_lt_of_le hm (Nat.pow_le_pow_right (by decide) (by omega))) (by omega)) (fun c hc => ?_)
      rw [nb_or_bit]
      by_cases e : c = k
      · subst e
        simp [c0]
      · rw [decide_eq_false (fun q => e q.symm), Bool.or_false]
        exact hb c (by omega)
theorem X_staleOnes {u : xS} {σ : qS} {S : Nat → Nat} (hG : qG σ) (H : HY u σ S) : ∃ u', f_X7_staleOnes u = some (nI (z_st S (q_L σ) (q_C σ) (q_r σ) (q_n σ) (q_n σ)), u') ∧ xz u u' := by
  have hN := hG.1
  obtain ⟨u1, q1, q2, q3⟩ := X_reasons hG H
  unfold f_X7_staleOnes
  rw [q1, m_b_s]
  exact ⟨u1, X_stale_loop hG (HY_xs H q2.1).1 q3 (q_N σ) m_N 0 0 (by show _ < 5000; omega) (Nat.zero_add _) (by decide) (fun c hc => absurd hc (by omega)), q2⟩
