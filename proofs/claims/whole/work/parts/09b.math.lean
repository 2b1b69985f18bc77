/-! the reference's runs -/
def XR (u : xS) (R : nR) (th : Nat) : Prop :=
  u.1 26 = nI th ∧ u.1 27 = nI R.2.2.1 ∧ u.1 28 = nI R.2.2.2.1 ∧ th < 256 ∧ R.2.2.1 < 256 ∧ R.2.2.2.1 < 256 ∧ (∀ i, i < 8 → ((th.testBit i = true ∨ R.2.2.1.testBit i = true) ↔ ¬ R.2.1 i = 0)) ∧ (∀ i, i < 8 → ¬ R.2.1 i = 0 → u.2 25 i = R.1 i) ∧ ∀ z, R.2.2.2.2.2 = some z → u.1 29 = z
theorem X_canRead {u : xS} {R : nR} {th o : Nat} (h : XR u R th) (ho : o < 2 ^ 31) : ∃ u', f_X7_canRead u (nI o) = some (if a_ok (a_rd R o) o = true then 1 else 0, u') ∧ XR u' (a_rd R o) th ∧ xt u u' := by
  obtain ⟨b1, b2, b3, b4, b5, b6, b7, b8, b9⟩ := id h
  unfold f_X7_canRead
  by_cases c : o < 8
  · rw [X_nameY c, m_b_s, if_neg nb_10, b2, X_has (by omega) (by omega), m_b_s]
    -- behind the note of the reading
    have fin : ∀ (s0 : Int32) (R1 : nR), nI R.2.2.2.1 ||| s0 = nI R1.2.2.2.1 → R1.2.2.2.1 < 256 → R1.1 = R.1 → R1.2.1 = R.2.1 → R1.2.2.1 = R.2.2.1 → R1.2.2.2.2.2 = R.2.2.2.2.2 → ∃ u', f_X7_canRead_32 u (nI o) s0 (u.1 28) = some (if a_ok R1 o = true then 1 else 0, u') ∧ XR u' R1 th ∧ xt u u' := by
      intro s0 R1 e0 e1 e2 e3 e4 e5
      have hR1 : XR (x_sI u 28 (u.1 28 ||| s0)) R1 th := by
        refine ⟨?_, ?_, ?_, b4, by rw [e4]; exact b5, e1, ?_, ?_, ?_⟩
        · rw [xI_n (by decide)]; exact b1
        · rw [e4, xI_n (by decide)]; exact b2
        · rw [xI_s, b3, e0]
        · rw [e3, e4]; exact b7
        · rw [e2, e3]; exact b8
        · rw [e5, xI_n (by decide)]; exact b9
      have hx : xt u (x_sI u 28 (u.1 28 ||| s0)) := xt_sI (by decide)
      unfold f_X7_canRead_32 f_X7_canRead_58 f_X7_canRead_63
      rw [m_l_s]
      generalize x_sI u 28 (u.1 28 ||| s0) = u1 at *
      rw [hR1.2.1, X_has (by omega) (by have := hR1.2.2.2.2.1; omega), m_b_s]
      have b7' := hR1.2.2.2.2.2.2.1 o c
      have eok : a_ok R1 o = decide (¬ R1.2.1 o = 0) := by
        unfold a_ok
        rw [decide_eq_false (by omega), Bool.false_or]
      by_cases c1 : R1.2.2.1.testBit o = true
      · have : ¬ R1.2.1 o = 0 := b7'.mp (Or.inr c1)
        rw [if_pos c1, if_neg nb_10, m_g_t vb1, eok, if_pos (decide_eq_true this)]
        exact ⟨u1, rfl, hR1, hx⟩
      · rw [if_neg c1, if_pos rfl, hR1.1, X_has (by omega) (by omega), m_b_s]
        by_cases c2 : th.testBit o = true
        · have : ¬ R1.2.1 o = 0 := b7'.mp (Or.inl c2)
          rw [if_pos c2, if_neg nb_10, m_g_t vb1, eok, if_pos (decide_eq_true this)]
          exact ⟨u1, rfl, hR1, hx⟩
        · have : ¬ ¬ R1.2.1 o = 0 := fun q => by
            rcases b7'.mpr q with z | z
            · exact c2 z
            · exact c1 z
          rw [if_neg c2, if_pos rfl, m_g_t vb0, eok, if_neg (by rw [decide_eq_false this]; decide)]
          exact ⟨u1, rfl, hR1, hx⟩
    by_cases c1 : R.2.2.1.testBit o = true
    · have e : a_rd R o = R := if_neg (fun q => by rw [q.2] at c1; cases c1)
      rw [if_pos c1, if_neg nb_10, e]
      exact fin 0 R (by rw [show (0 : Int32) = nI 0 from rfl, fa_or, Nat.or_zero]) b6 rfl rfl rfl rfl
    · have e : a_rd R o = (R.1, R.2.1, R.2.2.1, R.2.2.2.1 ||| 2 ^ o, upd R.2.2.2.2.1 o (R.2.1 o), R.2.2.2.2.2) := if_pos ⟨c, Bool.eq_false_iff.mpr c1⟩
      rw [if_neg c1, if_pos rfl, e]
      exact fin (1 <<< (nI o &&& 31)) _ (nb_set (by omega)) (nb_or_lt (n := 8) b6 c) rfl rfl rfl rfl
  · have e : a_rd R o = R := if_neg (fun q => c q.1)
    rw [X_nameN (Or.inr (nI_le (by omega) ho)), m_b_s, if_pos rfl, m_g_t vb1, e]
    refine ⟨u, ?_, h, xt_rfl⟩
    rw [if_pos (by unfold a_ok; rw [decide_eq_true (by omega), Bool.true_or])]
theorem X_read {u : xS} {R : nR} {th o : Nat} (h : XR u R th) (ho : o < 2 ^ 31) (hk : a_ok R o = true) : f_X7_read u (nI o) = some ((a_val R o).toInt64, u) := by
  obtain ⟨b1, b2, b3, b4, b5, b6, b7, b8, b9⟩ := h
  unfold f_X7_read f_X7_read_23 a_val
  by_cases c : o < 8
  · have : ¬ R.2.1 o = 0 := by
      unfold a_ok at hk
      rw [decide_eq_false (by omega), Bool.false_or] at hk
      exact of_decide_eq_true hk
    rw [X_nameY c, m_b_s, if_neg nb_10, m_g_t (nI_in c (by decide)), nI_clamp ho, b8 o c this, if_pos c]
  · rw [X_nameN (Or.inr (nI_le (by omega) ho)), m_b_s, if_pos rfl, if_neg c]
theorem a_fit_iff {z : Int64} : a_fit z = true ↔ ¬ (0 : Int32) < lg_cmp z 2147483647 ∧ (0 : Int32) ≤ lg_cmp z (-2147483648) := by
  have e1 : (2147483647 : Int64).toInt = 2147483647 := by decide +kernel
  have e2 : (-2147483648 : Int64).toInt = -2147483648 := by decide +kernel
  unfold a_fit
  rw [decide_eq_true_eq, lg_cmp_gt, lg_cmp_ge, ← Int64.toInt_inj, Int32.toInt_toInt64, Int64.toInt_toInt32, Int64.lt_iff_toInt_lt, Int64.le_iff_toInt_le, e1, e2]
  generalize z.toInt = y
  have key : (if y % 4294967296 < (4294967296 + 1) / 2 then y % 4294967296 else y % 4294967296 - 4294967296) = y ↔ ¬ 2147483647 < y ∧ -2147483648 ≤ y := by
    constructor
    · intro q
      split at q <;> omega
    · intro q
      split <;> omega
  exact key
theorem X_does {u : xS} {R : nR} {th p : Nat} {x : nS} {k : Int32} (hk : ¬ k = 0) (h : XR u R th) (hp : p < 96) (hx : a_okS x) (h3 : u.2 3 p = nI x.1 ∧ u.2 4 p = nI x.2.1 ∧ u.2 5 p = nI x.2.2.1 ∧ u.2 6 p = nI x.2.2.2) :
    ∃ u', f_X7_does u (nI p) = some (if (a_st R x k).2 = true then 0 else 1, u') ∧ XR u' (a_st R x k).1 th ∧ xt u u' := by
  obtain ⟨x1, x2, x3, x4⟩ := hx
  have row : ∀ u1 : xS, xt u u1 → u1.2 3 p = nI x.1 ∧ u1.2 4 p = nI x.2.1 ∧ u1.2 5 p = nI x.2.2.1 ∧ u1.2 6 p = nI x.2.2.2 := fun u1 g => by
    rw [(g.1.1 3 (by decide)).2 (by decide), (g.1.1 4 (by decide)).2 (by decide), (g.1.1 5 (by decide)).2 (by decide), (g.1.1 6 (by decide)).2 (by decide)]
    exact h3
  have hin := nI_in (c := p) (N := 96) hp (by decide)
  unfold f_X7_does f_X7_does_26 f_X7_does_70
  rw [m_g_t hin, nI_clamp (by omega), h3.2.2.1]
  obtain ⟨u1, p1, p2, p3⟩ := X_canRead h (o := x.2.2.1) (by omega)
  rw [p1, m_b_s]
  unfold a_st
  by_cases c1 : a_ok (a_rd R x.2.2.1) x.2.2.1 = true
  · rw [if_pos c1, if_neg nb_10, if_pos c1]
    have hin' : ¬ (nI p < 0 ∨ 96 ≤ p) := nI_in2 hp (by decide)
    rw [m_g_t hin', (row u1 p3).2.2.2]
    obtain ⟨u2, s1, s2, s3⟩ := X_canRead p2 (o := x.2.2.2) (by omega)
    have G2 := xt_trans p3 s3
    rw [s1, m_b_s]
    have c1' : a_ok (a_rd (a_rd R x.2.2.1) x.2.2.2) x.2.2.1 = true := by
      unfold a_ok at c1 ⊢
      have : (a_rd (a_rd R x.2.2.1) x.2.2.2).2.1 = (a_rd R x.2.2.1).2.1 := by
        generalize a_rd R x.2.2.1 = Q
        unfold a_rd
        split <;> rfl
      rw [this]
      exact c1
    generalize a_rd (a_rd R x.2.2.1) x.2.2.2 = R2 at *
    by_cases c2 : a_ok R2 x.2.2.2 = true
    · rw [if_pos c2, if_neg nb_10, if_pos c2]
      obtain ⟨t3, t4, t5, t6⟩ := row u2 G2
      rw [m_g_t hin', t5, X_read s2 (by omega) c1', m_b_s, m_g_t hin', t6, X_read s2 (by omega) c2, m_b_s, m_g_t hin', t4]
      generalize (a_val R2 x.2.2.1).toInt64 = l
      generalize (a_val R2 x.2.2.2).toInt64 = r
      -- the end, at a number of the operation
      have fin : ∀ z : Int64, ∃ u', f_X7_does_120 u2 (nI p) z = some (if (if a_fit z = true then (a_put R2 x.1 z.toInt32 k, false) else (R2, true)).2 = true then 0 else 1, u') ∧ XR u' (if a_fit z = true then (a_put R2 x.1 z.toInt32 k, false) else (R2, true)).1 th ∧ xt u u' := by
        intro z
        unfold f_X7_does_120 f_X7_does_140
        by_cases c3 : a_fit z = true
        · obtain ⟨f1, f2⟩ := a_fit_iff.mp c3
          rw [if_neg f1, if_pos f2, m_g_t (nI_in hp (by decide)), nI_clamp (by omega), t3, m_g_t (nI_in x1 (by decide)), m_l_s, nI_clamp (by omega), m_g_t hin', m_l_s, m_l_s, m_g_t vb1]
          obtain ⟨b1, b2, b3, b4, b5, b6, b7, b8, b9⟩ := s2
          have g1 : xt u2 (x_sA u2 25 x.1 z.toInt32) := xt_sA (by decide)
          have e27 : (x_sA u2 25 x.1 z.toInt32).1 27 ||| (1 <<< ((x_sA u2 25 x.1 z.toInt32).2 3 p &&& 31)) = nI (R2.2.2.1 ||| 2 ^ x.1) := by
            rw [(g1.1.1 3 (by decide)).2 (by decide), t3]
            show u2.1 27 ||| _ = _
            rw [b2, nb_set (by omega)]
          rw [e27, if_pos c3]
          refine ⟨_, rfl, ⟨?_, ?_, ?_, b4, nb_or_lt (n := 8) b5 x1, b6, fun i hi => ?_, fun i hi hn => ?_, fun y hy => ?_⟩, xt_trans G2 (xt_trans g1 (xt_trans (xt_sI (by decide)) (xt_sI (by decide))))⟩
          · exact b1
          · rfl
          · exact b3
          · show _ ↔ ¬ upd R2.2.1 x.1 k i = 0
            show (_ ∨ (R2.2.2.1 ||| 2 ^ x.1).testBit i = true) ↔ _
            rw [nb_or_bit]
            by_cases e : i = x.1
            · subst e
              rw [pk_us]
              simp [hk]
            · rw [pk_un e, decide_eq_false (fun q => e q.symm), Bool.or_false]
              exact b7 i hi
          · show (x_sA u2 25 x.1 z.toInt32).2 25 i = upd R2.1 x.1 z.toInt32 i
            rw [xA_s]
            by_cases e : i = x.1
            · subst e
              rw [pk_us, pk_us]
            · rw [pk_un e, pk_un e]
              refine b8 i hi ?_
              have hn' : ¬ upd R2.2.1 x.1 k i = 0 := hn
              rw [pk_un e] at hn'
              exact hn'
          · exact Option.some.inj hy
        · rw [if_neg c3]
          refine ⟨u2, ?_, s2, G2⟩
          by_cases f1 : (0 : Int32) < lg_cmp z 2147483647
          · rw [if_pos f1, m_g_t vb0]; rfl
          · rw [if_neg f1, if_neg (fun f2 => c3 (a_fit_iff.mpr ⟨f1, f2⟩)), m_g_t vb0]; rfl
      have fin2 : ∀ (op : Nat) (z : Int64), z = a_op op l r → ∃ u', f_X7_does_120 u2 (nI p) z = some (if (if a_fit (a_op op l r) = true then (a_put R2 x.1 (a_op op l r).toInt32 k, false) else (R2, true)).2 = true then 0 else 1, u') ∧ XR u' (if a_fit (a_op op l r) = true then (a_put R2 x.1 (a_op op l r).toInt32 k, false) else (R2, true)).1 th ∧ xt u u' := by
        intro op z hz
        subst hz
        exact fin _
      have h4 : x.2.1 = 0 ∨ x.2.1 = 1 ∨ x.2.1 = 2 ∨ x.2.1 = 3 := by omega
      rcases h4 with e | e | e | e
      · rw [e, if_neg (show ¬ nI 0 = 3 by decide), m_g_t hin', if_pos (show nI 0 = 0 by decide)]
        exact fin2 0 _ rfl
      · rw [e, if_neg (show ¬ nI 1 = 3 by decide), m_g_t hin', if_neg (show ¬ nI 1 = 0 by decide), if_pos (show nI 1 = 1 by decide)]
        exact fin2 1 _ rfl
      · rw [e, if_neg (show ¬ nI 2 = 3 by decide), m_g_t hin', if_neg (show ¬ nI 2 = 0 by decide), if_neg (show ¬ nI 2 = 1 by decide), if_pos (show nI 2 = 2 by decide)]
        exact fin2 2 _ rfl
      · rw [e, if_pos (show nI 3 = 3 by decide)]
        by_cases c0 : r = 0
        · have e5 : a_op 3 l r = 1099511627776 := by rw [c0]; rfl
          have e6 : a_fit 1099511627776 = false := by decide +kernel
          rw [if_pos ((lg_cmp_eq _ _).mpr c0), m_g_t vb0, e5, e6]
          exact ⟨u2, rfl, s2, G2⟩
        · rw [if_neg (fun q => c0 ((lg_cmp_eq _ _).mp q)), m_g_t hin', if_neg (show ¬ nI 3 = 0 by decide), if_neg (show ¬ nI 3 = 1 by decide), if_neg (show ¬ nI 3 = 2 by decide), m_g_t c0]
          refine fin2 3 _ ?_
          unfold a_op
          rw [if_neg (by decide), if_neg (by decide), if_neg (by decide), if_neg c0]
    · rw [if_neg c2, if_pos rfl, if_neg c2, m_g_t vb0]
      exact ⟨u2, rfl, s2, G2⟩
  · rw [if_neg c1, if_pos rfl, if_neg c1, m_g_t vb0]
    exact ⟨u1, rfl, p2, p3⟩
theorem X_doesAll_loop {c th : Nat} {k : Int32} (hk : ¬ k = 0) (hc : c < 16) : ∀ (P2 P1 : List nS) (f : Nat) (u : xS) (R : nR), P2.length + 1 < f → (P1 ++ P2).length ≤ 6 → (∀ x ∈ P2, a_okS x) → u.2 2 c = nI (P1 ++ P2).length → (∀ j (hj : j < (P1 ++ P2).length), u.2 3 (6 * c + j) = nI (P1 ++ P2)[j].1 ∧ u.2 4 (6 * c + j) = nI (P1 ++ P2)[j].2.1 ∧ u.2 5 (6 * c + j) = nI (P1 ++ P2)[j].2.2.1 ∧ u.2 6 (6 * c + j) = nI (P1 ++ P2)[j].2.2.2) → XR u R th →
    ∃ u', f_X7_doesAll_14 f u (nI c) 1 (nI P1.length) = some (if (a_run P2 R k).2 = true then 0 else 1, u') ∧ XR u' (a_run P2 R k).1 th ∧ xt u u' := by
  intro P2
  induction P2 with
  | nil =>
    intro P1 f u R hf hl hx hm hr h
    obtain ⟨f, rfl⟩ : ∃ q, f = q + 1 := ⟨f - 1, by omega⟩
    refine ⟨u, ?_, h, xt_rfl⟩
    show f_X7_doesAll_14_b (f_X7_doesAll_14 f) _ _ _ _ = _
    unfold f_X7_doesAll_14_b f_X7_doesAll_45
    rw [m_g_t (nI_in hc (by decide)), nI_clamp (by omega), hm, List.append_nil, if_pos (nI_le (Nat.le_refl _) (by rw [List.append_nil] at hl; omega)), m_g_t vb1]
    rfl
  | cons x P2 ih =>
    intro P1 f u R hf hl hx hm hr h
    obtain ⟨f, rfl⟩ : ∃ q, f = q + 1 := ⟨f - 1, by omega⟩
    have hlen : (P1 ++ x :: P2).length = P1.length + (P2.length + 1) := by rw [List.length_append, List.length_cons]
    have hr0 := hr P1.length (by omega)
    rw [List.getElem_append_right (Nat.le_refl _)] at hr0
    simp only [Nat.sub_self, List.getElem_cons_zero] at hr0
    have e6 : 6 * nI c + nI P1.length = nI (6 * c + P1.length) := by rw [show (6 : Int32) = nI 6 from rfl, pk_mul, nI_add]
    obtain ⟨u1, q1, q2, q3⟩ := X_does (k := k) hk h (p := 6 * c + P1.length) (by omega) (hx x (List.mem_cons_self ..)) hr0
    have hm1 : u1.2 2 c = nI (P1 ++ x :: P2).length := by rw [(q3.1.1 2 (by decide)).2 (by decide)]; exact hm
    show ∃ u', f_X7_doesAll_14_b (f_X7_doesAll_14 f) _ _ _ _ = _ ∧ _
    unfold f_X7_doesAll_14_b f_X7_doesAll_45
    rw [m_g_t (nI_in hc (by decide)), nI_clamp (by omega), hm, if_neg (nI_ge (by omega) (by omega)), if_neg nb_10, e6, q1, m_b_s, nI_1]
    unfold a_run
    by_cases cf : (a_st R x k).2 = true
    · rw [if_pos cf, if_pos cf] at *
      obtain ⟨f, rfl⟩ : ∃ q, f = q + 1 := ⟨f - 1, by rw [List.length_cons] at hf; omega⟩
      refine ⟨u1, ?_, q2, q3⟩
      show f_X7_doesAll_14_b (f_X7_doesAll_14 f) _ _ _ _ = _
      unfold f_X7_doesAll_14_b f_X7_doesAll_45
      rw [m_g_t (nI_in hc (by decide)), nI_clamp (by omega), hm1, cf]
      by_cases c2 : nI (P1 ++ x :: P2).length ≤ nI (P1.length + 1)
      · rw [if_pos c2, m_g_t vb0]; rfl
      · rw [if_neg c2, if_pos rfl, m_g_t vb0]; rfl
    · rw [if_neg cf, if_neg cf]
      have e2 : P1 ++ x :: P2 = (P1 ++ [x]) ++ P2 := by rw [List.append_assoc]; rfl
      rw [e2] at hl hm1 hr
      obtain ⟨u2, r1, r2, r3⟩ := ih (P1 ++ [x]) f u1 (a_st R x k).1 (by rw [List.length_cons] at hf; omega) hl (fun y hy => hx y (List.mem_cons_of_mem _ hy)) hm1 (fun j hj => by
        rw [(q3.1.1 3 (by decide)).2 (by decide), (q3.1.1 4 (by decide)).2 (by decide), (q3.1.1 5 (by decide)).2 (by decide), (q3.1.1 6 (by decide)).2 (by decide)]
        exact hr j hj) q2
      rw [List.length_append, List.length_singleton] at r1
      exact ⟨u2, r1, r2, xt_trans q3 r3⟩
/-- a program is done by the reference, from the values v and the stamps s -/
theorem X_doesAll {u : xS} {σ : qS} (hG : qG σ) (H : HX u σ) {c th : Nat} {k : Int32} (hk : ¬ k = 0) (hc : c < q_N σ) {v s : Nat → Int32} (h1 : u.1 26 = nI th) (h2 : th < 256) (h3 : ∀ i, i < 8 → (th.testBit i = true ↔ ¬ s i = 0)) (h4 : ∀ i, i < 8 → ¬ s i = 0 → u.2 25 i = v i) :
    ∃ u', f_X7_doesAll u (nI c) = some (if (a_run (q_P σ c) (v, s, 0, 0, (fun _ => 0), none) k).2 = true then 0 else 1, u') ∧ XR u' (a_run (q_P σ c) (v, s, 0, 0, (fun _ => 0), none) k).1 th ∧ xt u u' := by
  have hN := hG.1
  obtain ⟨p1, p2, -⟩ := hG.2.2.1 c hc
  obtain ⟨m1, m2, m3, m4⟩ := H.2.2.1 c hc
  have g : xt u (x_sI (x_sI u 27 0) 28 0) := xt_trans (xt_sI (by decide)) (xt_sI (by decide))
  have hX : XR (x_sI (x_sI u 27 0) 28 0) (v, s, 0, 0, (fun _ => 0), none) th := by
    refine ⟨?_, ?_, ?_, h2, (show (0 : Nat) < 256 by decide), (show (0 : Nat) < 256 by decide), fun i hi => ?_, fun i hi hn => h4 i hi hn, fun z hz => nomatch hz⟩
    · exact h1
    · rw [xI_n (by decide), xI_s]; rfl
    · rw [xI_s]; rfl
    · rw [← h3 i hi]
      show (_ ∨ (0 : Nat).testBit i = true) ↔ _
      rw [Nat.zero_testBit]
      simp
  unfold f_X7_doesAll
  rw [m_l_s, m_l_s]
  obtain ⟨u', q1, q2, q3⟩ := X_doesAll_loop (k := k) hk (c := c) (th := th) (by omega) (q_P σ c) [] m_N (x_sI (x_sI u 27 0) 28 0) (v, s, 0, 0, (fun _ => 0), none) (by show _ < 5000; omega) p1 p2 m1 m4 hX
  exact ⟨u', q1, q2, xt_trans g q3⟩
