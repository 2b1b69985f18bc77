/-! what a run leaves, as numbers -/
def a_in (v s : Nat → Int32) (k : Int32) (R : nR) : Prop := (∀ i, i < 8 → (R.2.2.1.testBit i = false → R.1 i = v i ∧ R.2.1 i = s i) ∧ (R.2.2.1.testBit i = true → R.2.1 i = k) ∧ (R.2.2.2.1.testBit i = true → R.2.2.2.2.1 i = s i)) ∧ R.2.2.1 < 256 ∧ R.2.2.2.1 < 256
theorem a_in_rd {v s : Nat → Int32} {k : Int32} {R : nR} (h : a_in v s k R) (o : Nat) : a_in v s k (a_rd R o) := by
  unfold a_rd
  split
  · rename_i c
    refine ⟨fun i hi => ⟨(h.1 i hi).1, (h.1 i hi).2.1, fun hb => ?_⟩, h.2.1, nb_or_lt (n := 8) h.2.2 c.1⟩
    show upd R.2.2.2.2.1 o (R.2.1 o) i = s i
    have hb' : (R.2.2.2.1 ||| 2 ^ o).testBit i = true := hb
    by_cases e : i = o
    · subst e
      rw [pk_us]
      exact ((h.1 i hi).1 c.2).2
    · rw [nb_or_bit, decide_eq_false (fun q => e q.symm), Bool.or_false] at hb'
      rw [pk_un e]
      exact (h.1 i hi).2.2 hb'
  · exact h
theorem a_in_put {v s : Nat → Int32} {k : Int32} {R : nR} (h : a_in v s k R) {n : Nat} (hn : n < 8) (x : Int32) : a_in v s k (a_put R n x k) := by
  refine ⟨fun i hi => ?_, nb_or_lt (n := 8) h.2.1 hn, h.2.2⟩
  show ((R.2.2.1 ||| 2 ^ n).testBit i = false → upd R.1 n x i = v i ∧ upd R.2.1 n k i = s i) ∧ ((R.2.2.1 ||| 2 ^ n).testBit i = true → upd R.2.1 n k i = k) ∧ _
  rw [nb_or_bit]
  by_cases e : i = n
  · subst e
    rw [pk_us, pk_us]
    refine ⟨fun q => ?_, fun _ => rfl, (h.1 i hi).2.2⟩
    simp at q
  · rw [pk_un e, pk_un e, decide_eq_false (fun q => e q.symm), Bool.or_false]
    exact h.1 i hi
theorem a_in_st {v s : Nat → Int32} {k : Int32} {R : nR} (h : a_in v s k R) {x : nS} (hx : x.1 < 8) : a_in v s k (a_st R x k).1 := by
  unfold a_st
  split
  · split
    · split
      · exact a_in_put (a_in_rd (a_in_rd h _) _) hx _
      · exact a_in_rd (a_in_rd h _) _
    · exact a_in_rd (a_in_rd h _) _
  · exact a_in_rd h _
theorem a_in_run {v s : Nat → Int32} {k : Int32} : ∀ {P : List nS} {R : nR}, (∀ x ∈ P, a_okS x) → a_in v s k R → a_in v s k (a_run P R k).1
  | [], _, _, h => h
  | x :: P, R, hx, h => by
    unfold a_run
    split
    · exact a_in_st h (hx x (List.mem_cons_self ..)).1
    · exact a_in_run (fun y hy => hx y (List.mem_cons_of_mem _ hy)) (a_in_st h (hx x (List.mem_cons_self ..)).1)
theorem a_in_0 {v s : Nat → Int32} {k : Int32} : a_in v s k (v, s, 0, 0, (fun _ => 0), none) := by
  refine ⟨fun i _ => ⟨fun _ => ⟨rfl, rfl⟩, fun h => ?_, fun h => ?_⟩, (show (0 : Nat) < 256 by decide), (show (0 : Nat) < 256 by decide)⟩
  · have h' : (0 : Nat).testBit i = true := h
    rw [Nat.zero_testBit] at h'; cases h'
  · have h' : (0 : Nat).testBit i = true := h
    rw [Nat.zero_testBit] at h'; cases h'
/-- the last outcome is there once a statement was done -/
theorem a_st_out {R : nR} {x : nS} {k : Int32} (h : (a_st R x k).2 = false) : (a_st R x k).1.2.2.2.2.2 ≠ none := by
  unfold a_st at h ⊢
  split
  · rename_i c1
    rw [if_pos c1] at h
    split
    · rename_i c2
      rw [if_pos c2] at h
      split
      · exact fun q => nomatch q
      · rename_i c3
        rw [if_neg c3] at h
        cases h
    · rename_i c2
      rw [if_neg c2] at h
      cases h
  · rename_i c1
    rw [if_neg c1] at h
    cases h
theorem a_run_keep {k : Int32} : ∀ {P : List nS} {R : nR}, (a_run P R k).2 = false → R.2.2.2.2.2 ≠ none → (a_run P R k).1.2.2.2.2.2 ≠ none
  | [], _, _, h => h
  | x :: P, R, h, h2 => by
    unfold a_run at h ⊢
    split
    · rename_i c
      rw [if_pos c, c] at h
      cases h
    · rename_i c
      rw [if_neg c] at h
      exact a_run_keep h (a_st_out (Bool.eq_false_iff.mpr c))
theorem a_run_out {k : Int32} {P : List nS} {R : nR} (hP : P ≠ []) (h : (a_run P R k).2 = false) : (a_run P R k).1.2.2.2.2.2 ≠ none := by
  cases P with
  | nil => exact absurd rfl hP
  | cons x P =>
    unfold a_run at h ⊢
    split
    · rename_i c
      rw [if_pos c, c] at h
      cases h
    · rename_i c
      rw [if_neg c] at h
      exact a_run_keep h (a_st_out (Bool.eq_false_iff.mpr c))
/-- the state behind a run of the cell c by the user us -/
def z_rr (σ : qS) (c : Nat) : nR × Bool := a_run (q_P σ c) (q_V σ, (fun i => nI (q_S σ i)), 0, 0, (fun _ => 0), none) (nI (q_n σ + 1))
def z_res (r : nR × Bool) : Option Int32 := if r.2 = true then none else r.1.2.2.2.2.2
def z_S (σ : qS) (c i : Nat) : Nat := if (z_rr σ c).2 = true then q_S σ i else if (z_rr σ c).1.2.2.1.testBit i = true then q_n σ + 1 else q_S σ i
def z_V (σ : qS) (c : Nat) : Nat → Int32 := if (z_rr σ c).2 = true then q_V σ else (z_rr σ c).1.1
def z_new (σ : qS) (us c : Nat) : qR := (c, us, z_res (z_rr σ c), (z_rr σ c).1.2.2.2.1, q_S σ)
def z_mk (σ : qS) (us c : Nat) : qS := (q_N σ, q_O σ, q_P σ, q_C σ, q_R σ, (z_V σ c, z_S σ c, va_up (q_L σ) c (q_n σ + 1)), (q_n σ + 1, va_up (q_r σ) (q_n σ) (z_new σ us c)), q_G σ ++ [q_n σ], (q_m σ, q_I σ))
theorem z_rr_in {σ : qS} (hG : qG σ) {c : Nat} (hc : c < q_N σ) : a_in (q_V σ) (fun i => nI (q_S σ i)) (nI (q_n σ + 1)) (z_rr σ c).1 := a_in_run (hG.2.2.1 c hc).2.1 a_in_0
/-- the names behind it, as the class has them -/
theorem z_names {σ : qS} (hG : qG σ) {c : Nat} (hc : c < q_N σ) {i : Nat} (hi : i < 8) : (if (z_rr σ c).2 = true then q_V σ else (z_rr σ c).1.1) i = z_V σ c i ∧ (if (z_rr σ c).2 = true then (fun i => nI (q_S σ i)) else (z_rr σ c).1.2.1) i = nI (z_S σ c i) := by
  refine ⟨rfl, ?_⟩
  obtain ⟨h1, h2, h3⟩ := (z_rr_in hG hc).1 i hi
  unfold z_S
  by_cases e : (z_rr σ c).2 = true
  · rw [if_pos e, if_pos e]
  · rw [if_neg e, if_neg e]
    by_cases e2 : (z_rr σ c).1.2.2.1.testBit i = true
    · rw [if_pos e2]; exact h2 e2
    · rw [if_neg e2]; exact (h1 (Bool.eq_false_iff.mpr e2)).2
theorem nG_grow {N n : Nat} {r : Nat → qR} {x : qN} (h : nG N n r x) (y : qR) : nG N (n + 1) (va_up r n y) x := by
  refine ⟨fun i hi => ⟨by have := (h.1 i hi).1; omega, (h.1 i hi).2⟩, fun k => ?_⟩
  obtain ⟨h1, h2, h3⟩ := h.2 k
  refine ⟨by omega, h2, fun hp => ?_⟩
  rw [va_up_n (by omega)]
  exact h3 hp
theorem z_mk_G {σ : qS} (hG : qG σ) {us c : Nat} (hu : us < 5) (hc : c < q_N σ) (hn : q_n σ < 400) : qG (z_mk σ us c) := by
  have hG' := hG
  obtain ⟨g1, g2, g3, g4, g5, g6, ⟨g7, g8⟩, g9, g10⟩ := hG'
  have hin := z_rr_in hG hc
  have hS : ∀ i, i < 8 → q_S σ i ≤ q_n σ := fun i hi => (g5.1 i hi).1
  have hV : ∀ i, i < 8 → q_S σ i = 0 → q_V σ i = 0 := fun i hi => (g5.1 i hi).2
  refine ⟨g1, g2, fun k hk => ?_, (show q_n σ + 1 ≤ 400 by omega), ⟨fun i hi => ?_, fun k => ?_⟩, fun i hi => ?_, ⟨?_, fun x hx => ?_⟩, g9, fun i hi => nG_grow (g10 i hi) _⟩
  · obtain ⟨a1, a2, a3, a4, a5⟩ := g3 k hk
    exact ⟨a1, a2, Nat.le_succ_of_le a3, a4, a5⟩
  · obtain ⟨h1, h2, h3⟩ := hin.1 i hi
    show z_S σ c i ≤ q_n σ + 1 ∧ (z_S σ c i = 0 → z_V σ c i = 0)
    unfold z_S z_V
    by_cases e : (z_rr σ c).2 = true
    · rw [if_pos e, if_pos e]
      exact ⟨by have := hS i hi; omega, hV i hi⟩
    · rw [if_neg e, if_neg e]
      by_cases e2 : (z_rr σ c).1.2.2.1.testBit i = true
      · rw [if_pos e2]
        exact ⟨Nat.le_refl _, fun q => absurd q (by omega)⟩
      · rw [if_neg e2]
        refine ⟨by have := hS i hi; omega, fun q => ?_⟩
        rw [(h1 (Bool.eq_false_iff.mpr e2)).1]
        exact hV i hi q
  · show va_up (q_L σ) c (q_n σ + 1) k ≤ q_n σ + 1 ∧ (q_N σ ≤ k → va_up (q_L σ) c (q_n σ + 1) k = 0) ∧ (0 < va_up (q_L σ) c (q_n σ + 1) k → (va_up (q_r σ) (q_n σ) (z_new σ us c) (va_up (q_L σ) c (q_n σ + 1) k - 1)).1 = k)
    by_cases e : k = c
    · subst e
      rw [va_up_s, Nat.add_sub_cancel, va_up_s]
      exact ⟨Nat.le_refl _, fun q => absurd q (by omega), fun _ => rfl⟩
    · rw [va_up_n e]
      obtain ⟨h1, h2, h3⟩ := g5.2 k
      have h1' : q_L σ k ≤ q_n σ := h1
      refine ⟨by omega, h2, fun q => ?_⟩
      rw [va_up_n (by omega)]
      exact h3 q
  · have hi' : i < q_n σ + 1 := hi
    show rG (q_N σ) i (va_up (q_r σ) (q_n σ) (z_new σ us c) i)
    by_cases e : i = q_n σ
    · subst e
      rw [va_up_s]
      exact ⟨hc, hu, hin.2.2, fun j hj => hS j hj⟩
    · rw [va_up_n e]
      exact g6 i (by omega)
  · show (q_G σ ++ [q_n σ]).Pairwise (· < ·)
    rw [List.pairwise_append]
    refine ⟨g7, List.pairwise_singleton _ _, fun a ha b hb => ?_⟩
    rw [List.mem_singleton.mp hb]
    exact g8 a ha
  · show x < q_n σ + 1
    rcases List.mem_append.mp hx with q | q
    · have := g8 x q; omega
    · rw [List.mem_singleton.mp q]; omega
/-! the reference lays the names of now, and makes a run -/
theorem X_lays_loop {σ : qS} (hG : qG σ) : ∀ (d f j th : Nat) (u : xS), d < f → j + d = 8 → HX u σ → u.1 26 = nI th → th < 2 ^ j → (∀ i, i < j → (th.testBit i = true ↔ q_S σ i ≠ 0) ∧ u.2 25 i = u.2 10 i) →
    ∃ u' th', f_X7_laysNow_7 f u (nI j) = some ((), u') ∧ xt u u' ∧ u'.1 26 = nI th' ∧ th' < 256 ∧ ∀ i, i < 8 → (th'.testBit i = true ↔ q_S σ i ≠ 0) ∧ u'.2 25 i = u.2 10 i := by
  have hn := hG.2.2.2.1
  intro d
  induction d with
  | zero =>
    intro f j th u hf hj H h1 h2 h3
    obtain ⟨f, rfl⟩ : ∃ q, f = q + 1 := ⟨f - 1, by omega⟩
    have hj8 : j = 8 := by omega
    subst hj8
    refine ⟨u, th, ?_, xt_rfl, h1, h2, h3⟩
    show f_X7_laysNow_7_b (f_X7_laysNow_7 f) _ _ = _
    unfold f_X7_laysNow_7_b
    rw [if_pos (by decide +kernel)]
  | succ d ih =>
    intro f j th u hf hj H h1 h2 h3
    obtain ⟨f, rfl⟩ : ∃ q, f = q + 1 := ⟨f - 1, by omega⟩
    have hj8 : j < 8 := by omega
    have hS : q_S σ j ≤ q_n σ := (hG.2.2.2.2.1.1 j hj8).1
    have hin := nI_in (c := j) (N := 8) hj8 (by decide)
    have g1 : xt u (x_sA u 25 j (u.2 10 j)) := xt_sA (by decide)
    show ∃ u' th', f_X7_laysNow_7_b (f_X7_laysNow_7 f) _ _ = _ ∧ _
    unfold f_X7_laysNow_7_b f_X7_laysNow_46
    rw [if_neg (lge8 hj8), m_g_t hin, m_g_t hin, m_l_s, m_g_t hin, nI_clamp (by omega), (g1.1.1 11 (by decide)).2 (by decide), (H.2.2.2.2.2.1 j hj8).1]
    have key : ∀ (th2 : Nat) (s0 : Int32), nI th ||| s0 = nI th2 → th2 < 2 ^ (j + 1) → (∀ i, i < j → th2.testBit i = th.testBit i) → (th2.testBit j = true ↔ q_S σ j ≠ 0) → ∃ u' th', (m_l (x_sI (x_sA u 25 j (u.2 10 j)) 26 ((x_sA u 25 j (u.2 10 j)).1 26 ||| s0)) fun u208 => f_X7_laysNow_7 f u208 (nI j + 1)) = some ((), u') ∧ xt u u' ∧ u'.1 26 = nI th' ∧ th' < 256 ∧ ∀ i, i < 8 → (th'.testBit i = true ↔ q_S σ i ≠ 0) ∧ u'.2 25 i = u.2 10 i := by
      intro th2 s0 e1 e2 e3 e4
      rw [m_l_s, nI_1]
      have g2 : xt u (x_sI (x_sA u 25 j (u.2 10 j)) 26 ((x_sA u 25 j (u.2 10 j)).1 26 ||| s0)) := xt_trans g1 (xt_sI (by decide))
      have f1 : (x_sI (x_sA u 25 j (u.2 10 j)) 26 ((x_sA u 25 j (u.2 10 j)).1 26 ||| s0)).1 26 = nI th2 := by
        rw [xI_s]
        show u.1 26 ||| s0 = _
        rw [h1, e1]
      have f2 : ∀ i, (x_sI (x_sA u 25 j (u.2 10 j)) 26 ((x_sA u 25 j (u.2 10 j)).1 26 ||| s0)).2 25 i = upd (u.2 25) j (u.2 10 j) i := fun i => by
        show (x_sA u 25 j (u.2 10 j)).2 25 i = _
        rw [xA_s]
      have f3 : ∀ i, (x_sI (x_sA u 25 j (u.2 10 j)) 26 ((x_sA u 25 j (u.2 10 j)).1 26 ||| s0)).2 10 i = u.2 10 i := fun i => by rw [(g2.1.1 10 (by decide)).2 (by decide)]
      obtain ⟨u', th', q1, q2, q3, q4, q5⟩ := ih f (j + 1) th2 _ (by omega) (by omega) (HX_xs H g2.1) f1 e2 (fun i hi => by
        rw [f2, f3]
        by_cases e : i = j
        · subst e
          rw [pk_us]
          exact ⟨e4, rfl⟩
        · rw [pk_un e, e3 i (by omega)]
          exact h3 i (by omega))
      exact ⟨u', th', q1, xt_trans g2 q2, q3, q4, fun i hi => ⟨(q5 i hi).1, by rw [(q5 i hi).2, f3]⟩⟩
    by_cases c : q_S σ j = 0
    · rw [if_pos (by rw [c]; decide)]
      refine key th 0 (by rw [show (0 : Int32) = nI 0 from rfl, fa_or, Nat.or_zero]) (Nat.lt_of_lt_of_le h2 (Nat.pow_le_pow_right (by decide) (by omega))) (fun _ _ => rfl) ?_
      rw [Nat.testBit_lt_two_pow h2]
      simp [c]
    · rw [if_neg (nI_nle (by omega) (by omega))]
      refine key (th ||| 2 ^ j) _ (nb_set (by omega)) (nb_or_lt (Nat.lt_of_lt_of_le h2 (Nat.pow_le_pow_right (by decide) (by omega))) (by omega)) (fun i hi => ?_) ?_
      · rw [nb_or_bit, decide_eq_false (by omega), Bool.or_false]
      · rw [nb_or_bit]
        simp [c]
theorem X_lays {u : xS} {σ : qS} (hG : qG σ) (H : HX u σ) : ∃ u' th', f_X7_laysNow u = some ((), u') ∧ xt u u' ∧ u'.1 26 = nI th' ∧ th' < 256 ∧ ∀ i, i < 8 → (th'.testBit i = true ↔ q_S σ i ≠ 0) ∧ u'.2 25 i = u.2 10 i := by
  have g : xt u (x_sI u 26 0) := xt_sI (by decide)
  unfold f_X7_laysNow
  rw [m_l_s]
  obtain ⟨u', th', q1, q2, q3, q4, q5⟩ := X_lays_loop hG 8 m_N 0 0 (x_sI u 26 0) (by decide) rfl (HX_xs H g.1) (by rw [xI_s]; rfl) (by decide) (fun i hi => absurd hi (by omega))
  exact ⟨u', th', q1, xt_trans g q2, q3, q4, q5⟩
/-- the loop behind a run: what the names 0 to j - 1 are told -/
def z_lp (u u' : xS) (σ : qS) (c : Nat) (j : Nat) : Prop :=
  (∀ t, u'.1 t = u.1 t) ∧ (∀ t, t ≠ 10 → t ≠ 11 → t ≠ 12 → t ≠ 20 → u'.2 t = u.2 t) ∧
  (∀ i, i < 8 → u'.2 20 (8 * (q_n σ + 1) + i) = if i < j then nI (q_S σ i) else u.2 20 (8 * (q_n σ + 1) + i)) ∧ (∀ i, (i < 8 * (q_n σ + 1) ∨ 8 * (q_n σ + 1) + 8 ≤ i) → u'.2 20 i = u.2 20 i) ∧
  ∀ i, i < 8 → u'.2 12 i = (if i < j then u.2 12 i + nI (if (z_rr σ c).1.2.2.2.1.testBit i = true then 1 else 0) else u.2 12 i) ∧
    u'.2 10 i = (if i < j ∧ (z_rr σ c).2 = false ∧ (z_rr σ c).1.2.2.1.testBit i = true then u.2 25 i else u.2 10 i) ∧ u'.2 11 i = (if i < j ∧ (z_rr σ c).2 = false ∧ (z_rr σ c).1.2.2.1.testBit i = true then nI (q_n σ + 1) else u.2 11 i)
theorem X_runs_loop {σ : qS} (hG : qG σ) {c : Nat} (hc : c < q_N σ) (hn : q_n σ < 400) {u0 : xS} (h13 : u0.1 13 = nI (q_n σ + 1)) (h27 : u0.1 27 = nI (z_rr σ c).1.2.2.1) (h28 : u0.1 28 = nI (z_rr σ c).1.2.2.2.1) (h11 : ∀ i, i < 8 → u0.2 11 i = nI (q_S σ i)) : ∀ (d f j : Nat) (u : xS), d < f → j + d = 8 → z_lp u0 u σ c j →
    ∃ u1, f_X7_runs_96 f u (nI c) (if (z_rr σ c).2 = true then 0 else 1) (nI j) = some (if (z_rr σ c).2 = true then 0 else 1, x_sA u1 8 c (nI (q_n σ + 1))) ∧ z_lp u0 u1 σ c 8 := by
  have hN := hG.1
  have hin := z_rr_in hG hc
  intro d
  induction d with
  | zero =>
    intro f j u hf hj h
    obtain ⟨f, rfl⟩ : ∃ q, f = q + 1 := ⟨f - 1, by omega⟩
    have hj8 : j = 8 := by omega
    subst hj8
    refine ⟨u, ?_, h⟩
    show f_X7_runs_96_b (f_X7_runs_96 f) _ _ _ _ = _
    unfold f_X7_runs_96_b
    rw [if_pos (by decide +kernel), m_g_t (nI_in (by omega) (by decide)), m_l_s, nI_clamp (by omega), h.1, h13]
    by_cases e : (z_rr σ c).2 = true
    · rw [if_pos e, m_g_t vb0]
    · rw [if_neg e, m_g_t vb1]
  | succ d ih =>
    intro f j u hf hj h
    obtain ⟨f, rfl⟩ : ∃ q, f = q + 1 := ⟨f - 1, by omega⟩
    have hj8 : j < 8 := by omega
    obtain ⟨a1, a2, a3, a4, a5⟩ := h
    have hi8 := nI_in (c := j) (N := 8) hj8 (by decide)
    have e1 : 8 * nI (q_n σ + 1) + nI j = nI (8 * (q_n σ + 1) + j) := by rw [show (8 : Int32) = nI 8 from rfl, pk_mul, nI_add]
    have b11 : u.2 11 j = nI (q_S σ j) := by
      rw [(a5 j hj8).2.2, if_neg (by omega)]
      exact h11 j hj8
    show ∃ u1, f_X7_runs_96_b (f_X7_runs_96 f) _ _ _ _ = _ ∧ _
    unfold f_X7_runs_96_b f_X7_runs_185
    rw [if_neg (lge8 hj8), m_g_t hi8, a1, h13, e1, m_g_t (nI_in (by omega) (by decide)), m_l_s, m_g_t hi8, m_g_t hi8, m_l_s, nI_clamp (by omega), nI_clamp (by omega), nI_1, b11]
    -- behind the notes of stamp and time
    generalize hu2 : x_sA u 20 (8 * (q_n σ + 1) + j) (nI (q_S σ j)) = u2
    have c28 : u2.1 28 = nI (z_rr σ c).1.2.2.2.1 := by rw [← hu2]; exact (a1 28).trans h28
    rw [c28, X_bit1 (by omega) (by have := hin.2.2; omega)]
    generalize hu3 : x_sA u2 12 j (u2.2 12 j + nI (if (z_rr σ c).1.2.2.2.1.testBit j = true then 1 else 0)) = u3
    have r3 : ∀ t, t ≠ 20 → t ≠ 12 → u3.2 t = u.2 t := fun t t1 t2 => by
      rw [← hu3, ← hu2, xA_n t2, xA_n t1]
    have r320 : ∀ i, u3.2 20 i = upd (u.2 20) (8 * (q_n σ + 1) + j) (nI (q_S σ j)) i := fun i => by
      rw [← hu3, ← hu2, xA_n (by decide), xA_s]
    have r312 : ∀ i, u3.2 12 i = upd (u.2 12) j (u.2 12 j + nI (if (z_rr σ c).1.2.2.2.1.testBit j = true then 1 else 0)) i := fun i => by
      rw [← hu3, xA_s, ← hu2, xA_n (by decide)]
    have r31 : ∀ t, u3.1 t = u.1 t := fun t => by rw [← hu3, ← hu2]; rfl
    -- the state behind this turn
    have nxt : ∀ (u4 : xS), (∀ t, u4.1 t = u3.1 t) → (∀ t, t ≠ 10 → t ≠ 11 → u4.2 t = u3.2 t) → (∀ i, i < 8 → u4.2 10 i = if i = j ∧ (z_rr σ c).2 = false ∧ (z_rr σ c).1.2.2.1.testBit j = true then u3.2 25 j else u3.2 10 i) → (∀ i, i < 8 → u4.2 11 i = if i = j ∧ (z_rr σ c).2 = false ∧ (z_rr σ c).1.2.2.1.testBit j = true then nI (q_n σ + 1) else u3.2 11 i) → z_lp u0 u4 σ c (j + 1) := by
      intro u4 k1 k2 k3 k4
      refine ⟨fun t => by rw [k1, r31, a1], fun t t1 t2 t3 t4 => by rw [k2 t t1 t2, r3 t t4 t3, a2 t t1 t2 t3 t4], fun i hi => ?_, fun i hi => ?_, fun i hi => ⟨?_, ?_, ?_⟩⟩
      · rw [k2 20 (by decide) (by decide), r320]
        by_cases e : i = j
        · subst e
          rw [pk_us, if_pos (by omega)]
        · rw [pk_un (by omega), a3 i hi]
          by_cases e2 : i < j
          · rw [if_pos e2, if_pos (by omega)]
          · rw [if_neg e2, if_neg (by omega)]
      · rw [k2 20 (by decide) (by decide), r320, pk_un (by omega)]
        exact a4 i hi
      · rw [k2 12 (by decide) (by decide), r312]
        by_cases e : i = j
        · subst e
          rw [pk_us, if_pos (show i < i + 1 by omega), (a5 i hi).1, if_neg (show ¬ i < i by omega)]
        · rw [pk_un e, (a5 i hi).1]
          by_cases e2 : i < j
          · rw [if_pos e2, if_pos (show i < j + 1 by omega)]
          · rw [if_neg e2, if_neg (show ¬ i < j + 1 by omega)]
      · rw [k3 i hi, r3 25 (by decide) (by decide), r3 10 (by decide) (by decide), a2 25 (by decide) (by decide) (by decide) (by decide), (a5 i hi).2.1]
        by_cases e : i = j
        · subst e
          by_cases e2 : (z_rr σ c).2 = false ∧ (z_rr σ c).1.2.2.1.testBit i = true
          · rw [if_pos ⟨rfl, e2⟩, if_pos ⟨by omega, e2⟩]
          · rw [if_neg (fun q => e2 q.2), if_neg (fun q => e2 q.2), if_neg (fun q => e2 q.2)]
        · rw [if_neg (fun q => e q.1)]
          by_cases e2 : i < j ∧ (z_rr σ c).2 = false ∧ (z_rr σ c).1.2.2.1.testBit i = true
          · rw [if_pos e2, if_pos ⟨by omega, e2.2⟩]
          · rw [if_neg e2, if_neg (fun q => e2 ⟨by omega, q.2⟩)]
      · rw [k4 i hi, r3 11 (by decide) (by decide), (a5 i hi).2.2]
        by_cases e : i = j
        · subst e
          by_cases e2 : (z_rr σ c).2 = false ∧ (z_rr σ c).1.2.2.1.testBit i = true
          · rw [if_pos ⟨rfl, e2⟩, if_pos ⟨by omega, e2⟩]
          · rw [if_neg (fun q => e2 q.2), if_neg (fun q => e2 q.2), if_neg (fun q => e2 q.2)]
        · rw [if_neg (fun q => e q.1)]
          by_cases e2 : i < j ∧ (z_rr σ c).2 = false ∧ (z_rr σ c).1.2.2.1.testBit i = true
          · rw [if_pos e2, if_pos ⟨by omega, e2.2⟩]
          · rw [if_neg e2, if_neg (fun q => e2 ⟨by omega, q.2⟩)]
    have IH := fun u4 h4 => ih f (j + 1) u4 (by omega) (by omega) h4
    by_cases cf : (z_rr σ c).2 = true
    · rw [if_pos cf] at IH ⊢
      rw [if_pos rfl]
      exact IH u3 (nxt u3 (fun _ => rfl) (fun _ _ _ => rfl) (fun i hi => by rw [if_neg (fun q => by rw [q.2.1] at cf; cases cf)]) (fun i hi => by rw [if_neg (fun q => by rw [q.2.1] at cf; cases cf)]))
    · have cf2 : (z_rr σ c).2 = false := Bool.eq_false_iff.mpr cf
      rw [if_neg cf] at IH ⊢
      rw [if_neg nb_10, r31, a1, h27, X_has (by omega) (by have := hin.2.1; omega), m_b_s]
      by_cases cb : (z_rr σ c).1.2.2.1.testBit j = true
      · have hj2 := nI_in2 (c := j) (N := 8) hj8 (by decide)
        rw [if_pos cb, if_neg nb_10, m_g_t hj2, m_g_t hj2, m_l_s, m_g_t hj2, m_l_s]
        have e13 : (x_sA u3 10 j (u3.2 25 j)).1 13 = nI (q_n σ + 1) := (r31 13).trans ((a1 13).trans h13)
        rw [e13]
        refine IH _ (nxt _ (fun _ => rfl) (fun t t1 t2 => ?_) (fun i hi => ?_) (fun i hi => ?_))
        · rw [xA_n t2, xA_n t1]
        · rw [xA_n (by decide), xA_s]
          by_cases e : i = j
          · subst e
            rw [pk_us, if_pos ⟨rfl, cf2, cb⟩]
          · rw [pk_un e, if_neg (fun q => e q.1)]
        · rw [xA_s, xA_n (by decide)]
          by_cases e : i = j
          · subst e
            rw [pk_us, if_pos ⟨rfl, cf2, cb⟩]
          · rw [pk_un e, if_neg (fun q => e q.1)]
      · rw [if_neg cb, if_pos rfl]
        exact IH u3 (nxt u3 (fun _ => rfl) (fun _ _ _ => rfl) (fun i hi => by rw [if_neg (fun q => cb q.2.2)]) (fun i hi => by rw [if_neg (fun q => cb q.2.2)]))
