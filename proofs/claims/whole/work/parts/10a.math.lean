/-! the class's calls that change its heap -/
section QMOD
variable {S : Nat → Prop} {w w' : mW} {ρ ρ' : Nat → Nat}
theorem pTG {a k t : Nat} (h : tg w ρ a k t) (g : ch S w ρ w' ρ') : tg w' ρ' a k t := tg_ch h g
theorem p0 {t0 h : Nat} {ad : Nat → Nat} (H : tg w ρ h 10 1 ∧ (∀ j, j < 8 → m_fr w 9 j h = some (ad j)) ∧ DF w ρ t0) (g : ch S w ρ w' ρ') (h0 : ¬ S 0 := by ((try unfold Sr); (try unfold S2); omega)) (h1 : ¬ S 1 := by ((try unfold Sr); (try unfold S2); omega)) : tg w' ρ' h 10 1 ∧ (∀ j, j < 8 → m_fr w' 9 j h = some (ad j)) ∧ DF w' ρ' t0 := by
  obtain ⟨a1, a2, a3⟩ := H
  obtain ⟨-, s2, -, -, -⟩ := tg_sm a1 g h1
  exact ⟨tg_ch a1 g, fun j hj => (s2 _ _).trans (a2 j hj), DF_ch a3 g h0⟩
theorem pAL {t0 a t : Nat} {L : List Nat} (h : AL w ρ t0 a t L) (g : ch S w ρ w' ρ') (h0 : ¬ S 0 := by ((try unfold Sr); (try unfold S2); omega)) (h1 : ¬ S t := by ((try unfold Sr); (try unfold S2); omega)) (h2 : ¬ S (t + 1) := by ((try unfold Sr); (try unfold S2); omega)) : AL w' ρ' t0 a t L := AL_ch h g h0 h1 h2
theorem pSEN {a t : Nat} {x : qN} (h : SEN w ρ a t x) (g : ch S w ρ w' ρ') (hs : ∀ q, t ≤ q → q < t + 5 → ¬ S q := by (intro q z1 z2; (try unfold Sr); (try unfold S2); omega)) : SEN w' ρ' a t x := SE_ch h g hs
theorem pNM {a t : Nat} (h : ∃ v s, NM w ρ a t v s) (g : ch S w ρ w' ρ') (h0 : ¬ S t := by ((try unfold Sr); (try unfold S2); omega)) (h1 : ¬ S (t + 1) := by ((try unfold Sr); (try unfold S2); omega)) (h2 : ¬ S (t + 2) := by ((try unfold Sr); (try unfold S2); omega)) : ∃ v s, NM w' ρ' a t v s := by
  obtain ⟨v, s, h⟩ := h
  exact ⟨v, s, NM_ch h g h0 h1 h2⟩
theorem pAT0 {a : Nat} (h : AT0 w ρ a) (g : ch S w ρ w' ρ') (hs : ∀ q, 40 ≤ q → q < 45 → ¬ S q := by (intro q z1 z2; (try unfold Sr); (try unfold S2); omega)) : AT0 w' ρ' a := AT0_ch h g hs
theorem pCEs {t0 N : Nat} {ca : Nat → Nat} {P : Nat → List nS} {C : Nat → Nat} {R : Nat → Nat → Nat} (h : ∀ k, k < N → CEP w ρ t0 (ca k) k (P k) (C k) (R k)) (hP : ∀ k, k < N → (P k).length ≤ 6) (hN : N ≤ 16) (g : ch S w ρ w' ρ') (h0 : ¬ S 0 := by ((try unfold Sr); (try unfold S2); omega)) (h1 : ∀ q, 100 ≤ q → q < 164 → ¬ S q := by (intro q z1 z2; (try unfold Sr); (try unfold S2); omega)) (h2 : ∀ q, 2000 ≤ q → q < 2096 → ¬ S q := by (intro q z1 z2; (try unfold Sr); (try unfold S2); omega)) : ∀ k, k < N → CEP w' ρ' t0 (ca k) k (P k) (C k) (R k) :=
  fun k hk => CEP_ch (h k hk) g (hP k hk) h0 (fun q z1 z2 => h1 q (by omega) (by omega)) (fun q z1 z2 => h2 q (by omega) (by omega))
theorem pRUs {n : Nat} {ra ca : Nat → Nat} {r : Nat → qR} (h : ∀ i, i < n → RU w ρ (ra i) (3000 + 2 * i) (i + 1) (ca (r i).1) (r i)) (g : ch S w ρ w' ρ') (h1 : ∀ q, 3000 ≤ q → q < 3000 + 2 * n → ¬ S q := by (intro q z1 z2; (try unfold Sr); (try unfold S2); omega)) : ∀ i, i < n → RU w' ρ' (ra i) (3000 + 2 * i) (i + 1) (ca (r i).1) (r i) :=
  fun i hi => RU_ch (h i hi) g (h1 _ (by omega) (by omega)) (h1 _ (by omega) (by omega))
theorem pIMs {n : Nat} {ia : Nat → Nat} {I : Nat → qN} (h : ∀ i, i < n → SEN w ρ (ia i) (200 + 5 * i) (I i)) (hn : n ≤ 10) (g : ch S w ρ w' ρ') (h1 : ∀ q, 200 ≤ q → q < 250 → ¬ S q := by (intro q z1 z2; (try unfold Sr); (try unfold S2); omega)) : ∀ i, i < n → SEN w' ρ' (ia i) (200 + 5 * i) (I i) :=
  fun i hi => SE_ch (h i hi) g (fun q z1 z2 => h1 q (by omega) (by omega))
end QMOD
theorem map_up {n x : Nat} {f : Nat → Nat} : (List.range (n + 1)).map (va_up f n x) = (List.range n).map f ++ [x] := by
  rw [List.range_succ, List.map_append, List.map_singleton, va_up_s]
  congr 1
  apply List.map_congr_left
  intro k hk
  rw [List.mem_range] at hk
  exact va_up_n (by omega)
theorem map_up2 {n x : Nat} {f : Nat → Nat} {l : List Nat} (h : ∀ k ∈ l, k < n) : l.map (va_up f n x) = l.map f := by
  apply List.map_congr_left
  intro k hk
  have := h k hk
  exact va_up_n (by omega)
theorem len_of_lt {n : Nat} : ∀ {l : List Nat} {a : Nat}, l.Pairwise (· < ·) → (∀ x ∈ l, a ≤ x ∧ x < n) → l.length ≤ n - a
  | [], _, _, _ => Nat.zero_le _
  | x :: l, a, hp, h => by
    have h1 := h x (List.mem_cons_self ..)
    rw [List.pairwise_cons] at hp
    have h2 := len_of_lt (l := l) (a := x + 1) hp.2 (fun y hy => ⟨hp.1 y hy, (h y (List.mem_cons_of_mem _ hy)).2⟩)
    rw [List.length_cons]
    omega
theorem qG_log {σ : qS} (hG : qG σ) : (q_G σ).length ≤ q_n σ := by
  have := len_of_lt (n := q_n σ) (a := 0) hG.2.2.2.2.2.2.1.1 (fun x hx => ⟨Nat.zero_le _, hG.2.2.2.2.2.2.1.2 x hx⟩)
  omega
/-- what no call of the class touches: the law's own cells, the reference's, the empty array -/
def SC : Nat → Prop := fun q => q ≠ 0 ∧ q ≠ 2 ∧ q ≠ 3
section QRUN
variable {w : mW} {ρ : Nat → Nat} {t0 : Nat × Nat × Nat × Nat} {h : Nat} {σ : qS} {ca ra ia ad : Nat → Nat}
theorem HC_makeRun (H : HC w ρ t0.1 h σ ca ra ia ad) (hG : qG σ) {us c : Nat} (hu : us < 5) (hc : c < q_N σ) (hn : q_n σ < 400) : ∃ w' ρ' x, e_X6_makeRun t0 w h (nI us) (ca c) = some (if (z_rr σ c).2 = true then 0 else 1, w') ∧ HC w' ρ' t0.1 h (z_mk σ us c) ca (va_up ra (q_n σ) x) ia ad ∧ ch SC w ρ w' ρ' := by
  have hN := hG.1
  have hin := z_rr_in hG hc
  have hlen := qG_log hG
  obtain ⟨p1, p2, p3, -⟩ := hG.2.2.1 c hc
  obtain ⟨a0, b1, b2, b3, b4, b5, b6, b7, b8, b9, b10, b11⟩ := id H
  obtain ⟨Lp, d1, d2⟩ := b9 c hc
  obtain ⟨pa, pr, e1, e2, e3, e4, e5, e6, e7, e8, e9⟩ := d1
  obtain ⟨na, la, n1, n2, n3, n4, n5, n6, n7⟩ := id b6
  have hkc := HC_ck H hc
  unfold e_X6_makeRun
  rw [m_g_t a0.1.1, a0.2.1 2 (by decide), m_o_s, m_g_t (AL_k3 b3), AL_size2 b3, m_b_s, m_g_t a0.1.1, a0.2.1 7 (by decide), m_o_s, m_g_t hkc, e3, m_o_s, a0.2.1 5 (by decide), m_o_s, m_g_t n1.1, n2, m_o_s, m_g_t (AT0_kd b8).1, nI_1]
  -- the program is done
  obtain ⟨w1, o, q1, q2, q3, q4, q5⟩ := AT_perform (k := nI (q_n σ + 1)) (ts := fun j => 2000 + 6 * c + j) (fun i => Or.inr (by omega)) (t := 21) (by omega) (tp := 100 + 4 * c + 1) (by omega) (fun q hq => by unfold Sr at hq; omega) p2 p1 e6 d2 n4 b8
  have q2' : AT w1 ρ (ad 7) (if (z_rr σ c).2 = true then 1 else 0) (if (z_rr σ c).2 = true then 0 else a_ho (z_rr σ c).1) o (z_rr σ c).1 := q2
  have q3' : (z_rr σ c).2 = false → o = a_out (z_rr σ c).1 := q3
  have q4' : NM w1 ρ na 21 (z_V σ c) (fun i => nI (z_S σ c i)) := NM_cong q4 (fun i hi => z_names hG hc hi)
  rw [q1, m_b_s, m_l_s]
  have c1 := p0 a0 q5
  have S1 : SEN w1 ρ (ad 5) 20 (z_V σ c, z_S σ c, q_L σ) := by
    obtain ⟨-, s2, -, -, -⟩ := tg_sm n1 q5 (by unfold Sr; omega)
    obtain ⟨-, -, s3, -, -⟩ := tg_sm n5 q5 (by unfold Sr; omega)
    exact ⟨na, la, tg_ch n1 q5, (s2 _ _).trans n2, (s2 _ _).trans n3, q4', tg_ch n5 q5, (tg_ln n5 q5).trans n6, fun i hi => by rw [s3]; exact n7 i hi⟩
  -- the run's object
  have g2 : ch (fun _ => False) w1 ρ (m_nO w1 6) (va_up ρ (m_nx w1) (3000 + 2 * q_n σ)) := ch_nO
  have t2 : tg (m_nO w1 6) (va_up ρ (m_nx w1) (3000 + 2 * q_n σ)) (m_nx w1) 7 (3000 + 2 * q_n σ) := ⟨by simp only [kd_sI, fi_sI, fr_sI, ln_sI, ia_sI, oa_sI, la_sI, nx_sI, kd_sR, fi_sR, fr_sR, ln_sR, ia_sR, oa_sR, la_sR, nx_sR, kd_sA, fi_sA, fr_sA, ln_sA, ia_sA, oa_sA, la_sA, nx_sA, kd_sO, fi_sO, fr_sO, ln_sO, ia_sO, oa_sO, la_sO, nx_sO, kd_sL, fi_sL, fr_sL, ln_sL, ia_sL, oa_sL, la_sL, nx_sL, kd_sF, fi_sF, fr_sF, ln_sF, ia_sF, oa_sF, la_sF, nx_sF, kd_sG, fi_sG, fr_sG, ln_sG, ia_sG, oa_sG, la_sG, nx_sG, kd_sX, fi_sX, fr_sX, ln_sX, ia_sX, oa_sX, la_sX, nx_sX, kd_nO, fi_nO, fr_nO, ln_nO, ia_nO, oa_nO, la_nO, nx_nO, kd_nA, fi_nA, fr_nA, ln_nA, ia_nA, oa_nA, la_nA, nx_nA, va_up_s], va_up_s, by simp only [kd_sI, fi_sI, fr_sI, ln_sI, ia_sI, oa_sI, la_sI, nx_sI, kd_sR, fi_sR, fr_sR, ln_sR, ia_sR, oa_sR, la_sR, nx_sR, kd_sA, fi_sA, fr_sA, ln_sA, ia_sA, oa_sA, la_sA, nx_sA, kd_sO, fi_sO, fr_sO, ln_sO, ia_sO, oa_sO, la_sO, nx_sO, kd_sL, fi_sL, fr_sL, ln_sL, ia_sL, oa_sL, la_sL, nx_sL, kd_sF, fi_sF, fr_sF, ln_sF, ia_sF, oa_sF, la_sF, nx_sF, kd_sG, fi_sG, fr_sG, ln_sG, ia_sG, oa_sG, la_sG, nx_sG, kd_sX, fi_sX, fr_sX, ln_sX, ia_sX, oa_sX, la_sX, nx_sX, kd_nO, fi_nO, fr_nO, ln_nO, ia_nO, oa_nO, la_nO, nx_nO, kd_nA, fi_nA, fr_nA, ln_nA, ia_nA, oa_nA, la_nA, nx_nA]; omega⟩
  have G2 : ch (fun q => Sr 40 5 q ∨ Sr (21 + 1) 2 q) w ρ (m_nO w1 6) (va_up ρ (m_nx w1) (3000 + 2 * q_n σ)) := ch_trans q5 (ch_mono g2 (fun _ hq => hq.elim))
  have c2 := p0 c1 g2 (fun h => h) (fun h => h)
  have A2 := AT_ch q2' g2 (fun _ _ _ h => h)
  have S2' := pSEN S1 g2 (fun _ _ _ h => h)
  generalize m_nO w1 6 = w2 at *
  generalize va_up ρ (m_nx w1) (3000 + 2 * q_n σ) = ρ2 at *
  generalize m_nx w1 = x at *
  rw [m_g_t c2.1.1, c2.2.1 7 (by decide), m_o_s]
  obtain ⟨w3, ρ3, r1, r2, r3⟩ := RU_init (n := q_n σ + 1) (c := c) (ca := ca c) (us := us) (res := z_res (z_rr σ c)) (ss := q_S σ) (Or.inr (by omega)) t2 A2 (by
    unfold z_res
    by_cases e : (z_rr σ c).2 = true
    · rw [if_pos e, if_pos e, if_pos rfl]
    · rw [if_neg e, if_neg e]; rfl) (fun z hz => by
    unfold z_res at hz
    by_cases e : (z_rr σ c).2 = true
    · rw [if_pos e] at hz; cases hz
    · rw [if_neg e] at hz
      rw [q3' (Bool.eq_false_iff.mpr e)]
      unfold a_out
      rw [hz]
      rfl) (fun i hi hb => (hin.1 i hi).2.2 hb)
  rw [r1, m_b_s]
  have G3 : ch (fun q => (Sr 40 5 q ∨ Sr (21 + 1) 2 q) ∨ Sr (3000 + 2 * q_n σ) 2 q) w ρ w3 ρ3 := ch_trans (ch_mono G2 (fun _ hq => Or.inl hq)) (ch_mono r3 (fun _ hq => Or.inr hq))
  have c3 := p0 c2 r3
  have A3 := AT_ch A2 r3 (fun q z1 z2 => by unfold Sr; omega)
  have S3 := pSEN S2' r3
  have L3 := pAL b3 G3
  rw [m_g_t c3.1.1, c3.2.1 2 (by decide), m_o_s, m_g_t (AL_k3 L3)]
  have x3 := RU_kd r2
  obtain ⟨w4, ρ4, s1, s2, s3⟩ := AL_add (t0 := t0) L3 (by decide) (by rw [List.length_map, List.length_range]; exact hn) (x := x) ⟨x3.2.2, by rw [x3.1]; decide, by rw [x3.1]; decide⟩
  rw [s1, m_b_s]
  have c4 := p0 c3 s3
  have R4 := RU_ch r2 s3 (by unfold S2; omega) (by unfold S2; omega)
  have G4 : ch (fun q => ((Sr 40 5 q ∨ Sr (21 + 1) 2 q) ∨ Sr (3000 + 2 * q_n σ) 2 q) ∨ S2 14 q) w ρ w4 ρ4 := ch_trans (ch_mono G3 (fun _ hq => Or.inl hq)) (ch_mono s3 (fun _ hq => Or.inr hq))
  have L4 := pAL b4 G4
  rw [m_g_t c4.1.1, c4.2.1 3 (by decide), m_o_s, m_g_t (AL_k3 L4)]
  have x4 := RU_kd R4
  obtain ⟨w5, ρ5, u1, u2, u3⟩ := AL_add (t0 := t0) L4 (by decide) (by rw [List.length_map]; omega) (x := x) ⟨x4.2.2, by rw [x4.1]; decide, by rw [x4.1]; decide⟩
  rw [u1, m_b_s]
  have c5 := p0 c4 u3
  have S5 := pSEN (pSEN S3 s3) u3
  have G5 : ch (fun q => (((Sr 40 5 q ∨ Sr (21 + 1) 2 q) ∨ Sr (3000 + 2 * q_n σ) 2 q) ∨ S2 14 q) ∨ S2 16 q) w ρ w5 ρ5 := ch_trans (ch_mono G4 (fun _ hq => Or.inl hq)) (ch_mono u3 (fun _ hq => Or.inr hq))
  have C5 := pCEs b9 (fun k hk => (hG.2.2.1 k hk).1) hN G5
  obtain ⟨Lq, D5, -⟩ := C5 c hc
  rw [m_g_t c5.1.1, c5.2.1 5 (by decide), m_o_s, m_g_t (CE_kd D5).1, m_g_t (SE_kd S5).1, CE_num D5]
  obtain ⟨w6, v1, v2, v3⟩ := SE_setLastRun S5 (i := c) (by omega) (nI (q_n σ + 1))
  rw [v1, m_b_s]
  have c6 := p0 c5 v3
  have G6 : ch (fun q => ((((Sr 40 5 q ∨ Sr (21 + 1) 2 q) ∨ Sr (3000 + 2 * q_n σ) 2 q) ∨ S2 14 q) ∨ S2 16 q) ∨ q = 20 + 4) w ρ w6 ρ5 := ch_trans (ch_mono G5 (fun _ hq => Or.inl hq)) (ch_mono v3 (fun _ hq => Or.inr hq))
  have A6 := AT_ch (AT_ch (AT_ch A3 s3 (fun q z1 z2 => by unfold S2; omega)) u3 (fun q z1 z2 => by unfold S2; omega)) v3 (fun q z1 z2 => by omega)
  have f6 : m_fi w6 3 0 (ad 7) = (if (z_rr σ c).2 = true then 1 else 0) := by
    obtain ⟨_, _, _, q, _⟩ := A6
    exact q
  rw [m_g_t c6.1.1, c6.2.1 7 (by decide), m_o_s, m_g_t (AT_kd A6).1, f6]
  refine ⟨w6, ρ5, x, ?_, ⟨c6, pAL b1 G6, pAL b2 G6, ?_, ?_, pAL b5 G6, ?_, pNM b7 G6, AT_0 A6, pCEs b9 (fun k hk => (hG.2.2.1 k hk).1) hN G6, fun i hi => ?_, pIMs b11 hG.2.2.2.2.2.2.2.1 G6⟩, ch_mono G6 (fun q hq => by unfold SC; unfold Sr S2 at hq; omega)⟩
  · unfold e_X6_makeRun_92
    by_cases e : (z_rr σ c).2 = true
    · rw [if_pos e, if_neg nb_10, m_g_t vb0, if_pos e]
    · rw [if_neg e, if_pos rfl, m_g_t vb1, if_neg e]
  · have := pAL (pAL s2 u3) v3
    rw [← map_up] at this
    exact this
  · have := pAL u2 v3
    show AL w6 ρ5 t0.1 (ad 3) 16 ((q_G σ ++ [q_n σ]).map (va_up ra (q_n σ) x))
    rw [List.map_append, map_up2 hG.2.2.2.2.2.2.1.2, List.map_singleton, va_up_s]
    exact this
  · refine SE_cong v2 (fun i hi => ⟨rfl, rfl⟩) (fun i hi => ?_)
    show upd (fun i => nI (q_L σ i)) c (nI (q_n σ + 1)) i = nI (va_up (q_L σ) c (q_n σ + 1) i)
    by_cases e : i = c
    · subst e
      rw [pk_us, va_up_s]
    · rw [pk_un e, va_up_n e]
  · have hi' : i < q_n σ + 1 := hi
    show RU w6 ρ5 (va_up ra (q_n σ) x i) (3000 + 2 * i) (i + 1) (ca (va_up (q_r σ) (q_n σ) (z_new σ us c) i).1) (va_up (q_r σ) (q_n σ) (z_new σ us c) i)
    by_cases e : i = q_n σ
    · subst e
      rw [va_up_s, va_up_s]
      exact RU_ch (RU_ch R4 u3 (by unfold S2; omega) (by unfold S2; omega)) v3 (by omega) (by omega)
    · rw [va_up_n e, va_up_n e]
      exact RU_ch (b10 i (by omega)) G6 (by unfold Sr S2; omega) (by unfold Sr S2; omega)
end QRUN
