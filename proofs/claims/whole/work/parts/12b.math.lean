/-! the reference made -/
def x7L : List (Nat × Nat × Nat) := [(1, 21, 16), (2, 21, 16), (3, 21, 96), (4, 21, 96), (5, 21, 96), (6, 21, 96), (7, 21, 16), (8, 21, 16), (9, 21, 80), (10, 21, 8), (11, 21, 8), (12, 21, 8), (14, 21, 401), (15, 21, 401), (16, 21, 401), (17, 21, 401), (18, 22, 401), (19, 22, 401), (20, 21, 3208), (22, 21, 80), (23, 21, 80), (24, 21, 160), (25, 21, 8), (30, 21, 16)]
def x7f (h : Nat) : List (Nat × Nat × Nat) → mW → mW
  | [], w => w
  | x :: L, w => x7f h L (m_sR (m_nA w x.2.1 x.2.2) 10 x.1 h (some (m_nx w)))
theorem x7_kd {w : mW} {h k n : Nat} {v : Option Nat} {j : Nat} (hk : m_kd w h = 11) (hn : h ≠ m_nx w) : m_kd (m_sR (m_nA w k n) 10 j h v) h = 11 := by
  simp only [kd_sI, fi_sI, fr_sI, ln_sI, ia_sI, oa_sI, la_sI, nx_sI, kd_sR, fi_sR, fr_sR, ln_sR, ia_sR, oa_sR, la_sR, nx_sR, kd_sA, fi_sA, fr_sA, ln_sA, ia_sA, oa_sA, la_sA, nx_sA, kd_sO, fi_sO, fr_sO, ln_sO, ia_sO, oa_sO, la_sO, nx_sO, kd_sL, fi_sL, fr_sL, ln_sL, ia_sL, oa_sL, la_sL, nx_sL, kd_sF, fi_sF, fr_sF, ln_sF, ia_sF, oa_sF, la_sF, nx_sF, kd_sG, fi_sG, fr_sG, ln_sG, ia_sG, oa_sG, la_sG, nx_sG, kd_sX, fi_sX, fr_sX, ln_sX, ia_sX, oa_sX, la_sX, nx_sX, kd_nO, fi_nO, fr_nO, ln_nO, ia_nO, oa_nO, la_nO, nx_nO, kd_nA, fi_nA, fr_nA, ln_nA, ia_nA, oa_nA, la_nA, nx_nA]
  rw [va_up_n hn]
  exact hk
theorem x7_ia (h : Nat) : ∀ (L : List (Nat × Nat × Nat)) (w : mW) (a : Nat), a < m_nx w → m_ia (x7f h L w) a = m_ia w a
  | [], w, a, _ => rfl
  | x :: L, w, a, ha => by
    have e := x7_ia h L (m_sR (m_nA w x.2.1 x.2.2) 10 x.1 h (some (m_nx w))) a (by simp only [kd_sI, fi_sI, fr_sI, ln_sI, ia_sI, oa_sI, la_sI, nx_sI, kd_sR, fi_sR, fr_sR, ln_sR, ia_sR, oa_sR, la_sR, nx_sR, kd_sA, fi_sA, fr_sA, ln_sA, ia_sA, oa_sA, la_sA, nx_sA, kd_sO, fi_sO, fr_sO, ln_sO, ia_sO, oa_sO, la_sO, nx_sO, kd_sL, fi_sL, fr_sL, ln_sL, ia_sL, oa_sL, la_sL, nx_sL, kd_sF, fi_sF, fr_sF, ln_sF, ia_sF, oa_sF, la_sF, nx_sF, kd_sG, fi_sG, fr_sG, ln_sG, ia_sG, oa_sG, la_sG, nx_sG, kd_sX, fi_sX, fr_sX, ln_sX, ia_sX, oa_sX, la_sX, nx_sX, kd_nO, fi_nO, fr_nO, ln_nO, ia_nO, oa_nO, la_nO, nx_nO, kd_nA, fi_nA, fr_nA, ln_nA, ia_nA, oa_nA, la_nA, nx_nA]; omega)
    refine Eq.trans e ?_
    simp only [kd_sI, fi_sI, fr_sI, ln_sI, ia_sI, oa_sI, la_sI, nx_sI, kd_sR, fi_sR, fr_sR, ln_sR, ia_sR, oa_sR, la_sR, nx_sR, kd_sA, fi_sA, fr_sA, ln_sA, ia_sA, oa_sA, la_sA, nx_sA, kd_sO, fi_sO, fr_sO, ln_sO, ia_sO, oa_sO, la_sO, nx_sO, kd_sL, fi_sL, fr_sL, ln_sL, ia_sL, oa_sL, la_sL, nx_sL, kd_sF, fi_sF, fr_sF, ln_sF, ia_sF, oa_sF, la_sF, nx_sF, kd_sG, fi_sG, fr_sG, ln_sG, ia_sG, oa_sG, la_sG, nx_sG, kd_sX, fi_sX, fr_sX, ln_sX, ia_sX, oa_sX, la_sX, nx_sX, kd_nO, fi_nO, fr_nO, ln_nO, ia_nO, oa_nO, la_nO, nx_nO, kd_nA, fi_nA, fr_nA, ln_nA, ia_nA, oa_nA, la_nA, nx_nA]
    exact va_up_n (Nat.ne_of_lt ha)
theorem x7_inv (h : Nat) : ∀ (L : List (Nat × Nat × Nat)) (w : mW) (ρ : Nat → Nat), tg w ρ h 11 3 → (L.map Prod.fst).Nodup →
    m_nx (x7f h L w) = m_nx w + L.length ∧ (∀ i (hi : i < L.length), m_kd (x7f h L w) (m_nx w + i) = L[i].2.1 ∧ m_ln (x7f h L w) (m_nx w + i) = L[i].2.2 ∧ m_ia (x7f h L w) (m_nx w + i) = (fun _ => 0) ∧ m_fr (x7f h L w) 10 L[i].1 h = some (m_nx w + i)) ∧
    (∀ j, j ∉ L.map Prod.fst → m_fr (x7f h L w) 10 j h = m_fr w 10 j h) ∧ m_fi (x7f h L w) = m_fi w ∧ ∃ ρ', (∀ i, i < L.length → ρ' (m_nx w + i) = 3) ∧ ch (fun q => q = 3) w ρ (x7f h L w) ρ'
  | [], w, ρ, H, _ => ⟨rfl, fun i hi => absurd hi (Nat.not_lt_zero i), fun _ _ => rfl, rfl, ρ, fun i hi => absurd hi (Nat.not_lt_zero i), ch_rfl⟩
  | x :: L, w, ρ, H, hd => by
    obtain ⟨w1, hw1⟩ : ∃ w1, w1 = m_sR (m_nA w x.2.1 x.2.2) 10 x.1 h (some (m_nx w)) := ⟨_, rfl⟩
    have hn := tg_nx H
    have hd1 : x.1 ∉ L.map Prod.fst ∧ (L.map Prod.fst).Nodup := List.nodup_cons.mp hd
    have g : ch (fun q => q = 3) w ρ w1 (va_up ρ (m_nx w) 3) := by
      rw [hw1]
      exact ch_trans ch_nA (ch_sR (by rw [va_up_n hn]; exact H.2.1))
    have H1 := tg_ch H g
    have e0 : m_nx w1 = m_nx w + 1 := by rw [hw1]; simp only [kd_sI, fi_sI, fr_sI, ln_sI, ia_sI, oa_sI, la_sI, nx_sI, kd_sR, fi_sR, fr_sR, ln_sR, ia_sR, oa_sR, la_sR, nx_sR, kd_sA, fi_sA, fr_sA, ln_sA, ia_sA, oa_sA, la_sA, nx_sA, kd_sO, fi_sO, fr_sO, ln_sO, ia_sO, oa_sO, la_sO, nx_sO, kd_sL, fi_sL, fr_sL, ln_sL, ia_sL, oa_sL, la_sL, nx_sL, kd_sF, fi_sF, fr_sF, ln_sF, ia_sF, oa_sF, la_sF, nx_sF, kd_sG, fi_sG, fr_sG, ln_sG, ia_sG, oa_sG, la_sG, nx_sG, kd_sX, fi_sX, fr_sX, ln_sX, ia_sX, oa_sX, la_sX, nx_sX, kd_nO, fi_nO, fr_nO, ln_nO, ia_nO, oa_nO, la_nO, nx_nO, kd_nA, fi_nA, fr_nA, ln_nA, ia_nA, oa_nA, la_nA, nx_nA]
    have t1 : tg w1 (va_up ρ (m_nx w) 3) (m_nx w) x.2.1 3 := ⟨by rw [hw1]; simp only [kd_sI, fi_sI, fr_sI, ln_sI, ia_sI, oa_sI, la_sI, nx_sI, kd_sR, fi_sR, fr_sR, ln_sR, ia_sR, oa_sR, la_sR, nx_sR, kd_sA, fi_sA, fr_sA, ln_sA, ia_sA, oa_sA, la_sA, nx_sA, kd_sO, fi_sO, fr_sO, ln_sO, ia_sO, oa_sO, la_sO, nx_sO, kd_sL, fi_sL, fr_sL, ln_sL, ia_sL, oa_sL, la_sL, nx_sL, kd_sF, fi_sF, fr_sF, ln_sF, ia_sF, oa_sF, la_sF, nx_sF, kd_sG, fi_sG, fr_sG, ln_sG, ia_sG, oa_sG, la_sG, nx_sG, kd_sX, fi_sX, fr_sX, ln_sX, ia_sX, oa_sX, la_sX, nx_sX, kd_nO, fi_nO, fr_nO, ln_nO, ia_nO, oa_nO, la_nO, nx_nO, kd_nA, fi_nA, fr_nA, ln_nA, ia_nA, oa_nA, la_nA, nx_nA, va_up_s], va_up_s, by rw [e0]; omega⟩
    have a1 : m_ln w1 (m_nx w) = x.2.2 := by rw [hw1]; simp only [kd_sI, fi_sI, fr_sI, ln_sI, ia_sI, oa_sI, la_sI, nx_sI, kd_sR, fi_sR, fr_sR, ln_sR, ia_sR, oa_sR, la_sR, nx_sR, kd_sA, fi_sA, fr_sA, ln_sA, ia_sA, oa_sA, la_sA, nx_sA, kd_sO, fi_sO, fr_sO, ln_sO, ia_sO, oa_sO, la_sO, nx_sO, kd_sL, fi_sL, fr_sL, ln_sL, ia_sL, oa_sL, la_sL, nx_sL, kd_sF, fi_sF, fr_sF, ln_sF, ia_sF, oa_sF, la_sF, nx_sF, kd_sG, fi_sG, fr_sG, ln_sG, ia_sG, oa_sG, la_sG, nx_sG, kd_sX, fi_sX, fr_sX, ln_sX, ia_sX, oa_sX, la_sX, nx_sX, kd_nO, fi_nO, fr_nO, ln_nO, ia_nO, oa_nO, la_nO, nx_nO, kd_nA, fi_nA, fr_nA, ln_nA, ia_nA, oa_nA, la_nA, nx_nA, va_up_s]
    have a2 : m_ia w1 (m_nx w) = (fun _ => 0) := by rw [hw1]; simp only [kd_sI, fi_sI, fr_sI, ln_sI, ia_sI, oa_sI, la_sI, nx_sI, kd_sR, fi_sR, fr_sR, ln_sR, ia_sR, oa_sR, la_sR, nx_sR, kd_sA, fi_sA, fr_sA, ln_sA, ia_sA, oa_sA, la_sA, nx_sA, kd_sO, fi_sO, fr_sO, ln_sO, ia_sO, oa_sO, la_sO, nx_sO, kd_sL, fi_sL, fr_sL, ln_sL, ia_sL, oa_sL, la_sL, nx_sL, kd_sF, fi_sF, fr_sF, ln_sF, ia_sF, oa_sF, la_sF, nx_sF, kd_sG, fi_sG, fr_sG, ln_sG, ia_sG, oa_sG, la_sG, nx_sG, kd_sX, fi_sX, fr_sX, ln_sX, ia_sX, oa_sX, la_sX, nx_sX, kd_nO, fi_nO, fr_nO, ln_nO, ia_nO, oa_nO, la_nO, nx_nO, kd_nA, fi_nA, fr_nA, ln_nA, ia_nA, oa_nA, la_nA, nx_nA, va_up_s]
    have a3 : m_fr w1 10 x.1 h = some (m_nx w) := by rw [hw1]; simp only [kd_sI, fi_sI, fr_sI, ln_sI, ia_sI, oa_sI, la_sI, nx_sI, kd_sR, fi_sR, fr_sR, ln_sR, ia_sR, oa_sR, la_sR, nx_sR, kd_sA, fi_sA, fr_sA, ln_sA, ia_sA, oa_sA, la_sA, nx_sA, kd_sO, fi_sO, fr_sO, ln_sO, ia_sO, oa_sO, la_sO, nx_sO, kd_sL, fi_sL, fr_sL, ln_sL, ia_sL, oa_sL, la_sL, nx_sL, kd_sF, fi_sF, fr_sF, ln_sF, ia_sF, oa_sF, la_sF, nx_sF, kd_sG, fi_sG, fr_sG, ln_sG, ia_sG, oa_sG, la_sG, nx_sG, kd_sX, fi_sX, fr_sX, ln_sX, ia_sX, oa_sX, la_sX, nx_sX, kd_nO, fi_nO, fr_nO, ln_nO, ia_nO, oa_nO, la_nO, nx_nO, kd_nA, fi_nA, fr_nA, ln_nA, ia_nA, oa_nA, la_nA, nx_nA, u3_s]
    have a4 : ∀ j, j ≠ x.1 → m_fr w1 10 j h = m_fr w 10 j h := fun j hj => by rw [hw1]; simp only [kd_sI, fi_sI, fr_sI, ln_sI, ia_sI, oa_sI, la_sI, nx_sI, kd_sR, fi_sR, fr_sR, ln_sR, ia_sR, oa_sR, la_sR, nx_sR, kd_sA, fi_sA, fr_sA, ln_sA, ia_sA, oa_sA, la_sA, nx_sA, kd_sO, fi_sO, fr_sO, ln_sO, ia_sO, oa_sO, la_sO, nx_sO, kd_sL, fi_sL, fr_sL, ln_sL, ia_sL, oa_sL, la_sL, nx_sL, kd_sF, fi_sF, fr_sF, ln_sF, ia_sF, oa_sF, la_sF, nx_sF, kd_sG, fi_sG, fr_sG, ln_sG, ia_sG, oa_sG, la_sG, nx_sG, kd_sX, fi_sX, fr_sX, ln_sX, ia_sX, oa_sX, la_sX, nx_sX, kd_nO, fi_nO, fr_nO, ln_nO, ia_nO, oa_nO, la_nO, nx_nO, kd_nA, fi_nA, fr_nA, ln_nA, ia_nA, oa_nA, la_nA, nx_nA]; rw [u3_j hj]
    have a5 : m_fi w1 = m_fi w := by rw [hw1]; simp only [kd_sI, fi_sI, fr_sI, ln_sI, ia_sI, oa_sI, la_sI, nx_sI, kd_sR, fi_sR, fr_sR, ln_sR, ia_sR, oa_sR, la_sR, nx_sR, kd_sA, fi_sA, fr_sA, ln_sA, ia_sA, oa_sA, la_sA, nx_sA, kd_sO, fi_sO, fr_sO, ln_sO, ia_sO, oa_sO, la_sO, nx_sO, kd_sL, fi_sL, fr_sL, ln_sL, ia_sL, oa_sL, la_sL, nx_sL, kd_sF, fi_sF, fr_sF, ln_sF, ia_sF, oa_sF, la_sF, nx_sF, kd_sG, fi_sG, fr_sG, ln_sG, ia_sG, oa_sG, la_sG, nx_sG, kd_sX, fi_sX, fr_sX, ln_sX, ia_sX, oa_sX, la_sX, nx_sX, kd_nO, fi_nO, fr_nO, ln_nO, ia_nO, oa_nO, la_nO, nx_nO, kd_nA, fi_nA, fr_nA, ln_nA, ia_nA, oa_nA, la_nA, nx_nA]
    obtain ⟨b1, b2, b3, b4, ρ', b5, b6⟩ := x7_inv h L w1 _ H1 hd1.2
    have e1 : x7f h (x :: L) w = x7f h L w1 := by rw [hw1]; rfl
    rw [e1]
    have c1 := b6.2 (m_nx w) t1.2.2
    refine ⟨by rw [b1, e0, List.length_cons]; omega, fun i hi => ?_, fun j hj => ?_, b4.trans a5, ρ', fun i hi => ?_, ch_trans g b6⟩
    · match i, hi with
      | 0, hi =>
        refine ⟨c1.2.1.trans t1.1, c1.2.2.1.trans a1, ?_, (b3 _ hd1.1).trans a3⟩
        have := x7_ia h L w1 (m_nx w) t1.2.2
        exact this.trans a2
      | i + 1, hi =>
        have hi2 : i < L.length := by rw [List.length_cons] at hi; omega
        have e2 : m_nx w + (i + 1) = m_nx w1 + i := by rw [e0]; omega
        obtain ⟨d1, d2, d3, d4⟩ := b2 i hi2
        rw [e2]
        exact ⟨d1, d2, d3, d4⟩
    · rw [List.map_cons, List.mem_cons, not_or] at hj
      exact (b3 j hj.2).trans (a4 j hj.1)
    · match i, hi with
      | 0, hi => exact c1.1.trans t1.2.1
      | i + 1, hi =>
        have hi2 : i < L.length := by rw [List.length_cons] at hi; omega
        have e2 : m_nx w + (i + 1) = m_nx w1 + i := by rw [e0]; omega
        rw [e2]
        exact b5 i hi2
theorem x7_run {w : mW} {ρ : Nat → Nat} {h : Nat} (H : tg w ρ h 11 3) : e_X7_init w h = some ((), x7f h x7L w) := by
  have z16 : (16 : Int32).toNatClampNeg = 16 := by decide +kernel
  have z96 : (96 : Int32).toNatClampNeg = 96 := by decide +kernel
  have z80 : (80 : Int32).toNatClampNeg = 80 := by decide +kernel
  have z8 : (8 : Int32).toNatClampNeg = 8 := by decide +kernel
  have z401 : (401 : Int32).toNatClampNeg = 401 := by decide +kernel
  have z3208 : (3208 : Int32).toNatClampNeg = 3208 := by decide +kernel
  have z160 : (160 : Int32).toNatClampNeg = 160 := by decide +kernel
  have k1 : m_kd (m_nA w 21 16) h = 11 := by
    simp only [kd_sI, fi_sI, fr_sI, ln_sI, ia_sI, oa_sI, la_sI, nx_sI, kd_sR, fi_sR, fr_sR, ln_sR, ia_sR, oa_sR, la_sR, nx_sR, kd_sA, fi_sA, fr_sA, ln_sA, ia_sA, oa_sA, la_sA, nx_sA, kd_sO, fi_sO, fr_sO, ln_sO, ia_sO, oa_sO, la_sO, nx_sO, kd_sL, fi_sL, fr_sL, ln_sL, ia_sL, oa_sL, la_sL, nx_sL, kd_sF, fi_sF, fr_sF, ln_sF, ia_sF, oa_sF, la_sF, nx_sF, kd_sG, fi_sG, fr_sG, ln_sG, ia_sG, oa_sG, la_sG, nx_sG, kd_sX, fi_sX, fr_sX, ln_sX, ia_sX, oa_sX, la_sX, nx_sX, kd_nO, fi_nO, fr_nO, ln_nO, ia_nO, oa_nO, la_nO, nx_nO, kd_nA, fi_nA, fr_nA, ln_nA, ia_nA, oa_nA, la_nA, nx_nA]
    rw [va_up_n (tg_nx H)]
    exact H.1
  unfold e_X7_init
  rw [z16, z96, z80, z8, z401, z3208, z160, m_g_t (by decide +kernel), m_l_s, m_g_t k1, m_l_s]
  iterate 23 rw [m_g_t (by decide +kernel), m_l_s, m_l_s]
  rfl
def x7i (j : Nat) : Nat := (x7L.map Prod.fst).idxOf j
def x7I (n a : Nat) : Option Nat := if n ≤ a ∧ a < n + 24 then some ((x7L.getD (a - n) (0, 0, 0)).1) else none
theorem x7_d1 : ∀ j, j < 32 → 0 < x_len j → x7i j < 24 ∧ x7L.getD (x7i j) (0, 0, 0) = (j, x_ty j, x_len j) := by decide +kernel
theorem x7_d2 : ∀ i, i < 24 → 0 < x_len (x7L.getD i (0, 0, 0)).1 ∧ x7i (x7L.getD i (0, 0, 0)).1 = i := by decide +kernel
theorem x7_d3 (j : Nat) (h : 0 < x_len j) : j < 32 := by
  by_cases c : j < 32
  · exact c
  · exfalso
    unfold x_len at h
    rw [List.getD_eq_getElem?_getD, List.getElem?_eq_none (by show 32 ≤ j; omega)] at h
    exact Nat.lt_irrefl 0 h
def u_0 : xS := (fun _ => 0, fun _ _ => 0)
theorem u_0X : HX u_0 q_0 := by
  have e0 : (0 : Int32) = nI 0 := nI_0.symm
  refine ⟨⟨e0, e0, e0⟩, fun k hk => absurd hk (Nat.not_lt_zero k), fun k hk => absurd hk (Nat.not_lt_zero k), fun k _ _ => ⟨rfl, rfl, fun _ _ _ => rfl⟩, fun k _ => e0, fun i _ => ⟨e0, fun q => absurd rfl q, e0⟩, fun i hi => absurd hi (Nat.not_lt_zero i), fun i _ _ => rfl, ⟨rfl, rfl⟩, fun i hi => absurd hi (Nat.not_lt_zero i)⟩
theorem x7_hI {n a j : Nat} (h : x7I n a = some j) : 0 < x_len j ∧ a = n + x7i j ∧ a < n + 24 := by
  unfold x7I at h
  by_cases c : n ≤ a ∧ a < n + 24
  · rw [if_pos c] at h
    have hj := Option.some.inj h
    obtain ⟨d1, d2⟩ := x7_d2 (a - n) (by omega)
    rw [hj] at d1 d2
    exact ⟨d1, by omega, by omega⟩
  · rw [if_neg c] at h
    exact nomatch h
theorem x7_hA (n : Nat) {j : Nat} (hj : 0 < x_len j) : x7i j < 24 ∧ x7I n (n + x7i j) = some j := by
  obtain ⟨d1, d2⟩ := x7_d1 j (x7_d3 j hj) hj
  refine ⟨d1, ?_⟩
  unfold x7I
  rw [if_pos (by omega), show n + x7i j - n = x7i j by omega, d2]
theorem x7_get {i j : Nat} (h : x7L.getD i (0, 0, 0) = (j, x_ty j, x_len j)) (hlt : i < x7L.length) : x7L[i]'hlt = (j, x_ty j, x_len j) := by
  rw [List.getD_eq_getElem?_getD, List.getElem?_eq_getElem hlt, Option.getD_some] at h
  exact h
theorem x7_ov {V : mW} {b n : Nat} (h0 : ∀ j, m_fi V 10 j b = 0) (h1 : ∀ a j, x7I n a = some j → m_ia V a = fun _ => 0) : x_ov (V, b, (fun j => n + x7i j), x7I n) u_0 = V := by
  have e1 : (fun c j a => if c = 10 ∧ a = b then (0 : Int32) else m_fi V c j a) = m_fi V := by
    funext c j a
    by_cases hq : c = 10 ∧ a = b
    · rw [if_pos hq, hq.1, hq.2, h0]
    · rw [if_neg hq]
  have e2 : (fun a => (match x7I n a with
    | some _ => (fun _ => (0 : Int32))
    | none => m_ia V a)) = m_ia V := by
    funext a
    cases hq : x7I n a with
    | none => rfl
    | some j => exact (h1 a j hq).symm
  exact Prod.ext rfl (Prod.ext e1 (Prod.ext rfl (Prod.ext rfl (Prod.ext e2 rfl))))
theorem x7_made {w2 : mW} {ρ2 : Nat → Nat} : ∃ w4 ρ4, e_X7_init (m_nO w2 10) (m_nx w2) = some ((), w4) ∧ m_nx w4 = m_nx w2 + 25 ∧ ch (fun q => q = 3) w2 ρ2 w4 ρ4 ∧ tg w4 ρ4 (m_nx w2) 11 3 ∧ (∀ j, m_fi w4 10 j (m_nx w2) = 0) ∧ (∀ i, i < 24 → ρ4 (m_nx w2 + 1 + i) = 3) ∧
    ∀ j, 0 < x_len j → m_fr w4 10 j (m_nx w2) = some (m_nx w2 + 1 + x7i j) ∧ m_kd w4 (m_nx w2 + 1 + x7i j) = x_ty j ∧ m_ln w4 (m_nx w2 + 1 + x7i j) = x_len j ∧ m_ia w4 (m_nx w2 + 1 + x7i j) = (fun _ => 0) := by
  have g2 : ch (fun q => q = 3) w2 ρ2 (m_nO w2 10) (va_up ρ2 (m_nx w2) 3) := ch_nO
  have H3 : tg (m_nO w2 10) (va_up ρ2 (m_nx w2) 3) (m_nx w2) 11 3 := tg_nO
  have hnd : (x7L.map Prod.fst).Nodup := by decide +kernel
  have e3 : m_nx (m_nO w2 10) = m_nx w2 + 1 := by simp only [kd_sI, fi_sI, fr_sI, ln_sI, ia_sI, oa_sI, la_sI, nx_sI, kd_sR, fi_sR, fr_sR, ln_sR, ia_sR, oa_sR, la_sR, nx_sR, kd_sA, fi_sA, fr_sA, ln_sA, ia_sA, oa_sA, la_sA, nx_sA, kd_sO, fi_sO, fr_sO, ln_sO, ia_sO, oa_sO, la_sO, nx_sO, kd_sL, fi_sL, fr_sL, ln_sL, ia_sL, oa_sL, la_sL, nx_sL, kd_sF, fi_sF, fr_sF, ln_sF, ia_sF, oa_sF, la_sF, nx_sF, kd_sG, fi_sG, fr_sG, ln_sG, ia_sG, oa_sG, la_sG, nx_sG, kd_sX, fi_sX, fr_sX, ln_sX, ia_sX, oa_sX, la_sX, nx_sX, kd_nO, fi_nO, fr_nO, ln_nO, ia_nO, oa_nO, la_nO, nx_nO, kd_nA, fi_nA, fr_nA, ln_nA, ia_nA, oa_nA, la_nA, nx_nA]
  have l24 : x7L.length = 24 := by decide +kernel
  obtain ⟨b1, b2, -, b4, ρ4, b5, b6⟩ := x7_inv (m_nx w2) x7L _ _ H3 hnd
  have q2 := x7_run H3
  rw [l24] at b1 b5
  generalize x7f (m_nx w2) x7L (m_nO w2 10) = w4 at b1 b2 b4 b6 q2
  rw [e3] at b1 b5
  refine ⟨w4, ρ4, q2, b1, ch_trans g2 b6, tg_ch H3 b6, fun j => ?_, b5, fun j hj => ?_⟩
  · rw [b4]
    simp only [kd_sI, fi_sI, fr_sI, ln_sI, ia_sI, oa_sI, la_sI, nx_sI, kd_sR, fi_sR, fr_sR, ln_sR, ia_sR, oa_sR, la_sR, nx_sR, kd_sA, fi_sA, fr_sA, ln_sA, ia_sA, oa_sA, la_sA, nx_sA, kd_sO, fi_sO, fr_sO, ln_sO, ia_sO, oa_sO, la_sO, nx_sO, kd_sL, fi_sL, fr_sL, ln_sL, ia_sL, oa_sL, la_sL, nx_sL, kd_sF, fi_sF, fr_sF, ln_sF, ia_sF, oa_sF, la_sF, nx_sF, kd_sG, fi_sG, fr_sG, ln_sG, ia_sG, oa_sG, la_sG, nx_sG, kd_sX, fi_sX, fr_sX, ln_sX, ia_sX, oa_sX, la_sX, nx_sX, kd_nO, fi_nO, fr_nO, ln_nO, ia_nO, oa_nO, la_nO, nx_nO, kd_nA, fi_nA, fr_nA, ln_nA, ia_nA, oa_nA, la_nA, nx_nA, ua_s]
  · obtain ⟨d1, d2⟩ := x7_d1 j (x7_d3 j hj) hj
    have hlt : x7i j < x7L.length := by rw [l24]; exact d1
    obtain ⟨c1, c2, c3, c4⟩ := b2 (x7i j) hlt
    rw [x7_get d2 hlt] at c1 c2 c4
    rw [e3] at c1 c2 c3 c4
    exact ⟨c4, c1, c2, c3⟩
theorem LZ_start {w : mW} {ρ : Nat → Nat} {t0 : Nat × Nat × Nat × Nat} (D : DF w ρ t0.1) :
    ∃ w2 w4 Z ρ', e_X6_init t0 (m_nO w 9) (m_nx w) = some ((), w2) ∧ e_X7_init (m_nO w2 10) (m_nx w2) = some ((), w4) ∧ Z.2.1 = m_nx w2 ∧ x_ov Z u_0 = m_nA w4 25 1 ∧ LZ Z ρ' t0.1 (m_nx w) (m_nx w4) q_0 u_0 := by
  have g0 : ch (fun q => q = 1) w ρ (m_nO w 9) (va_up ρ (m_nx w) 1) := ch_nO
  obtain ⟨w2, ρ2, ad, q1, C2, g1⟩ := HC_init (tg_nO (w := w) (ρ := ρ) (c := 9) (t := 1)) (DF_ch D g0 (by omega))
  obtain ⟨w4, ρ4, q2, b1, b6, H4, b4, b5, hA⟩ := x7_made (w2 := w2) (ρ2 := ρ2)
  have g5 : ch (fun q => q = 2) w4 ρ4 (m_nA w4 25 1) (va_up ρ4 (m_nx w4) 2) := ch_nA
  have t5 : tg (m_nA w4 25 1) (va_up ρ4 (m_nx w4) 2) (m_nx w4) 25 2 := ⟨by simp only [kd_sI, fi_sI, fr_sI, ln_sI, ia_sI, oa_sI, la_sI, nx_sI, kd_sR, fi_sR, fr_sR, ln_sR, ia_sR, oa_sR, la_sR, nx_sR, kd_sA, fi_sA, fr_sA, ln_sA, ia_sA, oa_sA, la_sA, nx_sA, kd_sO, fi_sO, fr_sO, ln_sO, ia_sO, oa_sO, la_sO, nx_sO, kd_sL, fi_sL, fr_sL, ln_sL, ia_sL, oa_sL, la_sL, nx_sL, kd_sF, fi_sF, fr_sF, ln_sF, ia_sF, oa_sF, la_sF, nx_sF, kd_sG, fi_sG, fr_sG, ln_sG, ia_sG, oa_sG, la_sG, nx_sG, kd_sX, fi_sX, fr_sX, ln_sX, ia_sX, oa_sX, la_sX, nx_sX, kd_nO, fi_nO, fr_nO, ln_nO, ia_nO, oa_nO, la_nO, nx_nO, kd_nA, fi_nA, fr_nA, ln_nA, ia_nA, oa_nA, la_nA, nx_nA, va_up_s], va_up_s, by simp only [kd_sI, fi_sI, fr_sI, ln_sI, ia_sI, oa_sI, la_sI, nx_sI, kd_sR, fi_sR, fr_sR, ln_sR, ia_sR, oa_sR, la_sR, nx_sR, kd_sA, fi_sA, fr_sA, ln_sA, ia_sA, oa_sA, la_sA, nx_sA, kd_sO, fi_sO, fr_sO, ln_sO, ia_sO, oa_sO, la_sO, nx_sO, kd_sL, fi_sL, fr_sL, ln_sL, ia_sL, oa_sL, la_sL, nx_sL, kd_sF, fi_sF, fr_sF, ln_sF, ia_sF, oa_sF, la_sF, nx_sF, kd_sG, fi_sG, fr_sG, ln_sG, ia_sG, oa_sG, la_sG, nx_sG, kd_sX, fi_sX, fr_sX, ln_sX, ia_sX, oa_sX, la_sX, nx_sX, kd_nO, fi_nO, fr_nO, ln_nO, ia_nO, oa_nO, la_nO, nx_nO, kd_nA, fi_nA, fr_nA, ln_nA, ia_nA, oa_nA, la_nA, nx_nA]; omega⟩
  have H5 := tg_ch H4 g5
  have k5 : ∀ a, a ≠ m_nx w4 → m_kd (m_nA w4 25 1) a = m_kd w4 a ∧ m_ln (m_nA w4 25 1) a = m_ln w4 a ∧ m_ia (m_nA w4 25 1) a = m_ia w4 a := fun a ha => by
    simp only [kd_sI, fi_sI, fr_sI, ln_sI, ia_sI, oa_sI, la_sI, nx_sI, kd_sR, fi_sR, fr_sR, ln_sR, ia_sR, oa_sR, la_sR, nx_sR, kd_sA, fi_sA, fr_sA, ln_sA, ia_sA, oa_sA, la_sA, nx_sA, kd_sO, fi_sO, fr_sO, ln_sO, ia_sO, oa_sO, la_sO, nx_sO, kd_sL, fi_sL, fr_sL, ln_sL, ia_sL, oa_sL, la_sL, nx_sL, kd_sF, fi_sF, fr_sF, ln_sF, ia_sF, oa_sF, la_sF, nx_sF, kd_sG, fi_sG, fr_sG, ln_sG, ia_sG, oa_sG, la_sG, nx_sG, kd_sX, fi_sX, fr_sX, ln_sX, ia_sX, oa_sX, la_sX, nx_sX, kd_nO, fi_nO, fr_nO, ln_nO, ia_nO, oa_nO, la_nO, nx_nO, kd_nA, fi_nA, fr_nA, ln_nA, ia_nA, oa_nA, la_nA, nx_nA]
    exact ⟨va_up_n ha, va_up_n ha, va_up_n ha⟩
  have f5 : m_fi (m_nA w4 25 1) = m_fi w4 ∧ m_fr (m_nA w4 25 1) = m_fr w4 ∧ m_nx (m_nA w4 25 1) = m_nx w4 + 1 ∧ m_ln (m_nA w4 25 1) (m_nx w4) = 1 := by
    simp only [kd_sI, fi_sI, fr_sI, ln_sI, ia_sI, oa_sI, la_sI, nx_sI, kd_sR, fi_sR, fr_sR, ln_sR, ia_sR, oa_sR, la_sR, nx_sR, kd_sA, fi_sA, fr_sA, ln_sA, ia_sA, oa_sA, la_sA, nx_sA, kd_sO, fi_sO, fr_sO, ln_sO, ia_sO, oa_sO, la_sO, nx_sO, kd_sL, fi_sL, fr_sL, ln_sL, ia_sL, oa_sL, la_sL, nx_sL, kd_sF, fi_sF, fr_sF, ln_sF, ia_sF, oa_sF, la_sF, nx_sF, kd_sG, fi_sG, fr_sG, ln_sG, ia_sG, oa_sG, la_sG, nx_sG, kd_sX, fi_sX, fr_sX, ln_sX, ia_sX, oa_sX, la_sX, nx_sX, kd_nO, fi_nO, fr_nO, ln_nO, ia_nO, oa_nO, la_nO, nx_nO, kd_nA, fi_nA, fr_nA, ln_nA, ia_nA, oa_nA, la_nA, nx_nA, va_up_s, true_and]
  have G : ch (fun q => q = 3 ∨ q = 2) w2 ρ2 (m_nA w4 25 1) (va_up ρ4 (m_nx w4) 2) := ch_trans (ch_mono b6 (fun _ q => Or.inl q)) (ch_mono g5 (fun _ q => Or.inr q))
  generalize hw5 : m_nA w4 25 1 = w5 at t5 H5 k5 f5 G
  obtain ⟨f1, f2, f3, f4⟩ := f5
  have e5 : x_ov (w5, m_nx w2, (fun j => m_nx w2 + 1 + x7i j), x7I (m_nx w2 + 1)) u_0 = w5 := x7_ov (fun j => by rw [f1]; exact b4 j) (fun a j h => by
    obtain ⟨d1, d2, d3⟩ := x7_hI h
    rw [(k5 a (by omega)).2.2, d2]
    exact (hA j d1).2.2.2)
  have JJ : JI w5 (va_up ρ4 (m_nx w4) 2) t0.1 (m_nx w) q_0 u_0 := ⟨q_0G, u_0X, _, _, _, ad, HC_ch C2 q_0G G (fun q hq => by omega)⟩
  refine ⟨w2, w4, (w5, m_nx w2, (fun j => m_nx w2 + 1 + x7i j), x7I (m_nx w2 + 1)), va_up ρ4 (m_nx w4) 2, q1, q2, rfl, e5.trans hw5.symm, ⟨H5.1, fun j hj => ?_, fun a j h => ⟨(x7_hI h).1, (x7_hI h).2.1⟩⟩, ⟨H5.2.2, H5.2.1⟩, fun a j h => ?_, ⟨t5, f4⟩, by rw [e5]; exact JJ⟩
  · obtain ⟨d2, d3, d4, -⟩ := hA j hj
    obtain ⟨d1, d6⟩ := x7_hA (m_nx w2 + 1) hj
    have z := k5 (m_nx w2 + 1 + x7i j) (by omega)
    exact ⟨by rw [← d2, ← f2], z.1.trans d3, z.2.1.trans d4, d6⟩
  · obtain ⟨z1, z2, z3⟩ := x7_hI h
    obtain ⟨d1, -⟩ := x7_hA (m_nx w2 + 1) z1
    refine ⟨by show a < m_nx w5; omega, ?_⟩
    rw [va_up_n (by omega), z2]
    exact b5 (x7i j) d1
