/-! the state, as numbers: N cells, their order, programs, runs at the change, rights, what is now, the runs, the log, the images -/
abbrev qN : Type := (Nat → Int32) × (Nat → Nat) × (Nat → Nat)
abbrev qS : Type := Nat × List Nat × (Nat → List nS) × (Nat → Nat) × (Nat → Nat → Nat) × qN × (Nat × (Nat → qR)) × List Nat × (Nat × (Nat → qN))
def q_N (σ : qS) : Nat := σ.1
def q_O (σ : qS) : List Nat := σ.2.1
def q_P (σ : qS) : Nat → List nS := σ.2.2.1
def q_C (σ : qS) : Nat → Nat := σ.2.2.2.1
def q_R (σ : qS) : Nat → Nat → Nat := σ.2.2.2.2.1
def q_V (σ : qS) : Nat → Int32 := σ.2.2.2.2.2.1.1
def q_S (σ : qS) : Nat → Nat := σ.2.2.2.2.2.1.2.1
def q_L (σ : qS) : Nat → Nat := σ.2.2.2.2.2.1.2.2
def q_n (σ : qS) : Nat := σ.2.2.2.2.2.2.1.1
def q_r (σ : qS) : Nat → qR := σ.2.2.2.2.2.2.1.2
def q_G (σ : qS) : List Nat := σ.2.2.2.2.2.2.2.1
def q_m (σ : qS) : Nat := σ.2.2.2.2.2.2.2.2.1
def q_I (σ : qS) : Nat → qN := σ.2.2.2.2.2.2.2.2.2
/-- names, stamps and last runs as they may be, after n runs of N cells -/
def nG (N n : Nat) (r : Nat → qR) (x : qN) : Prop :=
  (∀ i, i < 8 → x.2.1 i ≤ n ∧ (x.2.1 i = 0 → x.1 i = 0)) ∧ ∀ k, x.2.2 k ≤ n ∧ (N ≤ k → x.2.2 k = 0) ∧ (0 < x.2.2 k → (r (x.2.2 k - 1)).1 = k)
def rG (N i : Nat) (x : qR) : Prop := x.1 < N ∧ x.2.1 < 5 ∧ x.2.2.2.1 < 256 ∧ ∀ j, j < 8 → x.2.2.2.2 j ≤ i
def qG (σ : qS) : Prop :=
  q_N σ ≤ 16 ∧ ((q_O σ).length = q_N σ ∧ (q_O σ).Nodup ∧ ∀ x, x ∈ q_O σ ↔ x < q_N σ) ∧ (∀ k, k < q_N σ → (q_P σ k).length ≤ 6 ∧ (∀ x ∈ q_P σ k, a_okS x) ∧ q_C σ k ≤ q_n σ ∧ q_R σ k 0 = 3 ∧ ∀ j, j < 5 → q_R σ k j ≤ 3) ∧
    q_n σ ≤ 400 ∧ nG (q_N σ) (q_n σ) (q_r σ) (q_V σ, q_S σ, q_L σ) ∧ (∀ i, i < q_n σ → rG (q_N σ) i (q_r σ i)) ∧ ((q_G σ).Pairwise (· < ·) ∧ ∀ x ∈ q_G σ, x < q_n σ) ∧ q_m σ ≤ 10 ∧ ∀ i, i < q_m σ → nG (q_N σ) (q_n σ) (q_r σ) (q_I σ i)
/-! why a cell is stale: S the stamps, L the last runs, C the runs at the change, n the count of runs -/
def z_any (p : Nat → Bool) : Nat → Bool
  | 0 => false
  | k + 1 => z_any p k || p k
theorem z_any_iff {p : Nat → Bool} : ∀ {n : Nat}, z_any p n = true ↔ ∃ k, k < n ∧ p k = true
  | 0 => ⟨fun h => (nomatch h), fun ⟨k, h, _⟩ => absurd h (by omega)⟩
  | n + 1 => by
    unfold z_any
    rw [Bool.or_eq_true, z_any_iff]
    constructor
    · rintro (⟨k, h1, h2⟩ | h)
      · exact ⟨k, by omega, h2⟩
      · exact ⟨n, by omega, h⟩
    · rintro ⟨k, h1, h2⟩
      by_cases c : k = n
      · exact Or.inr (c ▸ h2)
      · exact Or.inl ⟨k, by omega, h2⟩
theorem z_any_cong {p q : Nat → Bool} : ∀ {n : Nat}, (∀ k, k < n → p k = q k) → z_any p n = z_any q n
  | 0, _ => rfl
  | n + 1, h => by
    unfold z_any
    rw [z_any_cong (fun k hk => h k (by omega)), h n (Nat.lt_succ_self n)]
def z_ch (S : Nat → Nat) (x : qR) (j : Nat) : Bool := x.2.2.2.1.testBit j && decide (S j ≠ x.2.2.2.2 j)
def z_ro (r : Nat → qR) (L : Nat → Nat) (n : Nat) (c by_ : Nat) (st : Nat → Bool) : Bool := decide (1 ≤ by_) && (decide (by_ ≤ n) && (decide ((r (by_ - 1)).1 ≠ c) && (decide (L (r (by_ - 1)).1 ≠ by_) || st (r (by_ - 1)).1)))
def z_re (r : Nat → qR) (L : Nat → Nat) (n : Nat) (x : qR) (st : Nat → Bool) (j : Nat) : Bool := x.2.2.2.1.testBit j && z_ro r L n x.1 (x.2.2.2.2 j) st
def z_b (b : Bool) (k : Nat) : Nat := if b = true then k else 0
def z_rs (S L C : Nat → Nat) (r : Nat → qR) (n i : Nat) (st : Nat → Bool) : Nat :=
  z_b (decide (i + 1 ≤ C (r i).1)) 1 ||| z_b (z_any (z_ch S (r i)) 8) 2 ||| z_b (z_any (z_re r L n (r i) st) 8) 4
theorem z_rs_lt {S L C : Nat → Nat} {r : Nat → qR} {n i : Nat} {st : Nat → Bool} : z_rs S L C r n i st < 8 := by
  unfold z_rs z_b
  cases decide (i + 1 ≤ C (r i).1) <;> cases z_any (z_ch S (r i)) 8 <;> cases z_any (z_re r L n (r i) st) 8 <;> decide
/-- the mask of stale cells, behind the first i runs -/
def z_st (S L C : Nat → Nat) (r : Nat → qR) (n : Nat) : Nat → Nat
  | 0 => 0
  | i + 1 => if L (r i).1 = i + 1 ∧ z_rs S L C r n i (z_st S L C r n i).testBit ≠ 0 then z_st S L C r n i ||| 2 ^ (r i).1 else z_st S L C r n i
theorem z_st_lt {S L C : Nat → Nat} {r : Nat → qR} {n N : Nat} : ∀ {i : Nat}, (∀ k, k < i → (r k).1 < N) → z_st S L C r n i < 2 ^ N
  | 0, _ => Nat.two_pow_pos N
  | i + 1, h => by
    unfold z_st
    have h1 := z_st_lt (S := S) (L := L) (C := C) (n := n) (i := i) (fun k hk => h k (by omega))
    split
    · exact nb_or_lt h1 (h i (Nat.lt_succ_self i))
    · exact h1
/-! the class's heap -/
def CEP (w : mW) (ρ : Nat → Nat) (t0 a k : Nat) (P : List nS) (C : Nat) (R : Nat → Nat) : Prop := ∃ Lp, CE w ρ t0 a (100 + 4 * k) k Lp (nI C) (fun i => nI (R i)) ∧ STs w ρ (fun j => 2000 + 6 * k + j) Lp P
def SEN (w : mW) (ρ : Nat → Nat) (a t : Nat) (x : qN) : Prop := SE w ρ a t x.1 (fun i => nI (x.2.1 i)) (fun i => nI (x.2.2 i))
def HC (w : mW) (ρ : Nat → Nat) (t0 h : Nat) (σ : qS) (ca ra ia ad : Nat → Nat) : Prop :=
  (tg w ρ h 10 1 ∧ (∀ j, j < 8 → m_fr w 9 j h = some (ad j)) ∧ DF w ρ t0) ∧
  AL w ρ t0 (ad 0) 10 ((List.range (q_N σ)).map ca) ∧ AL w ρ t0 (ad 1) 12 ((q_O σ).map ca) ∧ AL w ρ t0 (ad 2) 14 ((List.range (q_n σ)).map ra) ∧ AL w ρ t0 (ad 3) 16 ((q_G σ).map ra) ∧ AL w ρ t0 (ad 4) 18 ((List.range (q_m σ)).map ia) ∧
  SEN w ρ (ad 5) 20 (q_V σ, q_S σ, q_L σ) ∧ (∃ v s, NM w ρ (ad 6) 30 v s) ∧ AT0 w ρ (ad 7) ∧
  (∀ k, k < q_N σ → CEP w ρ t0 (ca k) k (q_P σ k) (q_C σ k) (q_R σ k)) ∧
  (∀ i, i < q_n σ → RU w ρ (ra i) (3000 + 2 * i) (i + 1) (ca (q_r σ i).1) (q_r σ i)) ∧
  ∀ i, i < q_m σ → SEN w ρ (ia i) (200 + 5 * i) (q_I σ i)
theorem CEP_ch {S : Nat → Prop} {w w' : mW} {ρ ρ' : Nat → Nat} {t0 a k : Nat} {P : List nS} {C : Nat} {R : Nat → Nat} (h : CEP w ρ t0 a k P C R) (g : ch S w ρ w' ρ') (hP : P.length ≤ 6) (h0 : ¬ S 0) (h1 : ∀ q, 100 + 4 * k ≤ q → q < 104 + 4 * k → ¬ S q) (h2 : ∀ q, 2000 + 6 * k ≤ q → q < 2006 + 6 * k → ¬ S q) : CEP w' ρ' t0 a k P C R := by
  obtain ⟨Lp, b1, b2⟩ := h
  exact ⟨Lp, CE_ch b1 g h0 (fun q z1 z2 => h1 q z1 (by omega)), STs_ch b2 g (fun i hi => h2 _ (by omega) (by omega))⟩
theorem SEN_ch {S : Nat → Prop} {w w' : mW} {ρ ρ' : Nat → Nat} {a t : Nat} {x : qN} (h : SEN w ρ a t x) (g : ch S w ρ w' ρ') (hs : ∀ q, t ≤ q → q < t + 5 → ¬ S q) : SEN w' ρ' a t x := SE_ch h g hs
/-- what a step of marks that are none of the class's leaves -/
theorem HC_ch {S : Nat → Prop} {w w' : mW} {ρ ρ' : Nat → Nat} {t0 h : Nat} {σ : qS} {ca ra ia ad : Nat → Nat} (H : HC w ρ t0 h σ ca ra ia ad) (hG : qG σ) (g : ch S w ρ w' ρ') (hs : ∀ q, S q → 2 ≤ q ∧ q < 10) : HC w' ρ' t0 h σ ca ra ia ad := by
  have hs1 : ∀ q, (q < 2 ∨ 10 ≤ q) → ¬ S q := fun q h1 h2 => by have := hs q h2; omega
  obtain ⟨⟨a1, a2, a3⟩, b1, b2, b3, b4, b5, b6, ⟨v, s, b7⟩, b8, b9, b10, b11⟩ := H
  obtain ⟨-, s2, -, -, -⟩ := tg_sm a1 g (hs1 1 (by omega))
  exact ⟨⟨tg_ch a1 g, fun j hj => (s2 _ _).trans (a2 j hj), DF_ch a3 g (hs1 0 (by omega))⟩,
    AL_ch b1 g (hs1 _ (by omega)) (hs1 _ (by omega)) (hs1 _ (by omega)), AL_ch b2 g (hs1 _ (by omega)) (hs1 _ (by omega)) (hs1 _ (by omega)), AL_ch b3 g (hs1 _ (by omega)) (hs1 _ (by omega)) (hs1 _ (by omega)), AL_ch b4 g (hs1 _ (by omega)) (hs1 _ (by omega)) (hs1 _ (by omega)), AL_ch b5 g (hs1 _ (by omega)) (hs1 _ (by omega)) (hs1 _ (by omega)),
    SEN_ch b6 g (fun q z1 z2 => hs1 q (by omega)), ⟨v, s, NM_ch b7 g (hs1 _ (by omega)) (hs1 _ (by omega)) (hs1 _ (by omega))⟩, AT0_ch b8 g (fun q z1 z2 => hs1 q (by omega)),
    fun k hk => CEP_ch (b9 k hk) g (hG.2.2.1 k hk).1 (hs1 _ (by omega)) (fun q z1 z2 => hs1 q (by omega)) (fun q z1 z2 => hs1 q (by omega)), fun i hi => RU_ch (b10 i hi) g (hs1 _ (by omega)) (hs1 _ (by omega)), fun i hi => SEN_ch (b11 i hi) g (fun q z1 z2 => hs1 q (by omega))⟩
/-! what the class's own questions answer -/
section QCLS
variable {w : mW} {ρ : Nat → Nat} {t0 h : Nat} {σ : qS} {ca ra ia ad : Nat → Nat}
theorem HC_kd (H : HC w ρ t0 h σ ca ra ia ad) : m_kd w h = 10 := H.1.1.1
theorem HC_fr (H : HC w ρ t0 h σ ca ra ia ad) {j : Nat} (hj : j < 8) : m_fr w 9 j h = some (ad j) := H.1.2.1 j hj
theorem AL_k3 {w : mW} {ρ : Nat → Nat} {t0 a t : Nat} {L : List Nat} (h : AL w ρ t0 a t L) : m_kd w a = 3 := by
  obtain ⟨_, q, _⟩ := h
  exact q.1
theorem AL_size2 {w : mW} {ρ : Nat → Nat} {t0 a t n : Nat} {f : Nat → Nat} (h : AL w ρ t0 a t ((List.range n).map f)) : e_Jx4a65c_size_8abf5 w a = some (nI n, w) := by
  rw [AL_size h, List.length_map, List.length_range]
theorem AL_get2 {w : mW} {ρ : Nat → Nat} {t0 a t n : Nat} {f : Nat → Nat} (h : AL w ρ t0 a t ((List.range n).map f)) {i : Nat} (hi : i < n) : e_Jx4a65c_get_915e3 w a (nI i) = some (f i, w) := by
  rw [AL_get h (by rw [List.length_map, List.length_range]; exact hi), List.getElem_map, List.getElem_range]
theorem AL_size3 {w : mW} {ρ : Nat → Nat} {t0 a t : Nat} {O : List Nat} {f : Nat → Nat} (h : AL w ρ t0 a t (O.map f)) : e_Jx4a65c_size_8abf5 w a = some (nI O.length, w) := by
  rw [AL_size h, List.length_map]
theorem AL_get3 {w : mW} {ρ : Nat → Nat} {t0 a t : Nat} {O : List Nat} {f : Nat → Nat} (h : AL w ρ t0 a t (O.map f)) {i : Nat} (hi : i < O.length) : e_Jx4a65c_get_915e3 w a (nI i) = some (f O[i], w) := by
  rw [AL_get h (by rw [List.length_map]; exact hi), List.getElem_map]
theorem HC_ce (H : HC w ρ t0 h σ ca ra ia ad) {k : Nat} (hk : k < q_N σ) : ∃ Lp, CE w ρ t0 (ca k) (100 + 4 * k) k Lp (nI (q_C σ k)) (fun i => nI (q_R σ k i)) ∧ STs w ρ (fun j => 2000 + 6 * k + j) Lp (q_P σ k) := H.2.2.2.2.2.2.2.2.2.1 k hk
theorem HC_ck (H : HC w ρ t0 h σ ca ra ia ad) {k : Nat} (hk : k < q_N σ) : m_kd w (ca k) = 5 := by
  obtain ⟨Lp, b, -⟩ := HC_ce H hk
  exact (CE_kd b).1
theorem HC_cn (H : HC w ρ t0 h σ ca ra ia ad) {k : Nat} (hk : k < q_N σ) : m_fi w 4 0 (ca k) = nI k := by
  obtain ⟨Lp, b, -⟩ := HC_ce H hk
  exact CE_num b
theorem HC_cc (H : HC w ρ t0 h σ ca ra ia ad) {k : Nat} (hk : k < q_N σ) : m_fi w 4 2 (ca k) = nI (q_C σ k) := by
  obtain ⟨Lp, b, -⟩ := HC_ce H hk
  obtain ⟨_, _, _, _, _, q, _⟩ := b
  exact q
theorem HC_inj (H : HC w ρ t0 h σ ca ra ia ad) {k j : Nat} (hk : k < q_N σ) (hj : j < q_N σ) (e : ca k = ca j) : k = j := by
  obtain ⟨_, b, -⟩ := HC_ce H hk
  obtain ⟨_, d, -⟩ := HC_ce H hj
  have b1 := (CE_kd b).2.1
  have d1 := (CE_kd d).2.1
  rw [e] at b1
  omega
theorem HC_ru (H : HC w ρ t0 h σ ca ra ia ad) {i : Nat} (hi : i < q_n σ) : RU w ρ (ra i) (3000 + 2 * i) (i + 1) (ca (q_r σ i).1) (q_r σ i) := H.2.2.2.2.2.2.2.2.2.2.1 i hi
theorem HC_rn (H : HC w ρ t0 h σ ca ra ia ad) {i : Nat} (hi : i < q_n σ) : m_kd w (ra i) = 7 ∧ m_fi w 6 0 (ra i) = nI (i + 1) ∧ m_fr w 6 1 (ra i) = some (ca (q_r σ i).1) ∧ m_fi w 6 2 (ra i) = nI (q_r σ i).2.1 ∧ m_fi w 6 3 (ra i) = (if (q_r σ i).2.2.1 = none then 0 else 1) ∧ (∀ z, (q_r σ i).2.2.1 = some z → m_fi w 6 4 (ra i) = z) ∧ m_fi w 6 5 (ra i) = nI (q_r σ i).2.2.2.1 := by
  obtain ⟨sa, b1, b2, b3, b4, b5, b6, b7, -⟩ := HC_ru H hi
  exact ⟨b1.1, b2, b3, b4, b5, b6, b7⟩
theorem HC_now (H : HC w ρ t0 h σ ca ra ia ad) : SE w ρ (ad 5) 20 (q_V σ) (fun i => nI (q_S σ i)) (fun i => nI (q_L σ i)) := H.2.2.2.2.2.2.1
/-- the names of now -/
theorem HC_nm (H : HC w ρ t0 h σ ca ra ia ad) : ∃ na, m_kd w (ad 5) = 8 ∧ m_fr w 7 0 (ad 5) = some na ∧ NM w ρ na 21 (q_V σ) (fun i => nI (q_S σ i)) := by
  obtain ⟨na, la, b1, b2, b3, b4, -⟩ := HC_now H
  exact ⟨na, b1.1, b2, b4⟩
theorem HC_L (H : HC w ρ t0 h σ ca ra ia ad) {k : Nat} (hk : k < 16) : e_X4_lastRunOf w (ad 5) (nI k) = some (nI (q_L σ k), w) := SE_lastRunOf (HC_now H) hk
theorem HC_isLast (H : HC w ρ t0 h σ ca ra ia ad) (hG : qG σ) {i : Nat} (hi : i < q_n σ) : e_X6_isLastRun w h (ra i) = some (if q_L σ (q_r σ i).1 = i + 1 then 1 else 0, w) := by
  obtain ⟨c1, c2, c3, -⟩ := HC_rn H hi
  have hc := (hG.2.2.2.2.2.1 i hi).1
  have hn := hG.1
  have hr := hG.2.2.2.1
  have hL := (hG.2.2.2.2.1.2 (q_r σ i).1).1
  have hL2 : q_L σ (q_r σ i).1 ≤ q_n σ := hL
  unfold e_X6_isLastRun e_X6_isLastRun_26
  rw [m_g_t (HC_kd H), HC_fr H (by decide), m_o_s, m_g_t c1, c3, m_o_s, m_g_t (HC_ck H hc), m_g_t (SE_kd (HC_now H)).1, HC_cn H hc, HC_L H (by omega), m_b_s, m_g_t c1, c2]
  by_cases c : q_L σ (q_r σ i).1 = i + 1
  · rw [if_pos (by rw [c]), if_pos c, m_g_t (by decide +kernel)]
  · rw [if_neg (fun q => c ((nI_eq (by omega) (by omega)).mp q)), if_neg c, m_g_t (by decide +kernel)]
theorem HC_runN (H : HC w ρ t0 h σ ca ra ia ad) (hG : qG σ) {n : Nat} (hn : n < 2 ^ 31) : e_X6_runNumbered w h (nI n) = some (if 1 ≤ n ∧ n ≤ q_n σ then some (ra (n - 1)) else none, w) := by
  have hr := hG.2.2.2.1
  have hA : AL w ρ t0 (ad 2) 14 ((List.range (q_n σ)).map ra) := H.2.2.2.1
  unfold e_X6_runNumbered e_X6_runNumbered_32
  by_cases c1 : 1 ≤ n
  · rw [if_neg (show ¬ nI n < 1 from nI_nlt (b := 1) c1 hn), m_g_t (HC_kd H), HC_fr H (by decide), m_o_s, m_g_t (AL_k3 hA), AL_size2 hA, m_b_s]
    by_cases c2 : n ≤ q_n σ
    · have e : nI n - 1 = nI (n - 1) := by rw [nb_1, pk_sub c1]
      rw [if_neg (nI_nlt c2 (by omega)), m_g_t (HC_kd H), HC_fr H (by decide), m_o_s, m_g_t (AL_k3 hA), e, AL_get2 hA (by omega), m_b_s, m_g_t (HC_rn H (by omega)).1, if_pos ⟨c1, c2⟩]
    · rw [if_pos (nI_lt (by omega) hn), if_neg (fun q => c2 q.2)]
  · rw [if_pos (show nI n < 1 from nI_lt (b := 1) (by omega) (by decide)), if_neg (fun q => c1 q.1)]
theorem z_ro_t {r : Nat → qR} {L : Nat → Nat} {n c b : Nat} {st : Nat → Bool} : z_ro r L n c b st = true ↔ 1 ≤ b ∧ b ≤ n ∧ (r (b - 1)).1 ≠ c ∧ (L (r (b - 1)).1 ≠ b ∨ st (r (b - 1)).1 = true) := by
  unfold z_ro
  simp only [Bool.and_eq_true, Bool.or_eq_true, decide_eq_true_eq]
theorem HC_rests (H : HC w ρ t0 h σ ca ra ia ad) (hG : qG σ) {i : Nat} (hi : i < q_n σ) {j : Nat} (hj : j < 8) (hb : (q_r σ i).2.2.2.1.testBit j = true) (m : Nat) : e_X6_restsOnOther w h (ra i) (nI j) (nI m) = some (if z_ro (q_r σ) (q_L σ) (q_n σ) (q_r σ i).1 ((q_r σ i).2.2.2.2 j) m.testBit = true then 1 else 0, w) := by
  have hr := hG.2.2.2.1
  have hN := hG.1
  obtain ⟨c1, c2, c3, -⟩ := HC_rn H hi
  obtain ⟨d1, d2, d3, d4⟩ := hG.2.2.2.2.2.1 i hi
  have d5 := d4 j hj
  unfold e_X6_restsOnOther e_X6_restsOnOther_28 e_X6_restsOnOther_54 e_X6_restsOnOther_59
  rw [m_g_t c1, RU_ss (HC_ru H hi) hj hb, m_b_s, m_g_t (HC_kd H), HC_runN H hG (by omega), m_b_s]
  generalize (q_r σ i).2.2.2.2 j = b at *
  have hb2 : b ≤ q_n σ := by omega
  by_cases e1 : 1 ≤ b
  · rw [if_pos ⟨e1, hb2⟩, m_n_1]
    have hb1 : b - 1 < q_n σ := by omega
    obtain ⟨f1, f2, f3, -⟩ := HC_rn H hb1
    have f4 := (hG.2.2.2.2.2.1 (b - 1) hb1).1
    rw [m_g_t f1, f3, m_o_s, m_g_t c1, c3, m_o_s]
    by_cases e2 : (q_r σ (b - 1)).1 = (q_r σ i).1
    · rw [if_pos (by rw [e2]), m_g_t (by decide +kernel), if_neg (fun q => (z_ro_t.mp q).2.2.1 e2)]
    · rw [if_neg (fun q => e2 (HC_inj H f4 d1 (Option.some.inj q))), m_g_t (HC_kd H), HC_isLast H hG hb1, m_b_s]
      have e3 : b - 1 + 1 = b := by omega
      rw [e3]
      by_cases e4 : q_L σ (q_r σ (b - 1)).1 = b
      · rw [if_pos e4, if_neg nb_10, m_g_t f1, f3, m_o_s, m_g_t (HC_ck H f4), HC_cn H f4]
        by_cases e5 : m.testBit (q_r σ (b - 1)).1 = true
        · rw [if_neg (fun q => by rw [(nb_bit (by omega)).mp q] at e5; cases e5), m_g_t (by decide +kernel), if_pos (z_ro_t.mpr ⟨e1, hb2, e2, Or.inr e5⟩)]
        · rw [if_pos ((nb_bit (by omega)).mpr (by simpa using e5)), m_g_t (by decide +kernel), if_neg (fun q => by rcases (z_ro_t.mp q).2.2.2 with z | z; exact z e4; exact e5 z)]
      · rw [if_neg e4, if_pos rfl, m_g_t (by decide +kernel), if_pos (z_ro_t.mpr ⟨e1, hb2, e2, Or.inl e4⟩)]
  · rw [if_neg (fun q => e1 q.1), m_n_0, m_g_t (by decide +kernel), if_neg (fun q => e1 (z_ro_t.mp q).1)]
/-- the loop of the reasons -/
theorem z_acc (a b c : Bool) (e : Bool) : z_b e 1 ||| z_b a 2 ||| z_b b 4 ||| (if c = true then 2 else 0) = z_b e 1 ||| z_b (a || c) 2 ||| z_b b 4 := by
  cases a <;> cases b <;> cases c <;> cases e <;> decide
theorem z_acc4 (a b c : Bool) (e : Bool) : z_b e 1 ||| z_b a 2 ||| z_b b 4 ||| (if c = true then 4 else 0) = z_b e 1 ||| z_b a 2 ||| z_b (b || c) 4 := by
  cases a <;> cases b <;> cases c <;> cases e <;> decide
theorem HC_reasons_loop (H : HC w ρ t0 h σ ca ra ia ad) (hG : qG σ) {i : Nat} (hi : i < q_n σ) (m : Nat) {ren : Int32} {S : Nat → Nat} (hS : ∀ j, j < 8 → (q_r σ i).2.2.2.1.testBit j = true → ((nI j = ren ∨ q_S σ j ≠ (q_r σ i).2.2.2.2 j) ↔ S j ≠ (q_r σ i).2.2.2.2 j)) (e : Bool) : ∀ (k f j : Nat), k < f → j + k = 8 →
    e_X6_reasons_24 f w h (ra i) ren (nI m) (nI (z_b e 1 ||| z_b (z_any (z_ch S (q_r σ i)) j) 2 ||| z_b (z_any (z_re (q_r σ) (q_L σ) (q_n σ) (q_r σ i) m.testBit) j) 4)) (nI j) = some (nI (z_b e 1 ||| z_b (z_any (z_ch S (q_r σ i)) 8) 2 ||| z_b (z_any (z_re (q_r σ) (q_L σ) (q_n σ) (q_r σ i) m.testBit) 8) 4), w) := by
  have hr := hG.2.2.2.1
  obtain ⟨c1, c2, c3, -⟩ := HC_rn H hi
  obtain ⟨na, n1, n2, n3⟩ := HC_nm H
  obtain ⟨d1, d2, d3, d4⟩ := hG.2.2.2.2.2.1 i hi
  have hSb : ∀ j, j < 8 → q_S σ j ≤ q_n σ := fun j hj => (hG.2.2.2.2.1.1 j hj).1
  intro k
  induction k with
  | zero =>
    intro f j hf hj
    obtain ⟨f, rfl⟩ : ∃ q, f = q + 1 := ⟨f - 1, by omega⟩
    have hj8 : j = 8 := by omega
    subst hj8
    show e_X6_reasons_24_b (e_X6_reasons_24 f) _ _ _ _ _ _ _ = _
    unfold e_X6_reasons_24_b
    rw [if_pos (by decide +kernel)]
  | succ k ih =>
    intro f j hf hj
    obtain ⟨f, rfl⟩ : ∃ q, f = q + 1 := ⟨f - 1, by omega⟩
    have hj8 : j < 8 := by omega
    have IH := ih f (j + 1) (by omega) (by omega)
    rw [← nI_1] at IH
    show e_X6_reasons_24_b (e_X6_reasons_24 f) _ _ _ _ _ _ _ = _
    unfold e_X6_reasons_24_b
    rw [if_neg (lge8 hj8), m_g_t c1, RU_saw (HC_ru H hi) hj8, m_b_s]
    unfold e_X6_reasons_67 e_X6_reasons_73 e_X6_reasons_90
    by_cases cb : (q_r σ i).2.2.2.1.testBit j = true
    · rw [if_pos cb, if_neg nb_10]
      -- behind the test of the change
      have key : ∀ (c : Bool), z_ch S (q_r σ i) j = c → (m_g (m_kd w h = 10) <| m_b (e_X6_restsOnOther w h (ra i) (nI j) (nI m)) fun r426 w427 => if r426 = (0 : Int32) then e_X6_reasons_24 f w427 h (ra i) ren (nI m) (nI (z_b e 1 ||| z_b (z_any (z_ch S (q_r σ i)) j) 2 ||| z_b (z_any (z_re (q_r σ) (q_L σ) (q_n σ) (q_r σ i) m.testBit) j) 4 ||| (if c = true then 2 else 0))) (nI j + 1) else e_X6_reasons_24 f w427 h (ra i) ren (nI m) (nI (z_b e 1 ||| z_b (z_any (z_ch S (q_r σ i)) j) 2 ||| z_b (z_any (z_re (q_r σ) (q_L σ) (q_n σ) (q_r σ i) m.testBit) j) 4 ||| (if c = true then 2 else 0)) ||| 4) (nI j + 1)) = some (nI (z_b e 1 ||| z_b (z_any (z_ch S (q_r σ i)) 8) 2 ||| z_b (z_any (z_re (q_r σ) (q_L σ) (q_n σ) (q_r σ i) m.testBit) 8) 4), w) := by
        intro c hc
        rw [m_g_t (HC_kd H), HC_rests H hG hi hj8 cb, m_b_s, z_acc]
        have hre : z_re (q_r σ) (q_L σ) (q_n σ) (q_r σ i) m.testBit j = z_ro (q_r σ) (q_L σ) (q_n σ) (q_r σ i).1 ((q_r σ i).2.2.2.2 j) m.testBit := by
          unfold z_re
          rw [cb, Bool.true_and]
        rw [← IH]
        show _ = e_X6_reasons_24 f w h (ra i) ren (nI m) (nI (z_b e 1 ||| z_b (z_any (z_ch S (q_r σ i)) j || z_ch S (q_r σ i) j) 2 ||| z_b (z_any (z_re (q_r σ) (q_L σ) (q_n σ) (q_r σ i) m.testBit) j || z_re (q_r σ) (q_L σ) (q_n σ) (q_r σ i) m.testBit j) 4)) _
        rw [hc, hre, ← z_acc4]
        by_cases c4 : z_ro (q_r σ) (q_L σ) (q_n σ) (q_r σ i).1 ((q_r σ i).2.2.2.2 j) m.testBit = true
        · rw [if_pos c4, if_neg nb_10, if_pos c4]
          rw [show (4 : Int32) = nI 4 from rfl, fa_or]
        · rw [if_neg c4, if_pos rfl, if_neg c4, Nat.or_zero]
      have hk := hS j hj8 cb
      by_cases cr : nI j = ren
      · rw [if_pos cr]
        have ht : z_ch S (q_r σ i) j = true := by
          unfold z_ch
          rw [cb, Bool.true_and]
          exact decide_eq_true (hk.mp (Or.inl cr))
        have := key true ht
        rw [if_pos rfl] at this
        rw [show (2 : Int32) = nI 2 from rfl, fa_or]
        exact this
      · rw [if_neg cr, m_g_t (HC_kd H), HC_fr H (by decide), m_o_s, m_g_t n1, n2, m_o_s, m_g_t (NM_kd n3).1, NM_stampOf n3 hj8, m_b_s, m_g_t c1, RU_ss (HC_ru H hi) hj8 cb, m_b_s]
        have h1 := hSb j hj8
        have h2 := d4 j hj8
        by_cases ce : q_S σ j = (q_r σ i).2.2.2.2 j
        · rw [if_pos (by rw [ce])]
          have ht : z_ch S (q_r σ i) j = false := by
            unfold z_ch
            rw [cb, Bool.true_and]
            exact decide_eq_false (fun q => by rcases hk.mpr q with z | z; exact cr z; exact z ce)
          have := key false ht
          rw [if_neg (by decide), Nat.or_zero] at this
          exact this
        · rw [if_neg (fun q => ce ((nI_eq (by omega) (by omega)).mp q))]
          have ht : z_ch S (q_r σ i) j = true := by
            unfold z_ch
            rw [cb, Bool.true_and]
            exact decide_eq_true (hk.mp (Or.inr ce))
          have := key true ht
          rw [if_pos rfl] at this
          rw [show (2 : Int32) = nI 2 from rfl, fa_or]
          exact this
    · have cb2 : (q_r σ i).2.2.2.1.testBit j = false := by simpa using cb
      have z1 : z_ch S (q_r σ i) j = false := by
        unfold z_ch
        rw [cb2, Bool.false_and]
      have z2 : z_re (q_r σ) (q_L σ) (q_n σ) (q_r σ i) m.testBit j = false := by
        unfold z_re
        rw [cb2, Bool.false_and]
      have y1 : z_any (z_ch S (q_r σ i)) (j + 1) = z_any (z_ch S (q_r σ i)) j := by
        show (z_any (z_ch S (q_r σ i)) j || z_ch S (q_r σ i) j) = _
        rw [z1, Bool.or_false]
      have y2 : z_any (z_re (q_r σ) (q_L σ) (q_n σ) (q_r σ i) m.testBit) (j + 1) = z_any (z_re (q_r σ) (q_L σ) (q_n σ) (q_r σ i) m.testBit) j := by
        show (z_any (z_re (q_r σ) (q_L σ) (q_n σ) (q_r σ i) m.testBit) j || z_re (q_r σ) (q_L σ) (q_n σ) (q_r σ i) m.testBit j) = _
        rw [z2, Bool.or_false]
      rw [y1, y2] at IH
      rw [if_neg cb, if_pos rfl]
      exact IH
theorem HC_reasons (H : HC w ρ t0 h σ ca ra ia ad) (hG : qG σ) {i : Nat} (hi : i < q_n σ) (m : Nat) {ren : Int32} {S : Nat → Nat} (hS : ∀ j, j < 8 → (q_r σ i).2.2.2.1.testBit j = true → ((nI j = ren ∨ q_S σ j ≠ (q_r σ i).2.2.2.2 j) ↔ S j ≠ (q_r σ i).2.2.2.2 j)) : e_X6_reasons w h (ra i) ren (nI m) = some (nI (z_rs S (q_L σ) (q_C σ) (q_r σ) (q_n σ) i m.testBit), w) := by
  have hr := hG.2.2.2.1
  obtain ⟨c1, c2, c3, -⟩ := HC_rn H hi
  have hc := (hG.2.2.2.2.2.1 i hi).1
  have hC := (hG.2.2.1 _ hc).2.2.1
  have L1 := HC_reasons_loop H hG hi m hS true 8 m_N 0 (by decide) rfl
  have L0 := HC_reasons_loop H hG hi m hS false 8 m_N 0 (by decide) rfl
  rw [show z_b true 1 ||| z_b (z_any (z_ch S (q_r σ i)) 0) 2 ||| z_b (z_any (z_re (q_r σ) (q_L σ) (q_n σ) (q_r σ i) m.testBit) 0) 4 = 1 by (show z_b true 1 ||| z_b false 2 ||| z_b false 4 = 1); decide, show nI 1 = 1 from rfl, show nI 0 = 0 from rfl] at L1
  rw [show z_b false 1 ||| z_b (z_any (z_ch S (q_r σ i)) 0) 2 ||| z_b (z_any (z_re (q_r σ) (q_L σ) (q_n σ) (q_r σ i) m.testBit) 0) 4 = 0 by (show z_b false 1 ||| z_b false 2 ||| z_b false 4 = 0); decide, show nI 0 = 0 from rfl] at L0
  unfold e_X6_reasons e_X6_reasons_19 z_rs
  rw [m_g_t c1, c3, m_o_s, m_g_t (HC_ck H hc), HC_cc H hc, c2]
  by_cases e : i + 1 ≤ q_C σ (q_r σ i).1
  · rw [if_neg (nI_nlt e (by omega)), decide_eq_true e]
    exact L1
  · rw [if_pos (nI_lt (by omega) (by omega)), decide_eq_false e]
    exact L0
theorem HC_stale_loop (H : HC w ρ t0 h σ ca ra ia ad) (hG : qG σ) {ren : Int32} {S : Nat → Nat} (hS : ∀ i, i < q_n σ → ∀ j, j < 8 → (q_r σ i).2.2.2.1.testBit j = true → ((nI j = ren ∨ q_S σ j ≠ (q_r σ i).2.2.2.2 j) ↔ S j ≠ (q_r σ i).2.2.2.2 j)) : ∀ (k f i : Nat), k < f → i + k = q_n σ →
    e_X6_staleCells_4 f w h ren (nI (z_st S (q_L σ) (q_C σ) (q_r σ) (q_n σ) i)) (nI i) = some (nI (z_st S (q_L σ) (q_C σ) (q_r σ) (q_n σ) (q_n σ)), w) := by
  have hr := hG.2.2.2.1
  have hN := hG.1
  have hA : AL w ρ t0 (ad 2) 14 ((List.range (q_n σ)).map ra) := H.2.2.2.1
  intro k
  induction k with
  | zero =>
    intro f i hf hi
    obtain ⟨f, rfl⟩ : ∃ q, f = q + 1 := ⟨f - 1, by omega⟩
    have hi2 : i = q_n σ := by omega
    subst hi2
    show e_X6_staleCells_4_b (e_X6_staleCells_4 f) _ _ _ _ _ = _
    unfold e_X6_staleCells_4_b
    rw [m_g_t (HC_kd H), HC_fr H (by decide), m_o_s, m_g_t (AL_k3 hA), AL_size2 hA, m_b_s, if_pos (nI_le (Nat.le_refl _) (by omega))]
  | succ k ih =>
    intro f i hf hi
    obtain ⟨f, rfl⟩ : ∃ q, f = q + 1 := ⟨f - 1, by omega⟩
    have hi2 : i < q_n σ := by omega
    obtain ⟨c1, c2, c3, -⟩ := HC_rn H hi2
    have hc := (hG.2.2.2.2.2.1 i hi2).1
    have IH := ih f (i + 1) (by omega) (by omega)
    rw [← nI_1] at IH
    show e_X6_staleCells_4_b (e_X6_staleCells_4 f) _ _ _ _ _ = _
    unfold e_X6_staleCells_4_b e_X6_staleCells_61
    rw [m_g_t (HC_kd H), HC_fr H (by decide), m_o_s, m_g_t (AL_k3 hA), AL_size2 hA, m_b_s, if_neg (nI_ge hi2 (by omega)), m_g_t (HC_kd H), HC_fr H (by decide), m_o_s, m_g_t (AL_k3 hA), AL_get2 hA hi2, m_b_s, m_g_t c1, m_g_t (HC_kd H), HC_isLast H hG hi2, m_b_s, ← IH]
    show _ = e_X6_staleCells_4 f w h ren (nI (if q_L σ (q_r σ i).1 = i + 1 ∧ z_rs S (q_L σ) (q_C σ) (q_r σ) (q_n σ) i (z_st S (q_L σ) (q_C σ) (q_r σ) (q_n σ) i).testBit ≠ 0 then z_st S (q_L σ) (q_C σ) (q_r σ) (q_n σ) i ||| 2 ^ (q_r σ i).1 else z_st S (q_L σ) (q_C σ) (q_r σ) (q_n σ) i)) (nI i + 1)
    by_cases e1 : q_L σ (q_r σ i).1 = i + 1
    · rw [if_pos e1, if_neg nb_10, m_g_t (HC_kd H), HC_reasons H hG hi2 _ (hS i hi2), m_b_s]
      have hlt := z_rs_lt (S := S) (L := q_L σ) (C := q_C σ) (r := q_r σ) (n := q_n σ) (i := i) (st := (z_st S (q_L σ) (q_C σ) (q_r σ) (q_n σ) i).testBit)
      by_cases e2 : z_rs S (q_L σ) (q_C σ) (q_r σ) (q_n σ) i (z_st S (q_L σ) (q_C σ) (q_r σ) (q_n σ) i).testBit = 0
      · rw [if_pos (by rw [e2]; exact nI_0), if_neg (fun q => q.2 e2)]
      · rw [if_neg (nI_ne0 (by omega) (by omega)), if_pos ⟨e1, e2⟩, m_g_t c1, c3, m_o_s, m_g_t (HC_ck H hc), HC_cn H hc, nb_set (by omega)]
    · rw [if_neg e1, if_pos rfl, if_neg (fun q => e1 q.1)]
theorem HC_stale (H : HC w ρ t0 h σ ca ra ia ad) (hG : qG σ) {ren : Int32} {S : Nat → Nat} (hS : ∀ i, i < q_n σ → ∀ j, j < 8 → (q_r σ i).2.2.2.1.testBit j = true → ((nI j = ren ∨ q_S σ j ≠ (q_r σ i).2.2.2.2 j) ↔ S j ≠ (q_r σ i).2.2.2.2 j)) : e_X6_staleCells w h ren = some (nI (z_st S (q_L σ) (q_C σ) (q_r σ) (q_n σ) (q_n σ)), w) := by
  have hr := hG.2.2.2.1
  exact HC_stale_loop H hG hS (q_n σ) m_N 0 (by show _ < 5000; omega) (Nat.zero_add _)
theorem HC_staleNow (H : HC w ρ t0 h σ ca ra ia ad) (hG : qG σ) : e_X6_staleCells w h (-1) = some (nI (z_st (q_S σ) (q_L σ) (q_C σ) (q_r σ) (q_n σ) (q_n σ)), w) :=
  HC_stale H hG (fun i hi j hj hb => ⟨fun q => by
    rcases q with q | q
    · exact absurd q ((by decide +kernel : ∀ j, j < 8 → ¬ nI j = -1) j hj)
    · exact q, fun q => Or.inr q⟩)
end QCLS
