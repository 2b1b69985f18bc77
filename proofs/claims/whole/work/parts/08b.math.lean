/-! stale cells, said once and for all: a cell is stale if its last run has a reason -/
section ZFIX
variable {S L C : Nat → Nat} {r : Nat → qR} {n N : Nat}
theorem z_re_t {x : qR} {st : Nat → Bool} {j : Nat} : z_re r L n x st j = true ↔ x.2.2.2.1.testBit j = true ∧ 1 ≤ x.2.2.2.2 j ∧ x.2.2.2.2 j ≤ n ∧ (r (x.2.2.2.2 j - 1)).1 ≠ x.1 ∧ (L (r (x.2.2.2.2 j - 1)).1 ≠ x.2.2.2.2 j ∨ st (r (x.2.2.2.2 j - 1)).1 = true) := by
  unfold z_re
  rw [Bool.and_eq_true, z_ro_t]
theorem z_bool_ext {a b : Bool} (h : a = true ↔ b = true) : a = b := by
  cases a <;> cases b <;> simp at h ⊢
theorem z_st_s {i : Nat} : z_st S L C r n (i + 1) = if L (r i).1 = i + 1 ∧ z_rs S L C r n i (z_st S L C r n i).testBit ≠ 0 then z_st S L C r n i ||| 2 ^ (r i).1 else z_st S L C r n i := rfl
theorem z_st_bit (hL : ∀ k, 0 < L k → L k ≤ n → (r (L k - 1)).1 = k) : ∀ {i : Nat}, i ≤ n → ∀ k, (z_st S L C r n i).testBit k = true ↔ 0 < L k ∧ L k ≤ i ∧ z_rs S L C r n (L k - 1) (z_st S L C r n (L k - 1)).testBit ≠ 0 := by
  intro i
  induction i with
  | zero =>
    intro _ k
    rw [show z_st S L C r n 0 = 0 from rfl, Nat.zero_testBit]
    constructor
    · intro h; cases h
    · intro h; omega
  | succ i ih =>
    intro hi k
    have IH := ih (by omega) k
    rw [z_st_s]
    by_cases e : L k = i + 1
    · have hk : (r i).1 = k := by
        have := hL k (by omega) (by omega)
        rw [e, Nat.add_sub_cancel] at this
        exact this
      rw [hk, e, Nat.add_sub_cancel]
      by_cases c : z_rs S L C r n i (z_st S L C r n i).testBit ≠ 0
      · rw [if_pos ⟨rfl, c⟩, nb_or_bit]
        simp [c]
      · rw [if_neg (fun q => c q.2), IH]
        constructor
        · intro h; omega
        · intro h; exact absurd h.2.2 c
    · have e2 : (L k ≤ i + 1) ↔ L k ≤ i := by omega
      rw [e2, ← IH]
      split
      · rename_i q
        have hne : (r i).1 ≠ k := fun z => e (by rw [← z]; exact q.1)
        rw [nb_or_bit, decide_eq_false hne, Bool.or_false]
      · exact Iff.rfl
theorem z_rs_eq (hL : ∀ k, 0 < L k → L k ≤ n → (r (L k - 1)).1 = k) {i : Nat} (hi : i < n) (hs : ∀ j, j < 8 → (r i).2.2.2.2 j ≤ i) : z_rs S L C r n i (z_st S L C r n i).testBit = z_rs S L C r n i (z_st S L C r n n).testBit := by
  unfold z_rs
  congr 2
  apply z_any_cong
  intro j hj
  apply z_bool_ext
  rw [z_re_t, z_re_t]
  have h1 := hs j hj
  constructor
  · rintro ⟨a1, a2, a3, a4, a5⟩
    refine ⟨a1, a2, a3, a4, ?_⟩
    rcases a5 with a5 | a5
    · exact Or.inl a5
    · by_cases c : L (r ((r i).2.2.2.2 j - 1)).1 = (r i).2.2.2.2 j
      · refine Or.inr ?_
        rw [z_st_bit hL (by omega)] at a5
        rw [z_st_bit hL (Nat.le_refl _)]
        exact ⟨a5.1, by omega, a5.2.2⟩
      · exact Or.inl c
  · rintro ⟨a1, a2, a3, a4, a5⟩
    refine ⟨a1, a2, a3, a4, ?_⟩
    rcases a5 with a5 | a5
    · exact Or.inl a5
    · by_cases c : L (r ((r i).2.2.2.2 j - 1)).1 = (r i).2.2.2.2 j
      · refine Or.inr ?_
        rw [z_st_bit hL (Nat.le_refl _)] at a5
        rw [z_st_bit hL (by omega)]
        exact ⟨a5.1, by omega, a5.2.2⟩
      · exact Or.inl c
/-- the reasons of a cell -/
def z_fr (S L C : Nat → Nat) (r : Nat → qR) (n k : Nat) : Nat := if L k = 0 then 0 else z_rs S L C r n (L k - 1) (z_st S L C r n n).testBit
theorem z_fr_lt {k : Nat} : z_fr S L C r n k < 8 := by
  unfold z_fr
  split
  · decide
  · exact z_rs_lt
theorem z_stale_iff (hL : ∀ k, 0 < L k → L k ≤ n → (r (L k - 1)).1 = k) (hs : ∀ i, i < n → ∀ j, j < 8 → (r i).2.2.2.2 j ≤ i) {k : Nat} (hk : L k ≤ n) : (z_st S L C r n n).testBit k = true ↔ z_fr S L C r n k ≠ 0 := by
  rw [z_st_bit hL (Nat.le_refl _)]
  unfold z_fr
  by_cases c : L k = 0
  · rw [if_pos c]
    constructor
    · intro h; omega
    · intro h; exact absurd rfl h
  · rw [if_neg c, z_rs_eq hL (by omega) (hs _ (by omega))]
    constructor
    · intro h; exact h.2.2
    · intro h; exact ⟨by omega, hk, h⟩
/-- a cell's own reasons, and with what rests -/
def z_ow (S L C : Nat → Nat) (r : Nat → qR) (k : Nat) : Nat := if L k = 0 then 0 else z_b (decide (L k ≤ C k)) 1 ||| z_b (z_any (z_ch S (r (L k - 1))) 8) 2
def z_rt (L : Nat → Nat) (r : Nat → qR) (n k : Nat) (st : Nat → Bool) : Bool := decide (0 < L k) && z_any (z_re r L n (r (L k - 1)) st) 8
theorem z_fr_eq (hL : ∀ k, 0 < L k → L k ≤ n → (r (L k - 1)).1 = k) {k : Nat} (hk : L k ≤ n) : z_fr S L C r n k = z_ow S L C r k ||| z_b (z_rt L r n k (z_st S L C r n n).testBit) 4 := by
  unfold z_fr z_ow z_rt
  by_cases c : L k = 0
  · rw [if_pos c, if_pos c, decide_eq_false (show ¬ 0 < L k by omega), Bool.false_and]
    show 0 = 0 ||| z_b false 4
    decide
  · rw [if_neg c, if_neg c, decide_eq_true (show 0 < L k by omega), Bool.true_and]
    unfold z_rs
    have e : L k - 1 + 1 = L k := by omega
    rw [hL k (by omega) hk, e]
def z_rk (L : Nat → Nat) (N k : Nat) : Nat := nb_cnt (fun c => decide (0 < L c ∧ L c < L k)) N
theorem nb_cnt_mono {p q : Nat → Bool} : ∀ {n : Nat}, (∀ k, k < n → p k = true → q k = true) → nb_cnt p n ≤ nb_cnt q n
  | 0, _ => Nat.le_refl _
  | n + 1, h => by
    have h1 := nb_cnt_mono (p := p) (q := q) (n := n) (fun k hk => h k (by omega))
    have h2 := h n (Nat.lt_succ_self n)
    unfold nb_cnt
    by_cases c : p n = true
    · rw [if_pos c, if_pos (h2 c)]; omega
    · rw [if_neg c]; split <;> omega
theorem nb_cnt_lt {p q : Nat → Bool} : ∀ {n : Nat}, (∀ k, k < n → p k = true → q k = true) → (∃ k, k < n ∧ q k = true ∧ p k = false) → nb_cnt p n < nb_cnt q n
  | 0, _, ⟨k, h, _⟩ => absurd h (by omega)
  | n + 1, h, ⟨k, h1, h2, h3⟩ => by
    have h4 := nb_cnt_mono (p := p) (q := q) (n := n) (fun k hk => h k (by omega))
    unfold nb_cnt
    by_cases c : k = n
    · subst c
      rw [if_pos h2, if_neg (by rw [h3]; decide)]
      omega
    · have h5 := nb_cnt_lt (p := p) (q := q) (n := n) (fun k hk => h k (by omega)) ⟨k, by omega, h2, h3⟩
      by_cases c2 : p n = true
      · rw [if_pos c2, if_pos (h n (Nat.lt_succ_self n) c2)]; omega
      · rw [if_neg c2]; split <;> omega
theorem nb_cnt_all {n : Nat} : nb_cnt (fun _ => true) n = n := by
  induction n with
  | zero => rfl
  | succ n ih => unfold nb_cnt; rw [ih, if_pos rfl]
theorem z_rk_lt {k : Nat} (hk : k < N) : z_rk L N k < N := by
  have := nb_cnt_lt (p := fun c => decide (0 < L c ∧ L c < L k)) (q := fun _ => true) (n := N) (fun _ _ _ => rfl) ⟨k, hk, rfl, decide_eq_false (by omega)⟩
  rw [nb_cnt_all] at this
  exact this
theorem z_rk_step {c k : Nat} (hc : c < N) (h0 : 0 < L c) (h : L c < L k) : z_rk L N c < z_rk L N k :=
  nb_cnt_lt (fun j _ hj => by
    have := of_decide_eq_true hj
    exact decide_eq_true (by omega)) ⟨c, hc, decide_eq_true ⟨h0, h⟩, decide_eq_false (by omega)⟩
/-- the reference's reasons R on their way: t rounds are done -/
def z_In (S L C : Nat → Nat) (r : Nat → qR) (n N t : Nat) (R : Nat → Nat) : Prop := ∀ k, k < N → (R k = z_ow S L C r k ∨ R k = z_fr S L C r n k) ∧ (z_rk L N k < t → R k = z_fr S L C r n k)
theorem z_or4 (a b : Bool) (x : Nat) (hx : a = true → b = true) (y : Nat) (hy : y = x ∨ y = x ||| z_b b 4) : (y ||| z_b a 4 = x ∨ y ||| z_b a 4 = x ||| z_b b 4) ∧ (a = b → y ||| z_b a 4 = x ||| z_b b 4) := by
  have e : ∀ z : Nat, z ||| z_b false 4 = z := fun z => Nat.or_zero z
  have e2 : ∀ z : Nat, z ||| z_b true 4 ||| z_b true 4 = z ||| z_b true 4 := fun z => by rw [Nat.or_assoc]; rfl
  cases a <;> cases b
  · rw [e] at hy ⊢
    rw [e]
    rcases hy with rfl | rfl
    · exact ⟨Or.inl rfl, fun _ => rfl⟩
    · exact ⟨Or.inl rfl, fun _ => rfl⟩
  · rw [e]
    exact ⟨hy, fun q => (nomatch q)⟩
  · exact absurd (hx rfl) (by decide)
  · rcases hy with rfl | rfl
    · exact ⟨Or.inr rfl, fun _ => rfl⟩
    · rw [e2]
      exact ⟨Or.inr rfl, fun _ => rfl⟩
theorem z_step (hL : ∀ k, 0 < L k → L k ≤ n → (r (L k - 1)).1 = k) (hs : ∀ i, i < n → ∀ j, j < 8 → (r i).2.2.2.2 j ≤ i) (hn : ∀ k, k < N → L k ≤ n) (hc : ∀ i, i < n → (r i).1 < N) {t : Nat} {R : Nat → Nat} (h : z_In S L C r n N t R) {k : Nat} (hk : k < N) :
    (R k ||| z_b (z_rt L r n k (fun c => decide (0 < R c))) 4 = z_ow S L C r k ∨ R k ||| z_b (z_rt L r n k (fun c => decide (0 < R c))) 4 = z_fr S L C r n k) ∧ (z_rk L N k < t + 1 → R k ||| z_b (z_rt L r n k (fun c => decide (0 < R c))) 4 = z_fr S L C r n k) := by
  have hst : ∀ c, c < N → (0 < R c → (z_st S L C r n n).testBit c = true) := by
    intro c hc2 hp
    rw [z_stale_iff hL hs (hn c hc2)]
    rcases (h c hc2).1 with e | e
    · rw [z_fr_eq hL (hn c hc2)]
      intro q
      have : z_ow S L C r c = 0 := (Nat.or_eq_zero_iff.mp q).1
      omega
    · omega
  have hxy : z_rt L r n k (fun c => decide (0 < R c)) = true → z_rt L r n k (z_st S L C r n n).testBit = true := by
    unfold z_rt
    rw [Bool.and_eq_true, Bool.and_eq_true]
    rintro ⟨a1, a2⟩
    refine ⟨a1, ?_⟩
    rw [z_any_iff] at a2 ⊢
    obtain ⟨j, hj, a2⟩ := a2
    refine ⟨j, hj, ?_⟩
    rw [z_re_t] at a2 ⊢
    obtain ⟨b1, b2, b3, b4, b5⟩ := a2
    refine ⟨b1, b2, b3, b4, ?_⟩
    rcases b5 with b5 | b5
    · exact Or.inl b5
    · exact Or.inr (hst _ (hc _ (by omega)) (of_decide_eq_true b5))
  rw [z_fr_eq hL (hn k hk)]
  have h1 := (h k hk).1
  rw [z_fr_eq hL (hn k hk)] at h1
  obtain ⟨g1, g2⟩ := z_or4 _ _ _ hxy _ h1
  refine ⟨g1, fun hrk => g2 ?_⟩
  apply z_bool_ext
  refine ⟨hxy, ?_⟩
  unfold z_rt
  rw [Bool.and_eq_true, Bool.and_eq_true]
  rintro ⟨a1, a2⟩
  refine ⟨a1, ?_⟩
  have hk0 := of_decide_eq_true a1
  rw [z_any_iff] at a2 ⊢
  obtain ⟨j, hj, a2⟩ := a2
  refine ⟨j, hj, ?_⟩
  rw [z_re_t] at a2 ⊢
  obtain ⟨b1, b2, b3, b4, b5⟩ := a2
  refine ⟨b1, b2, b3, b4, ?_⟩
  rcases b5 with b5 | b5
  · exact Or.inl b5
  · by_cases c : L (r ((r (L k - 1)).2.2.2.2 j - 1)).1 = (r (L k - 1)).2.2.2.2 j
    · refine Or.inr ?_
      have hkn := hn k hk
      have h3 := hs (L k - 1) (by omega) j hj
      have h4 := hc ((r (L k - 1)).2.2.2.2 j - 1) (by omega)
      rw [z_stale_iff hL hs (hn _ h4)] at b5
      have h5 := (h _ h4).2 (by
        have := z_rk_step (L := L) (N := N) (k := k) h4 (by omega) (by omega)
        omega)
      exact decide_eq_true (by omega)
    · exact Or.inl c
end ZFIX
