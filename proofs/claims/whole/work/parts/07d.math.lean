/-! masks of names and cells -/
theorem nb_shl {i : Nat} (h : i < 16) : (1 : Int32) <<< (nI i &&& 31) = nI (2 ^ i) := (by decide +kernel : ∀ i, i < 16 → (1 : Int32) <<< (nI i &&& 31) = nI (2 ^ i)) i h
theorem nb_bit {m i : Nat} (hi : i < 16) : nI m &&& (1 <<< (nI i &&& 31)) = 0 ↔ m.testBit i = false := by
  rw [nb_shl hi]
  exact fa_bit (by omega)
theorem nb_set {m i : Nat} (hi : i < 16) : nI m ||| (1 <<< (nI i &&& 31)) = nI (m ||| 2 ^ i) := by rw [nb_shl hi, fa_or]
theorem nb_or_lt {m i n : Nat} (hm : m < 2 ^ n) (hi : i < n) : m ||| 2 ^ i < 2 ^ n := Nat.or_lt_two_pow hm (Nat.pow_lt_pow_right (by decide) hi)
theorem nb_or_bit {m i j : Nat} : (m ||| 2 ^ i).testBit j = (m.testBit j || decide (i = j)) := by rw [Nat.testBit_or, Nat.testBit_two_pow]
/-! a run of a program, as numbers: values, stamps, names set, names seen, stamps seen, the last outcome -/
abbrev nR : Type := (Nat → Int32) × (Nat → Int32) × Nat × Nat × (Nat → Int32) × Option Int32
abbrev nS : Type := Nat × Nat × Nat × Nat
def a_rd (R : nR) (o : Nat) : nR := if o < 8 ∧ R.2.2.1.testBit o = false then (R.1, R.2.1, R.2.2.1, R.2.2.2.1 ||| 2 ^ o, upd R.2.2.2.2.1 o (R.2.1 o), R.2.2.2.2.2) else R
def a_ok (R : nR) (o : Nat) : Bool := decide (8 ≤ o) || decide (¬ R.2.1 o = 0)
def a_val (R : nR) (o : Nat) : Int32 := if o < 8 then R.1 o else nI o - 600
def a_op (op : Nat) (l r : Int64) : Int64 := if op = 0 then l + r else if op = 1 then l - r else if op = 2 then l * r else if r = 0 then 1099511627776 else l / r
def a_fit (x : Int64) : Bool := decide (x.toInt32.toInt64 = x)
def a_put (R : nR) (n : Nat) (x k : Int32) : nR := (upd R.1 n x, upd R.2.1 n k, R.2.2.1 ||| 2 ^ n, R.2.2.2.1, R.2.2.2.2.1, some x)
def a_st (R : nR) (x : nS) (k : Int32) : nR × Bool :=
  if a_ok (a_rd R x.2.2.1) x.2.2.1 = true then
    (if a_ok (a_rd (a_rd R x.2.2.1) x.2.2.2) x.2.2.2 = true then
      (if a_fit (a_op x.2.1 (a_val (a_rd (a_rd R x.2.2.1) x.2.2.2) x.2.2.1).toInt64 (a_val (a_rd (a_rd R x.2.2.1) x.2.2.2) x.2.2.2).toInt64) = true then
        (a_put (a_rd (a_rd R x.2.2.1) x.2.2.2) x.1 (a_op x.2.1 (a_val (a_rd (a_rd R x.2.2.1) x.2.2.2) x.2.2.1).toInt64 (a_val (a_rd (a_rd R x.2.2.1) x.2.2.2) x.2.2.2).toInt64).toInt32 k, false)
       else (a_rd (a_rd R x.2.2.1) x.2.2.2, true))
     else (a_rd (a_rd R x.2.2.1) x.2.2.2, true))
  else (a_rd R x.2.2.1, true)
def a_run : List nS → nR → Int32 → nR × Bool
  | [], R, _ => (R, false)
  | x :: P, R, k => if (a_st R x k).2 = true then a_st R x k else a_run P (a_st R x k).1 k
/-- a statement's numbers as they may be -/
def a_okS (x : nS) : Prop := x.1 < 8 ∧ x.2.1 < 4 ∧ (x.2.2.1 < 8 ∨ (100 ≤ x.2.2.1 ∧ x.2.2.1 ≤ 1100)) ∧ (x.2.2.2 < 8 ∨ (100 ≤ x.2.2.2 ∧ x.2.2.2 ≤ 1100))
/-! the attempt -/
def AT (w : mW) (ρ : Nat → Nat) (a : Nat) (fl ho : Int32) (out : Int32) (R : nR) : Prop :=
  ∃ na sa, tg w ρ a 4 40 ∧ m_fi w 3 0 a = fl ∧ m_fi w 3 1 a = ho ∧ m_fi w 3 2 a = out ∧ m_fi w 3 3 a = nI R.2.2.2.1 ∧ m_fi w 3 4 a = nI R.2.2.1 ∧ m_fr w 3 5 a = some na ∧ m_fr w 3 6 a = some sa ∧ NM w ρ na 41 R.1 R.2.1 ∧ tg w ρ sa 21 44 ∧ m_ln w sa = 8 ∧ ∀ i, i < 8 → m_ia w sa i = R.2.2.2.2.1 i
/-- what is left of the attempt between its uses -/
def AT0 (w : mW) (ρ : Nat → Nat) (a : Nat) : Prop := ∃ na sa v s, tg w ρ a 4 40 ∧ m_fr w 3 5 a = some na ∧ m_fr w 3 6 a = some sa ∧ NM w ρ na 41 v s ∧ tg w ρ sa 21 44 ∧ m_ln w sa = 8
theorem AT_0 {w : mW} {ρ : Nat → Nat} {a : Nat} {fl ho out : Int32} {R : nR} (h : AT w ρ a fl ho out R) : AT0 w ρ a := by
  obtain ⟨na, sa, b1, b2, b3, b4, b5, b6, b7, b8, b9, b10, b11, b12⟩ := h
  exact ⟨na, sa, _, _, b1, b7, b8, b9, b10, b11⟩
theorem AT0_kd {w : mW} {ρ : Nat → Nat} {a : Nat} (h : AT0 w ρ a) : tg w ρ a 4 40 := by
  obtain ⟨na, sa, v, s, b1, -⟩ := h
  exact b1
theorem AT0_ch {S : Nat → Prop} {w w' : mW} {ρ ρ' : Nat → Nat} {a : Nat} (h : AT0 w ρ a) (g : ch S w ρ w' ρ') (hs : ∀ q, 40 ≤ q → q < 45 → ¬ S q) : AT0 w' ρ' a := by
  obtain ⟨na, sa, v, s, b1, b2, b3, b4, b5, b6⟩ := h
  obtain ⟨-, s2, -, -, -⟩ := tg_sm b1 g (hs _ (by omega) (by omega))
  exact ⟨na, sa, v, s, tg_ch b1 g, (s2 _ _).trans b2, (s2 _ _).trans b3, NM_ch b4 g (hs _ (by omega) (by omega)) (hs _ (by omega) (by omega)) (hs _ (by omega) (by omega)), tg_ch b5 g, (tg_ln b5 g).trans b6⟩
theorem AT_ch {S : Nat → Prop} {w w' : mW} {ρ ρ' : Nat → Nat} {a : Nat} {fl ho out : Int32} {R : nR} (h : AT w ρ a fl ho out R) (g : ch S w ρ w' ρ') (hs : ∀ q, 40 ≤ q → q < 45 → ¬ S q) : AT w' ρ' a fl ho out R := by
  obtain ⟨na, sa, b1, b2, b3, b4, b5, b6, b7, b8, b9, b10, b11, b12⟩ := h
  obtain ⟨s1, s2, -, -, -⟩ := tg_sm b1 g (hs _ (by omega) (by omega))
  obtain ⟨-, -, s3, -, -⟩ := tg_sm b10 g (hs _ (by omega) (by omega))
  exact ⟨na, sa, tg_ch b1 g, (s1 _ _).trans b2, (s1 _ _).trans b3, (s1 _ _).trans b4, (s1 _ _).trans b5, (s1 _ _).trans b6, (s2 _ _).trans b7, (s2 _ _).trans b8, NM_ch b9 g (hs _ (by omega) (by omega)) (hs _ (by omega) (by omega)) (hs _ (by omega) (by omega)), tg_ch b10 g, (tg_ln b10 g).trans b11, fun i hi => by rw [s3]; exact b12 i hi⟩
/-- one of the attempt's numbers is written -/
theorem AT_sI {w : mW} {ρ : Nat → Nat} {a na sa : Nat} {v s : Nat → Int32} (h : tg w ρ a 4 40) (h9 : NM w ρ na 41 v s) (h10 : tg w ρ sa 21 44) (j : Nat) (x : Int32) : NM (m_sI w 3 j a x) ρ na 41 v s ∧ ch (Sr 40 5) w ρ (m_sI w 3 j a x) ρ := by
  have g : ch (fun q => q = 40) w ρ (m_sI w 3 j a x) ρ := ch_sI h.2.1
  exact ⟨NM_ch h9 g (by omega) (by omega) (by omega), ch_mono g (fun q hq => by unfold Sr; omega)⟩
theorem AT_begin_loop {ρ : Nat → Nat} {a sa : Nat} {r : nR} : ∀ (k f i : Nat) (w : mW) (fl ho out : Int32) (ss : Nat → Int32), k < f → i + k = 8 → AT w ρ a fl ho out (r.1, r.2.1, r.2.2.1, r.2.2.2.1, ss, none) → (∀ j, j < i → ss j = 0) → ∃ w', e_X0_begin_35 f w a (nI i) = some ((), w') ∧ AT w' ρ a fl ho out (r.1, r.2.1, r.2.2.1, r.2.2.2.1, (fun _ => 0), none) ∧ ch (Sr 40 5) w ρ w' ρ := by
  intro k
  induction k with
  | zero =>
    intro f i w fl ho out ss hf hi h e
    obtain ⟨f, rfl⟩ : ∃ q, f = q + 1 := ⟨f - 1, by omega⟩
    have hi8 : i = 8 := by omega
    subst hi8
    refine ⟨w, ?_, ?_, ch_rfl⟩
    · show e_X0_begin_35_b _ _ _ _ = _
      unfold e_X0_begin_35_b
      rw [if_pos (by decide +kernel)]
    · obtain ⟨na, sa, b1, b2, b3, b4, b5, b6, b7, b8, b9, b10, b11, b12⟩ := h
      exact ⟨na, sa, b1, b2, b3, b4, b5, b6, b7, b8, b9, b10, b11, fun i hi => (b12 i hi).trans (e i hi)⟩
  | succ k ih =>
    intro f i w fl ho out ss hf hi h e
    obtain ⟨f, rfl⟩ : ∃ q, f = q + 1 := ⟨f - 1, by omega⟩
    obtain ⟨na, sa, b1, b2, b3, b4, b5, b6, b7, b8, b9, b10, b11, b12⟩ := h
    have g : ch (fun q => q = 44) w ρ (m_sA w sa i 0) ρ := ch_sA b10.2.1
    have h1 : AT (m_sA w sa i 0) ρ a fl ho out (r.1, r.2.1, r.2.2.1, r.2.2.2.1, upd ss i 0, none) := by
      refine ⟨na, sa, b1, b2, b3, b4, b5, b6, b7, b8, NM_ch b9 g (by omega) (by omega) (by omega), b10, b11, fun j hj => ?_⟩
      simp only [kd_sI, fi_sI, fr_sI, ln_sI, ia_sI, oa_sI, la_sI, nx_sI, kd_sR, fi_sR, fr_sR, ln_sR, ia_sR, oa_sR, la_sR, nx_sR, kd_sA, fi_sA, fr_sA, ln_sA, ia_sA, oa_sA, la_sA, nx_sA, kd_sO, fi_sO, fr_sO, ln_sO, ia_sO, oa_sO, la_sO, nx_sO, kd_sL, fi_sL, fr_sL, ln_sL, ia_sL, oa_sL, la_sL, nx_sL, kd_sF, fi_sF, fr_sF, ln_sF, ia_sF, oa_sF, la_sF, nx_sF, kd_sG, fi_sG, fr_sG, ln_sG, ia_sG, oa_sG, la_sG, nx_sG, kd_sX, fi_sX, fr_sX, ln_sX, ia_sX, oa_sX, la_sX, nx_sX, kd_nO, fi_nO, fr_nO, ln_nO, ia_nO, oa_nO, la_nO, nx_nO, kd_nA, fi_nA, fr_nA, ln_nA, ia_nA, oa_nA, la_nA, nx_nA, va_up_s]
      by_cases c : j = i
      · subst c; simp only [pk_us]
      · rw [pk_un c, pk_un c]; exact b12 j hj
    obtain ⟨w', r1, r2, r3⟩ := ih f (i + 1) _ _ _ _ _ (by omega) (by omega) h1 (fun j hj => by
      by_cases c : j = i
      · subst c; simp only [pk_us]
      · rw [pk_un c]; exact e j (by omega))
    refine ⟨w', ?_, r2, ch_trans (ch_mono g (fun q hq => by unfold Sr; omega)) r3⟩
    show e_X0_begin_35_b _ _ _ _ = _
    unfold e_X0_begin_35_b
    rw [if_neg (lge8 (by omega)), m_g_t b1.1, b8, m_o_s, m_g_t ⟨b10.1, by rw [b11]; exact nI_in (by omega) (by decide)⟩, m_l_s, nI_clamp (by omega), nI_1]
    exact r1
theorem AT_begin {w : mW} {ρ : Nat → Nat} {a b t : Nat} {v s : Nat → Int32} (h : AT0 w ρ a) (g : NM w ρ b t v s) (ht : t + 2 < 40 ∨ 44 < t) : ∃ w', e_X0_begin w a b = some ((), w') ∧ AT w' ρ a 0 0 0 (v, s, 0, 0, (fun _ => 0), none) ∧ ch (Sr 40 5) w ρ w' ρ := by
  obtain ⟨na, sa, v0, s0, b1, b2, b3, b4, b5, b6⟩ := h
  unfold e_X0_begin
  rw [m_g_t b1.1, m_g_t (by decide +kernel), m_l_s, m_g_t (by decide +kernel), m_l_s, m_l_s, m_l_s, m_l_s]
  have G : ch (fun q => q = 40) w ρ (m_sI (m_sI (m_sI (m_sI (m_sI w 3 0 a 0) 3 1 a 0) 3 2 a 0) 3 3 a 0) 3 4 a 0) ρ := ch_trans (ch_trans (ch_sI b1.2.1) (ch_sI b1.2.1)) (ch_trans (ch_trans (ch_sI b1.2.1) (ch_sI b1.2.1)) (ch_sI b1.2.1))
  have k0 : m_fi (m_sI (m_sI (m_sI (m_sI (m_sI w 3 0 a 0) 3 1 a 0) 3 2 a 0) 3 3 a 0) 3 4 a 0) 3 0 a = 0 := by simp only [kd_sI, fi_sI, fr_sI, ln_sI, ia_sI, oa_sI, la_sI, nx_sI, kd_sR, fi_sR, fr_sR, ln_sR, ia_sR, oa_sR, la_sR, nx_sR, kd_sA, fi_sA, fr_sA, ln_sA, ia_sA, oa_sA, la_sA, nx_sA, kd_sO, fi_sO, fr_sO, ln_sO, ia_sO, oa_sO, la_sO, nx_sO, kd_sL, fi_sL, fr_sL, ln_sL, ia_sL, oa_sL, la_sL, nx_sL, kd_sF, fi_sF, fr_sF, ln_sF, ia_sF, oa_sF, la_sF, nx_sF, kd_sG, fi_sG, fr_sG, ln_sG, ia_sG, oa_sG, la_sG, nx_sG, kd_sX, fi_sX, fr_sX, ln_sX, ia_sX, oa_sX, la_sX, nx_sX, kd_nO, fi_nO, fr_nO, ln_nO, ia_nO, oa_nO, la_nO, nx_nO, kd_nA, fi_nA, fr_nA, ln_nA, ia_nA, oa_nA, la_nA, nx_nA]; rw [u3_j (by decide), u3_j (by decide), u3_j (by decide), u3_j (by decide), u3_s]
  have k1 : m_fi (m_sI (m_sI (m_sI (m_sI (m_sI w 3 0 a 0) 3 1 a 0) 3 2 a 0) 3 3 a 0) 3 4 a 0) 3 1 a = 0 := by simp only [kd_sI, fi_sI, fr_sI, ln_sI, ia_sI, oa_sI, la_sI, nx_sI, kd_sR, fi_sR, fr_sR, ln_sR, ia_sR, oa_sR, la_sR, nx_sR, kd_sA, fi_sA, fr_sA, ln_sA, ia_sA, oa_sA, la_sA, nx_sA, kd_sO, fi_sO, fr_sO, ln_sO, ia_sO, oa_sO, la_sO, nx_sO, kd_sL, fi_sL, fr_sL, ln_sL, ia_sL, oa_sL, la_sL, nx_sL, kd_sF, fi_sF, fr_sF, ln_sF, ia_sF, oa_sF, la_sF, nx_sF, kd_sG, fi_sG, fr_sG, ln_sG, ia_sG, oa_sG, la_sG, nx_sG, kd_sX, fi_sX, fr_sX, ln_sX, ia_sX, oa_sX, la_sX, nx_sX, kd_nO, fi_nO, fr_nO, ln_nO, ia_nO, oa_nO, la_nO, nx_nO, kd_nA, fi_nA, fr_nA, ln_nA, ia_nA, oa_nA, la_nA, nx_nA]; rw [u3_j (by decide), u3_j (by decide), u3_j (by decide), u3_s]
  have k2 : m_fi (m_sI (m_sI (m_sI (m_sI (m_sI w 3 0 a 0) 3 1 a 0) 3 2 a 0) 3 3 a 0) 3 4 a 0) 3 2 a = 0 := by simp only [kd_sI, fi_sI, fr_sI, ln_sI, ia_sI, oa_sI, la_sI, nx_sI, kd_sR, fi_sR, fr_sR, ln_sR, ia_sR, oa_sR, la_sR, nx_sR, kd_sA, fi_sA, fr_sA, ln_sA, ia_sA, oa_sA, la_sA, nx_sA, kd_sO, fi_sO, fr_sO, ln_sO, ia_sO, oa_sO, la_sO, nx_sO, kd_sL, fi_sL, fr_sL, ln_sL, ia_sL, oa_sL, la_sL, nx_sL, kd_sF, fi_sF, fr_sF, ln_sF, ia_sF, oa_sF, la_sF, nx_sF, kd_sG, fi_sG, fr_sG, ln_sG, ia_sG, oa_sG, la_sG, nx_sG, kd_sX, fi_sX, fr_sX, ln_sX, ia_sX, oa_sX, la_sX, nx_sX, kd_nO, fi_nO, fr_nO, ln_nO, ia_nO, oa_nO, la_nO, nx_nO, kd_nA, fi_nA, fr_nA, ln_nA, ia_nA, oa_nA, la_nA, nx_nA]; rw [u3_j (by decide), u3_j (by decide), u3_s]
  have k3 : m_fi (m_sI (m_sI (m_sI (m_sI (m_sI w 3 0 a 0) 3 1 a 0) 3 2 a 0) 3 3 a 0) 3 4 a 0) 3 3 a = 0 := by simp only [kd_sI, fi_sI, fr_sI, ln_sI, ia_sI, oa_sI, la_sI, nx_sI, kd_sR, fi_sR, fr_sR, ln_sR, ia_sR, oa_sR, la_sR, nx_sR, kd_sA, fi_sA, fr_sA, ln_sA, ia_sA, oa_sA, la_sA, nx_sA, kd_sO, fi_sO, fr_sO, ln_sO, ia_sO, oa_sO, la_sO, nx_sO, kd_sL, fi_sL, fr_sL, ln_sL, ia_sL, oa_sL, la_sL, nx_sL, kd_sF, fi_sF, fr_sF, ln_sF, ia_sF, oa_sF, la_sF, nx_sF, kd_sG, fi_sG, fr_sG, ln_sG, ia_sG, oa_sG, la_sG, nx_sG, kd_sX, fi_sX, fr_sX, ln_sX, ia_sX, oa_sX, la_sX, nx_sX, kd_nO, fi_nO, fr_nO, ln_nO, ia_nO, oa_nO, la_nO, nx_nO, kd_nA, fi_nA, fr_nA, ln_nA, ia_nA, oa_nA, la_nA, nx_nA]; rw [u3_j (by decide), u3_s]
  have k4 : m_fi (m_sI (m_sI (m_sI (m_sI (m_sI w 3 0 a 0) 3 1 a 0) 3 2 a 0) 3 3 a 0) 3 4 a 0) 3 4 a = 0 := by simp only [kd_sI, fi_sI, fr_sI, ln_sI, ia_sI, oa_sI, la_sI, nx_sI, kd_sR, fi_sR, fr_sR, ln_sR, ia_sR, oa_sR, la_sR, nx_sR, kd_sA, fi_sA, fr_sA, ln_sA, ia_sA, oa_sA, la_sA, nx_sA, kd_sO, fi_sO, fr_sO, ln_sO, ia_sO, oa_sO, la_sO, nx_sO, kd_sL, fi_sL, fr_sL, ln_sL, ia_sL, oa_sL, la_sL, nx_sL, kd_sF, fi_sF, fr_sF, ln_sF, ia_sF, oa_sF, la_sF, nx_sF, kd_sG, fi_sG, fr_sG, ln_sG, ia_sG, oa_sG, la_sG, nx_sG, kd_sX, fi_sX, fr_sX, ln_sX, ia_sX, oa_sX, la_sX, nx_sX, kd_nO, fi_nO, fr_nO, ln_nO, ia_nO, oa_nO, la_nO, nx_nO, kd_nA, fi_nA, fr_nA, ln_nA, ia_nA, oa_nA, la_nA, nx_nA]; rw [u3_s]
  have k5 : m_fr (m_sI (m_sI (m_sI (m_sI (m_sI w 3 0 a 0) 3 1 a 0) 3 2 a 0) 3 3 a 0) 3 4 a 0) = m_fr w := rfl
  generalize m_sI (m_sI (m_sI (m_sI (m_sI w 3 0 a 0) 3 1 a 0) 3 2 a 0) 3 3 a 0) 3 4 a 0 = w1 at G k0 k1 k2 k3 k4 k5 ⊢
  have b1' := tg_ch b1 G
  have b4' := NM_ch b4 G (by omega) (by omega) (by omega)
  have b5' := tg_ch b5 G
  have b6' := (tg_ln b5 G).trans b6
  have g' := NM_ch g G (by omega) (by omega) (by omega)
  rw [k5, b2, m_o_s, m_g_t (NM_kd b4').1]
  obtain ⟨w2, q1, q2, q3⟩ := NM_becomeLike (t := 41) (t' := t) (by omega) b4' g'
  rw [q1, m_b_s]
  obtain ⟨s1, s2, -, -, -⟩ := tg_sm b1' q3 (by unfold Sr; omega)
  have h2 : AT w2 ρ a 0 0 0 (v, s, 0, 0, (fun i => m_ia w2 sa i), none) := ⟨na, sa, tg_ch b1' q3, (s1 _ _).trans k0, (s1 _ _).trans k1, (s1 _ _).trans k2, (s1 _ _).trans k3, (s1 _ _).trans k4, (s2 _ _).trans (by rw [k5]; exact b2), (s2 _ _).trans (by rw [k5]; exact b3), q2, tg_ch b5' q3, (tg_ln b5' q3).trans b6', fun i hi => rfl⟩
  obtain ⟨w3, r1, r2, r3⟩ := AT_begin_loop (sa := sa) (r := (v, s, 0, 0, (fun _ => 0), none)) 8 m_N 0 w2 0 0 0 _ (by decide) rfl h2 (fun j hj => absurd hj (by omega))
  exact ⟨w3, r1, r2, ch_trans (ch_mono G (fun q hq => by unfold Sr; omega)) (ch_trans (ch_mono q3 (fun q hq => by unfold Sr at *; omega)) r3)⟩
theorem AT_read {w : mW} {ρ : Nat → Nat} {a o : Nat} {fl ho out : Int32} {R : nR} (h : AT w ρ a fl ho out R) (ho2 : o < 2 ^ 31) : ∃ w', e_X0_read w a (nI o) = some (if a_ok (a_rd R o) o = true then 1 else 0, w') ∧ AT w' ρ a fl ho out (a_rd R o) ∧ ch (Sr 40 5) w ρ w' ρ := by
  unfold e_X0_read
  by_cases c : o < 8
  · rw [nb_isName c, m_b_s, if_neg nb_10]
    obtain ⟨na, sa, b1, b2, b3, b4, b5, b6, b7, b8, b9, b10, b11, b12⟩ := id h
    have fin : ∀ (w1 : mW) (R1 : nR), AT w1 ρ a fl ho out R1 → R1.2.1 = R.2.1 → e_X0_read_46 w1 a (nI o) = some (if a_ok R1 o = true then 1 else 0, w1) := by
      intro w1 R1 h1 e1
      obtain ⟨na, sa, d1, d2, d3, d4, d5, d6, d7, d8, d9, d10, d11, d12⟩ := h1
      unfold e_X0_read_46
      rw [m_g_t d1.1, d7, m_o_s, m_g_t (NM_kd d9).1, NM_hold d9 c, m_b_s]
      unfold a_ok
      by_cases c2 : R1.2.1 o = 0
      · rw [if_pos c2, m_g_t (by decide +kernel), if_neg (by simp [c2]; omega)]
      · rw [if_neg c2, m_g_t (by decide +kernel), if_pos (by simp [c2])]
    rw [m_g_t b1.1, b6]
    by_cases c1 : R.2.2.1.testBit o = false
    · rw [if_pos ((nb_bit (by omega)).mpr c1), m_l_s, b5, nb_set (by omega)]
      have e : a_rd R o = (R.1, R.2.1, R.2.2.1, R.2.2.2.1 ||| 2 ^ o, upd R.2.2.2.2.1 o (R.2.1 o), R.2.2.2.2.2) := if_pos ⟨c, c1⟩
      obtain ⟨n1, g1⟩ := AT_sI b1 b9 b10 3 (nI (R.2.2.2.1 ||| 2 ^ o))
      rw [fr_sI, b8, m_o_s, b7, m_o_s, m_g_t (by exact (NM_kd b9).1)]
      rw [NM_stampOf n1 c, m_b_s, m_g_t ⟨b10.1, by rw [ln_sI, b11]; exact nI_in c (by decide)⟩, m_l_s, nI_clamp ho2]
      have g2 : ch (fun q => q = 44) (m_sI w 3 3 a (nI (R.2.2.2.1 ||| 2 ^ o))) ρ (m_sA (m_sI w 3 3 a (nI (R.2.2.2.1 ||| 2 ^ o))) sa o (R.2.1 o)) ρ := ch_sA b10.2.1
      have h1 : AT (m_sA (m_sI w 3 3 a (nI (R.2.2.2.1 ||| 2 ^ o))) sa o (R.2.1 o)) ρ a fl ho out (a_rd R o) := by
        rw [e]
        refine ⟨na, sa, b1, ?_, ?_, ?_, ?_, ?_, b7, b8, NM_ch n1 g2 (by omega) (by omega) (by omega), b10, b11, fun j hj => ?_⟩
        · simp only [kd_sI, fi_sI, fr_sI, ln_sI, ia_sI, oa_sI, la_sI, nx_sI, kd_sR, fi_sR, fr_sR, ln_sR, ia_sR, oa_sR, la_sR, nx_sR, kd_sA, fi_sA, fr_sA, ln_sA, ia_sA, oa_sA, la_sA, nx_sA, kd_sO, fi_sO, fr_sO, ln_sO, ia_sO, oa_sO, la_sO, nx_sO, kd_sL, fi_sL, fr_sL, ln_sL, ia_sL, oa_sL, la_sL, nx_sL, kd_sF, fi_sF, fr_sF, ln_sF, ia_sF, oa_sF, la_sF, nx_sF, kd_sG, fi_sG, fr_sG, ln_sG, ia_sG, oa_sG, la_sG, nx_sG, kd_sX, fi_sX, fr_sX, ln_sX, ia_sX, oa_sX, la_sX, nx_sX, kd_nO, fi_nO, fr_nO, ln_nO, ia_nO, oa_nO, la_nO, nx_nO, kd_nA, fi_nA, fr_nA, ln_nA, ia_nA, oa_nA, la_nA, nx_nA]; rw [u3_j (by decide)]; exact b2
        · simp only [kd_sI, fi_sI, fr_sI, ln_sI, ia_sI, oa_sI, la_sI, nx_sI, kd_sR, fi_sR, fr_sR, ln_sR, ia_sR, oa_sR, la_sR, nx_sR, kd_sA, fi_sA, fr_sA, ln_sA, ia_sA, oa_sA, la_sA, nx_sA, kd_sO, fi_sO, fr_sO, ln_sO, ia_sO, oa_sO, la_sO, nx_sO, kd_sL, fi_sL, fr_sL, ln_sL, ia_sL, oa_sL, la_sL, nx_sL, kd_sF, fi_sF, fr_sF, ln_sF, ia_sF, oa_sF, la_sF, nx_sF, kd_sG, fi_sG, fr_sG, ln_sG, ia_sG, oa_sG, la_sG, nx_sG, kd_sX, fi_sX, fr_sX, ln_sX, ia_sX, oa_sX, la_sX, nx_sX, kd_nO, fi_nO, fr_nO, ln_nO, ia_nO, oa_nO, la_nO, nx_nO, kd_nA, fi_nA, fr_nA, ln_nA, ia_nA, oa_nA, la_nA, nx_nA]; rw [u3_j (by decide)]; exact b3
        · simp only [kd_sI, fi_sI, fr_sI, ln_sI, ia_sI, oa_sI, la_sI, nx_sI, kd_sR, fi_sR, fr_sR, ln_sR, ia_sR, oa_sR, la_sR, nx_sR, kd_sA, fi_sA, fr_sA, ln_sA, ia_sA, oa_sA, la_sA, nx_sA, kd_sO, fi_sO, fr_sO, ln_sO, ia_sO, oa_sO, la_sO, nx_sO, kd_sL, fi_sL, fr_sL, ln_sL, ia_sL, oa_sL, la_sL, nx_sL, kd_sF, fi_sF, fr_sF, ln_sF, ia_sF, oa_sF, la_sF, nx_sF, kd_sG, fi_sG, fr_sG, ln_sG, ia_sG, oa_sG, la_sG, nx_sG, kd_sX, fi_sX, fr_sX, ln_sX, ia_sX, oa_sX, la_sX, nx_sX, kd_nO, fi_nO, fr_nO, ln_nO, ia_nO, oa_nO, la_nO, nx_nO, kd_nA, fi_nA, fr_nA, ln_nA, ia_nA, oa_nA, la_nA, nx_nA]; rw [u3_j (by decide)]; exact b4
        · simp only [kd_sI, fi_sI, fr_sI, ln_sI, ia_sI, oa_sI, la_sI, nx_sI, kd_sR, fi_sR, fr_sR, ln_sR, ia_sR, oa_sR, la_sR, nx_sR, kd_sA, fi_sA, fr_sA, ln_sA, ia_sA, oa_sA, la_sA, nx_sA, kd_sO, fi_sO, fr_sO, ln_sO, ia_sO, oa_sO, la_sO, nx_sO, kd_sL, fi_sL, fr_sL, ln_sL, ia_sL, oa_sL, la_sL, nx_sL, kd_sF, fi_sF, fr_sF, ln_sF, ia_sF, oa_sF, la_sF, nx_sF, kd_sG, fi_sG, fr_sG, ln_sG, ia_sG, oa_sG, la_sG, nx_sG, kd_sX, fi_sX, fr_sX, ln_sX, ia_sX, oa_sX, la_sX, nx_sX, kd_nO, fi_nO, fr_nO, ln_nO, ia_nO, oa_nO, la_nO, nx_nO, kd_nA, fi_nA, fr_nA, ln_nA, ia_nA, oa_nA, la_nA, nx_nA, u3_s]
        · simp only [kd_sI, fi_sI, fr_sI, ln_sI, ia_sI, oa_sI, la_sI, nx_sI, kd_sR, fi_sR, fr_sR, ln_sR, ia_sR, oa_sR, la_sR, nx_sR, kd_sA, fi_sA, fr_sA, ln_sA, ia_sA, oa_sA, la_sA, nx_sA, kd_sO, fi_sO, fr_sO, ln_sO, ia_sO, oa_sO, la_sO, nx_sO, kd_sL, fi_sL, fr_sL, ln_sL, ia_sL, oa_sL, la_sL, nx_sL, kd_sF, fi_sF, fr_sF, ln_sF, ia_sF, oa_sF, la_sF, nx_sF, kd_sG, fi_sG, fr_sG, ln_sG, ia_sG, oa_sG, la_sG, nx_sG, kd_sX, fi_sX, fr_sX, ln_sX, ia_sX, oa_sX, la_sX, nx_sX, kd_nO, fi_nO, fr_nO, ln_nO, ia_nO, oa_nO, la_nO, nx_nO, kd_nA, fi_nA, fr_nA, ln_nA, ia_nA, oa_nA, la_nA, nx_nA]; rw [u3_j (by decide)]; exact b6
        · simp only [kd_sI, fi_sI, fr_sI, ln_sI, ia_sI, oa_sI, la_sI, nx_sI, kd_sR, fi_sR, fr_sR, ln_sR, ia_sR, oa_sR, la_sR, nx_sR, kd_sA, fi_sA, fr_sA, ln_sA, ia_sA, oa_sA, la_sA, nx_sA, kd_sO, fi_sO, fr_sO, ln_sO, ia_sO, oa_sO, la_sO, nx_sO, kd_sL, fi_sL, fr_sL, ln_sL, ia_sL, oa_sL, la_sL, nx_sL, kd_sF, fi_sF, fr_sF, ln_sF, ia_sF, oa_sF, la_sF, nx_sF, kd_sG, fi_sG, fr_sG, ln_sG, ia_sG, oa_sG, la_sG, nx_sG, kd_sX, fi_sX, fr_sX, ln_sX, ia_sX, oa_sX, la_sX, nx_sX, kd_nO, fi_nO, fr_nO, ln_nO, ia_nO, oa_nO, la_nO, nx_nO, kd_nA, fi_nA, fr_nA, ln_nA, ia_nA, oa_nA, la_nA, nx_nA, va_up_s]
          by_cases c3 : j = o
          · subst c3; simp only [pk_us]
          · rw [pk_un c3, pk_un c3]; exact b12 j hj
      exact ⟨_, fin _ _ h1 (by rw [e]), h1, ch_trans g1 (ch_mono g2 (fun q hq => by unfold Sr; omega))⟩
    · rw [if_neg (fun q => c1 ((nb_bit (by omega)).mp q))]
      have e : a_rd R o = R := if_neg (fun q => c1 q.2)
      rw [e]
      exact ⟨w, fin w R h rfl, h, ch_rfl⟩
  · rw [nb_isNameB (by omega) ho2, m_b_s, if_pos rfl, m_g_t (by decide +kernel)]
    have e : a_rd R o = R := if_neg (fun q => c q.1)
    rw [e]
    refine ⟨w, ?_, h, ch_rfl⟩
    rw [if_pos (by unfold a_ok; simp; omega)]
theorem AT_val {w : mW} {ρ : Nat → Nat} {a o : Nat} {fl ho out : Int32} {R : nR} (h : AT w ρ a fl ho out R) (ho2 : o < 2 ^ 31) : e_X0_operandValue w a (nI o) = some (a_val R o, w) := by
  obtain ⟨na, sa, b1, b2, b3, b4, b5, b6, b7, b8, b9, b10, b11, b12⟩ := h
  unfold e_X0_operandValue e_X0_operandValue_23 a_val
  by_cases c : o < 8
  · rw [nb_isName c, m_b_s, if_neg nb_10, m_g_t b1.1, b7, m_o_s, m_g_t (NM_kd b9).1, NM_valueOf b9 c, m_b_s, if_pos c]
  · rw [nb_isNameB (by omega) ho2, m_b_s, if_pos rfl, if_neg c]
