/-! pasted out of kit/laws/NUMBERS.to-paste -/
theorem fa_and (a b : Nat) : nI a &&& nI b = nI (a &&& b) := by
  apply Int32.toBitVec_inj.1
  show BitVec.ofNat 32 a &&& BitVec.ofNat 32 b = BitVec.ofNat 32 (a &&& b)
  apply BitVec.eq_of_getLsbD_eq
  intro i hi
  simp [hi]
theorem fa_or (a b : Nat) : nI a ||| nI b = nI (a ||| b) := by
  apply Int32.toBitVec_inj.1
  show BitVec.ofNat 32 a ||| BitVec.ofNat 32 b = BitVec.ofNat 32 (a ||| b)
  apply BitVec.eq_of_getLsbD_eq
  intro i hi
  simp [hi]
/-- a remainder by a power of two, as a mask -/
theorem fa_bit {n j : Nat} (hj : j < 31) : nI n &&& nI (2 ^ j) = 0 ↔ n.testBit j = false := by
  have h2 : (2 : Nat) ^ j < 2 ^ 31 := Nat.pow_lt_pow_right (by decide) hj
  have hle : n &&& 2 ^ j ≤ 2 ^ j := Nat.and_le_right
  have e : n &&& 2 ^ j = 0 ↔ n.testBit j = false := by
    constructor
    · intro h
      have h1 : (n &&& 2 ^ j).testBit j = false := by rw [h]; simp
      rw [Nat.testBit_and] at h1
      first | simpa using h1 | simpa [Nat.testBit_two_pow_self] using h1 | simpa [Nat.testBit_two_pow] using h1
    · intro h
      apply Nat.eq_of_testBit_eq
      intro i
      rw [Nat.testBit_and]
      by_cases hi : j = i
      · subst hi; simp [h]
      · first | (simp [Nat.testBit_two_pow, hi]; done) | (simp [Nat.testBit_two_pow_of_ne hi]; done)
  rw [fa_and]
  constructor
  · intro h
    apply e.mp
    rcases Nat.eq_zero_or_pos (n &&& 2 ^ j) with z | z
    · exact z
    · exact absurd h (nI_ne0 z (Nat.lt_of_le_of_lt hle h2))
  · intro h
    rw [e.mpr h]; exact nI_0
/-! plain mathematics behind the walks: what an update leaves -/
theorem kd_sI {w : mW} {c j a : Nat} {v : Int32} : m_kd (m_sI w c j a v) = m_kd w := rfl
theorem fi_sI {w : mW} {c j a : Nat} {v : Int32} : m_fi (m_sI w c j a v) = m_u3 (m_fi w) c j a v := rfl
theorem fr_sI {w : mW} {c j a : Nat} {v : Int32} : m_fr (m_sI w c j a v) = m_fr w := rfl
theorem ln_sI {w : mW} {c j a : Nat} {v : Int32} : m_ln (m_sI w c j a v) = m_ln w := rfl
theorem ia_sI {w : mW} {c j a : Nat} {v : Int32} : m_ia (m_sI w c j a v) = m_ia w := rfl
theorem oa_sI {w : mW} {c j a : Nat} {v : Int32} : m_oa (m_sI w c j a v) = m_oa w := rfl
theorem la_sI {w : mW} {c j a : Nat} {v : Int32} : m_la (m_sI w c j a v) = m_la w := rfl
theorem nx_sI {w : mW} {c j a : Nat} {v : Int32} : m_nx (m_sI w c j a v) = m_nx w := rfl
theorem kd_sR {w : mW} {c j a : Nat} {v : Option Nat} : m_kd (m_sR w c j a v) = m_kd w := rfl
theorem fi_sR {w : mW} {c j a : Nat} {v : Option Nat} : m_fi (m_sR w c j a v) = m_fi w := rfl
theorem fr_sR {w : mW} {c j a : Nat} {v : Option Nat} : m_fr (m_sR w c j a v) = m_u3 (m_fr w) c j a v := rfl
theorem ln_sR {w : mW} {c j a : Nat} {v : Option Nat} : m_ln (m_sR w c j a v) = m_ln w := rfl
theorem ia_sR {w : mW} {c j a : Nat} {v : Option Nat} : m_ia (m_sR w c j a v) = m_ia w := rfl
theorem oa_sR {w : mW} {c j a : Nat} {v : Option Nat} : m_oa (m_sR w c j a v) = m_oa w := rfl
theorem la_sR {w : mW} {c j a : Nat} {v : Option Nat} : m_la (m_sR w c j a v) = m_la w := rfl
theorem nx_sR {w : mW} {c j a : Nat} {v : Option Nat} : m_nx (m_sR w c j a v) = m_nx w := rfl
theorem kd_sA {w : mW} {a i : Nat} {v : Int32} : m_kd (m_sA w a i v) = m_kd w := rfl
theorem fi_sA {w : mW} {a i : Nat} {v : Int32} : m_fi (m_sA w a i v) = m_fi w := rfl
theorem fr_sA {w : mW} {a i : Nat} {v : Int32} : m_fr (m_sA w a i v) = m_fr w := rfl
theorem ln_sA {w : mW} {a i : Nat} {v : Int32} : m_ln (m_sA w a i v) = m_ln w := rfl
theorem ia_sA {w : mW} {a i : Nat} {v : Int32} : m_ia (m_sA w a i v) = va_up (m_ia w) a (upd (m_ia w a) i v) := rfl
theorem oa_sA {w : mW} {a i : Nat} {v : Int32} : m_oa (m_sA w a i v) = m_oa w := rfl
theorem la_sA {w : mW} {a i : Nat} {v : Int32} : m_la (m_sA w a i v) = m_la w := rfl
theorem nx_sA {w : mW} {a i : Nat} {v : Int32} : m_nx (m_sA w a i v) = m_nx w := rfl
theorem kd_sO {w : mW} {a i : Nat} {v : Option Nat} : m_kd (m_sO w a i v) = m_kd w := rfl
theorem fi_sO {w : mW} {a i : Nat} {v : Option Nat} : m_fi (m_sO w a i v) = m_fi w := rfl
theorem fr_sO {w : mW} {a i : Nat} {v : Option Nat} : m_fr (m_sO w a i v) = m_fr w := rfl
theorem ln_sO {w : mW} {a i : Nat} {v : Option Nat} : m_ln (m_sO w a i v) = m_ln w := rfl
theorem ia_sO {w : mW} {a i : Nat} {v : Option Nat} : m_ia (m_sO w a i v) = m_ia w := rfl
theorem oa_sO {w : mW} {a i : Nat} {v : Option Nat} : m_oa (m_sO w a i v) = va_up (m_oa w) a (va_up (m_oa w a) i v) := rfl
theorem la_sO {w : mW} {a i : Nat} {v : Option Nat} : m_la (m_sO w a i v) = m_la w := rfl
theorem nx_sO {w : mW} {a i : Nat} {v : Option Nat} : m_nx (m_sO w a i v) = m_nx w := rfl
theorem kd_sL {w : mW} {a i : Nat} {v : Int64} : m_kd (m_sL w a i v) = m_kd w := rfl
theorem fi_sL {w : mW} {a i : Nat} {v : Int64} : m_fi (m_sL w a i v) = m_fi w := rfl
theorem fr_sL {w : mW} {a i : Nat} {v : Int64} : m_fr (m_sL w a i v) = m_fr w := rfl
theorem ln_sL {w : mW} {a i : Nat} {v : Int64} : m_ln (m_sL w a i v) = m_ln w := rfl
theorem ia_sL {w : mW} {a i : Nat} {v : Int64} : m_ia (m_sL w a i v) = m_ia w := rfl
theorem oa_sL {w : mW} {a i : Nat} {v : Int64} : m_oa (m_sL w a i v) = m_oa w := rfl
theorem la_sL {w : mW} {a i : Nat} {v : Int64} : m_la (m_sL w a i v) = va_up (m_la w) a (vp_updL (m_la w a) i v) := rfl
theorem nx_sL {w : mW} {a i : Nat} {v : Int64} : m_nx (m_sL w a i v) = m_nx w := rfl
theorem kd_sF {w : mW} {a : Nat} {f : Nat → Int32} : m_kd (m_sF w a f) = m_kd w := rfl
theorem fi_sF {w : mW} {a : Nat} {f : Nat → Int32} : m_fi (m_sF w a f) = m_fi w := rfl
theorem fr_sF {w : mW} {a : Nat} {f : Nat → Int32} : m_fr (m_sF w a f) = m_fr w := rfl
theorem ln_sF {w : mW} {a : Nat} {f : Nat → Int32} : m_ln (m_sF w a f) = m_ln w := rfl
theorem ia_sF {w : mW} {a : Nat} {f : Nat → Int32} : m_ia (m_sF w a f) = va_up (m_ia w) a f := rfl
theorem oa_sF {w : mW} {a : Nat} {f : Nat → Int32} : m_oa (m_sF w a f) = m_oa w := rfl
theorem la_sF {w : mW} {a : Nat} {f : Nat → Int32} : m_la (m_sF w a f) = m_la w := rfl
theorem nx_sF {w : mW} {a : Nat} {f : Nat → Int32} : m_nx (m_sF w a f) = m_nx w := rfl
theorem kd_sG {w : mW} {a : Nat} {f : Nat → Option Nat} : m_kd (m_sG w a f) = m_kd w := rfl
theorem fi_sG {w : mW} {a : Nat} {f : Nat → Option Nat} : m_fi (m_sG w a f) = m_fi w := rfl
theorem fr_sG {w : mW} {a : Nat} {f : Nat → Option Nat} : m_fr (m_sG w a f) = m_fr w := rfl
theorem ln_sG {w : mW} {a : Nat} {f : Nat → Option Nat} : m_ln (m_sG w a f) = m_ln w := rfl
theorem ia_sG {w : mW} {a : Nat} {f : Nat → Option Nat} : m_ia (m_sG w a f) = m_ia w := rfl
theorem oa_sG {w : mW} {a : Nat} {f : Nat → Option Nat} : m_oa (m_sG w a f) = va_up (m_oa w) a f := rfl
theorem la_sG {w : mW} {a : Nat} {f : Nat → Option Nat} : m_la (m_sG w a f) = m_la w := rfl
theorem nx_sG {w : mW} {a : Nat} {f : Nat → Option Nat} : m_nx (m_sG w a f) = m_nx w := rfl
theorem kd_sX {w : mW} {n : Nat} : m_kd (m_sX w n) = m_kd w := rfl
theorem fi_sX {w : mW} {n : Nat} : m_fi (m_sX w n) = m_fi w := rfl
theorem fr_sX {w : mW} {n : Nat} : m_fr (m_sX w n) = m_fr w := rfl
theorem ln_sX {w : mW} {n : Nat} : m_ln (m_sX w n) = m_ln w := rfl
theorem ia_sX {w : mW} {n : Nat} : m_ia (m_sX w n) = m_ia w := rfl
theorem oa_sX {w : mW} {n : Nat} : m_oa (m_sX w n) = m_oa w := rfl
theorem la_sX {w : mW} {n : Nat} : m_la (m_sX w n) = m_la w := rfl
theorem nx_sX {w : mW} {n : Nat} : m_nx (m_sX w n) = n := rfl
theorem kd_nO {w : mW} {c : Nat} : m_kd (m_nO w c) = va_up (m_kd w) (m_nx w) (c + 1) := rfl
theorem fi_nO {w : mW} {c : Nat} : m_fi (m_nO w c) = m_ua (m_fi w) (m_nx w) 0 := rfl
theorem fr_nO {w : mW} {c : Nat} : m_fr (m_nO w c) = m_ua (m_fr w) (m_nx w) none := rfl
theorem ln_nO {w : mW} {c : Nat} : m_ln (m_nO w c) = m_ln w := rfl
theorem ia_nO {w : mW} {c : Nat} : m_ia (m_nO w c) = m_ia w := rfl
theorem oa_nO {w : mW} {c : Nat} : m_oa (m_nO w c) = m_oa w := rfl
theorem la_nO {w : mW} {c : Nat} : m_la (m_nO w c) = m_la w := rfl
theorem nx_nO {w : mW} {c : Nat} : m_nx (m_nO w c) = m_nx w + 1 := rfl
theorem kd_nA {w : mW} {k n : Nat} : m_kd (m_nA w k n) = va_up (m_kd w) (m_nx w) k := rfl
theorem fi_nA {w : mW} {k n : Nat} : m_fi (m_nA w k n) = m_fi w := rfl
theorem fr_nA {w : mW} {k n : Nat} : m_fr (m_nA w k n) = m_fr w := rfl
theorem ln_nA {w : mW} {k n : Nat} : m_ln (m_nA w k n) = va_up (m_ln w) (m_nx w) n := rfl
theorem ia_nA {w : mW} {k n : Nat} : m_ia (m_nA w k n) = va_up (m_ia w) (m_nx w) (fun _ => 0) := rfl
theorem oa_nA {w : mW} {k n : Nat} : m_oa (m_nA w k n) = va_up (m_oa w) (m_nx w) (fun _ => none) := rfl
theorem la_nA {w : mW} {k n : Nat} : m_la (m_nA w k n) = va_up (m_la w) (m_nx w) (fun _ => 0) := rfl
theorem nx_nA {w : mW} {k n : Nat} : m_nx (m_nA w k n) = m_nx w + 1 := rfl
theorem va_up_s {α : Type} {f : Nat → α} {k : Nat} {x : α} : va_up f k x k = x := if_pos rfl
theorem va_up_n {α : Type} {f : Nat → α} {k j : Nat} {x : α} (h : j ≠ k) : va_up f k x j = f j := if_neg h
theorem u3_s {α : Type} {f : Nat → Nat → Nat → α} {c j a : Nat} {v : α} : m_u3 f c j a v c j a = v := if_pos ⟨rfl, rfl, rfl⟩
theorem u3_a {α : Type} {f : Nat → Nat → Nat → α} {c j a c' j' a' : Nat} {v : α} (h : a' ≠ a) : m_u3 f c j a v c' j' a' = f c' j' a' := if_neg (fun q => h q.2.2)
theorem u3_j {α : Type} {f : Nat → Nat → Nat → α} {c j a c' j' a' : Nat} {v : α} (h : j' ≠ j) : m_u3 f c j a v c' j' a' = f c' j' a' := if_neg (fun q => h q.2.1)
theorem ua_s {α : Type} {f : Nat → Nat → Nat → α} {a c j : Nat} {v : α} : m_ua f a v c j a = v := if_pos rfl
theorem ua_n {α : Type} {f : Nat → Nat → Nat → α} {a c j a' : Nat} {v : α} (h : a' ≠ a) : m_ua f a v c j a' = f c j a' := if_neg h
theorem m_b_s {α β ω : Type} {a : α} {w : ω} {f : α → ω → Option β} : m_b (some (a, w)) f = f a w := rfl
theorem m_o_s {α β : Type} {a : α} {f : α → Option β} : m_o (some a) f = f a := rfl
theorem m_l_s {α β : Type} {v : α} {f : α → β} : m_l v f = f v := rfl
theorem m_t_s {α β : Type} {r : α} {w : mW} {f : α → mW → Option ((β ⊕ String) × mW)} : m_t (some (.inl r, w)) f = f r w := rfl
theorem m_t_x {α β : Type} {E : String} {w : mW} {f : α → mW → Option ((β ⊕ String) × mW)} : m_t (some (.inr E, w)) f = some (.inr E, w) := rfl
theorem m_n_0 {β : Type} {a : β} {f : Nat → β} : m_n none a f = a := rfl
theorem m_n_1 {β : Type} {q : Nat} {a : β} {f : Nat → β} : m_n (some q) a f = f q := rfl
/-- two worlds say the same of a cell -/
def sm (w w' : mW) (a : Nat) : Prop := (∀ c j, m_fi w' c j a = m_fi w c j a) ∧ (∀ c j, m_fr w' c j a = m_fr w c j a) ∧ m_ia w' a = m_ia w a ∧ m_oa w' a = m_oa w a ∧ m_la w' a = m_la w a
theorem sm_rfl {w : mW} {a : Nat} : sm w w a := ⟨fun _ _ => rfl, fun _ _ => rfl, rfl, rfl, rfl⟩
theorem sm_trans {w w1 w2 : mW} {a : Nat} (h : sm w w1 a) (g : sm w1 w2 a) : sm w w2 a := ⟨fun c j => (g.1 c j).trans (h.1 c j), fun c j => (g.2.1 c j).trans (h.2.1 c j), g.2.2.1.trans h.2.2.1, g.2.2.2.1.trans h.2.2.2.1, g.2.2.2.2.trans h.2.2.2.2⟩
/-- a step of the world: cells keep their kinds, lengths and marks; those whose mark isn't in S keep what they hold; new ones may be there -/
def ch (S : Nat → Prop) (w : mW) (ρ : Nat → Nat) (w' : mW) (ρ' : Nat → Nat) : Prop := m_nx w ≤ m_nx w' ∧ ∀ a, a < m_nx w → ρ' a = ρ a ∧ m_kd w' a = m_kd w a ∧ m_ln w' a = m_ln w a ∧ (¬ S (ρ a) → sm w w' a)
theorem ch_rfl {S : Nat → Prop} {w : mW} {ρ : Nat → Nat} : ch S w ρ w ρ := ⟨Nat.le_refl _, fun _ _ => ⟨rfl, rfl, rfl, fun _ => sm_rfl⟩⟩
theorem ch_trans {S : Nat → Prop} {w w1 w2 : mW} {ρ ρ1 ρ2 : Nat → Nat} (h : ch S w ρ w1 ρ1) (g : ch S w1 ρ1 w2 ρ2) : ch S w ρ w2 ρ2 := by
  refine ⟨Nat.le_trans h.1 g.1, fun a ha => ?_⟩
  obtain ⟨h1, h2, h3, h4⟩ := h.2 a ha
  obtain ⟨g1, g2, g3, g4⟩ := g.2 a (Nat.lt_of_lt_of_le ha h.1)
  exact ⟨g1.trans h1, g2.trans h2, g3.trans h3, fun hn => sm_trans (h4 hn) (g4 (by rw [h1]; exact hn))⟩
theorem ch_mono {S S' : Nat → Prop} {w w' : mW} {ρ ρ' : Nat → Nat} (h : ch S w ρ w' ρ') (hs : ∀ t, S t → S' t) : ch S' w ρ w' ρ' := ⟨h.1, fun a ha => ⟨(h.2 a ha).1, (h.2 a ha).2.1, (h.2 a ha).2.2.1, fun hn => (h.2 a ha).2.2.2 (fun q => hn (hs _ q))⟩⟩
theorem ch_sI {S : Nat → Prop} {w : mW} {ρ : Nat → Nat} {c j a : Nat} {v : Int32} (h : S (ρ a)) : ch S w ρ (m_sI w c j a v) ρ := ⟨Nat.le_refl _, fun b _ => ⟨rfl, rfl, rfl, fun hn => ⟨fun _ _ => u3_a (fun e => hn (e ▸ h)), fun _ _ => rfl, rfl, rfl, rfl⟩⟩⟩
theorem ch_sR {S : Nat → Prop} {w : mW} {ρ : Nat → Nat} {c j a : Nat} {v : Option Nat} (h : S (ρ a)) : ch S w ρ (m_sR w c j a v) ρ := ⟨Nat.le_refl _, fun b _ => ⟨rfl, rfl, rfl, fun hn => ⟨fun _ _ => rfl, fun _ _ => u3_a (fun e => hn (e ▸ h)), rfl, rfl, rfl⟩⟩⟩
theorem ch_sA {S : Nat → Prop} {w : mW} {ρ : Nat → Nat} {a i : Nat} {v : Int32} (h : S (ρ a)) : ch S w ρ (m_sA w a i v) ρ := ⟨Nat.le_refl _, fun b _ => ⟨rfl, rfl, rfl, fun hn => ⟨fun _ _ => rfl, fun _ _ => rfl, va_up_n (fun e => hn (e ▸ h)), rfl, rfl⟩⟩⟩
theorem ch_sO {S : Nat → Prop} {w : mW} {ρ : Nat → Nat} {a i : Nat} {v : Option Nat} (h : S (ρ a)) : ch S w ρ (m_sO w a i v) ρ := ⟨Nat.le_refl _, fun b _ => ⟨rfl, rfl, rfl, fun hn => ⟨fun _ _ => rfl, fun _ _ => rfl, rfl, va_up_n (fun e => hn (e ▸ h)), rfl⟩⟩⟩
theorem ch_sL {S : Nat → Prop} {w : mW} {ρ : Nat → Nat} {a i : Nat} {v : Int64} (h : S (ρ a)) : ch S w ρ (m_sL w a i v) ρ := ⟨Nat.le_refl _, fun b _ => ⟨rfl, rfl, rfl, fun hn => ⟨fun _ _ => rfl, fun _ _ => rfl, rfl, rfl, va_up_n (fun e => hn (e ▸ h))⟩⟩⟩
theorem ch_sF {S : Nat → Prop} {w : mW} {ρ : Nat → Nat} {a : Nat} {f : Nat → Int32} (h : S (ρ a)) : ch S w ρ (m_sF w a f) ρ := ⟨Nat.le_refl _, fun b _ => ⟨rfl, rfl, rfl, fun hn => ⟨fun _ _ => rfl, fun _ _ => rfl, va_up_n (fun e => hn (e ▸ h)), rfl, rfl⟩⟩⟩
theorem ch_sG {S : Nat → Prop} {w : mW} {ρ : Nat → Nat} {a : Nat} {f : Nat → Option Nat} (h : S (ρ a)) : ch S w ρ (m_sG w a f) ρ := ⟨Nat.le_refl _, fun b _ => ⟨rfl, rfl, rfl, fun hn => ⟨fun _ _ => rfl, fun _ _ => rfl, rfl, va_up_n (fun e => hn (e ▸ h)), rfl⟩⟩⟩
theorem ch_nO {S : Nat → Prop} {w : mW} {ρ : Nat → Nat} {c t : Nat} : ch S w ρ (m_nO w c) (va_up ρ (m_nx w) t) := ⟨Nat.le_succ _, fun b hb => by
  have h : b ≠ m_nx w := Nat.ne_of_lt hb
  exact ⟨va_up_n h, va_up_n h, rfl, fun _ => ⟨fun _ _ => ua_n h, fun _ _ => ua_n h, rfl, rfl, rfl⟩⟩⟩
theorem ch_nA {S : Nat → Prop} {w : mW} {ρ : Nat → Nat} {k n t : Nat} : ch S w ρ (m_nA w k n) (va_up ρ (m_nx w) t) := ⟨Nat.le_succ _, fun b hb => by
  have h : b ≠ m_nx w := Nat.ne_of_lt hb
  exact ⟨va_up_n h, va_up_n h, va_up_n h, fun _ => ⟨fun _ _ => rfl, fun _ _ => rfl, va_up_n h, va_up_n h, va_up_n h⟩⟩⟩
theorem ch_sX {S : Nat → Prop} {w : mW} {ρ : Nat → Nat} {n : Nat} (h : m_nx w ≤ n) : ch S w ρ (m_sX w n) ρ := ⟨h, fun _ _ => ⟨rfl, rfl, rfl, fun _ => sm_rfl⟩⟩
/-- a cell of kind k with the mark t -/
def tg (w : mW) (ρ : Nat → Nat) (a k t : Nat) : Prop := m_kd w a = k ∧ ρ a = t ∧ a < m_nx w
theorem tg_ch {S : Nat → Prop} {w w' : mW} {ρ ρ' : Nat → Nat} {a k t : Nat} (h : tg w ρ a k t) (g : ch S w ρ w' ρ') : tg w' ρ' a k t := ⟨(g.2 a h.2.2).2.1.trans h.1, (g.2 a h.2.2).1.trans h.2.1, Nat.lt_of_lt_of_le h.2.2 g.1⟩
theorem tg_sm {S : Nat → Prop} {w w' : mW} {ρ ρ' : Nat → Nat} {a k t : Nat} (h : tg w ρ a k t) (g : ch S w ρ w' ρ') (hs : ¬ S t) : sm w w' a := (g.2 a h.2.2).2.2.2 (by rw [h.2.1]; exact hs)
theorem tg_ln {S : Nat → Prop} {w w' : mW} {ρ ρ' : Nat → Nat} {a k t : Nat} (h : tg w ρ a k t) (g : ch S w ρ w' ρ') : m_ln w' a = m_ln w a := (g.2 a h.2.2).2.2.1
theorem tg_ne {w : mW} {ρ : Nat → Nat} {a b k k' t t' : Nat} (h : tg w ρ a k t) (g : tg w ρ b k' t') (hn : t ≠ t') : a ≠ b := fun e => hn (by rw [← h.2.1, e, g.2.1])
theorem tg_nk {w : mW} {ρ : Nat → Nat} {a b k k' t t' : Nat} (h : tg w ρ a k t) (g : tg w ρ b k' t') (hn : k ≠ k') : a ≠ b := fun e => hn (by rw [← h.1, e, g.1])
theorem tg_nx {w : mW} {ρ : Nat → Nat} {a k t : Nat} (h : tg w ρ a k t) : a ≠ m_nx w := Nat.ne_of_lt h.2.2
/-! small numbers -/
theorem nb_1 : (1 : Int32) = nI 1 := rfl
theorem nb_ge0 {n : Nat} (h : n < 2 ^ 31) : (0 : Int32) ≤ nI n := nI_pos' h
theorem nb_ci {w : mW} {i n : Nat} (h : i < n) (hn : n < 2 ^ 31) : e_J15_checkIndex_7cf53 w (nI i) (nI n) = some (nI i, w) := by
  unfold e_J15_checkIndex_7cf53 e_J3_checkIndex_8e157
  rw [if_neg (nI_pos (by omega)), if_pos (nI_lt h hn)]
  rfl
/-! rows of objects: an ArrayList at a, with its array at r, holds L -/
def ALr (w : mW) (ρ : Nat → Nat) (t0 a t : Nat) (L : List Nat) (r : Nat) : Prop :=
  tg w ρ a 3 t ∧ m_fi w 2 2 a = nI L.length ∧ m_fr w 2 1 a = some r ∧ m_kd w r = 23 ∧ r < m_nx w ∧ ((r = t0 ∧ ρ r = 0 ∧ m_ln w r = 0) ∨ (ρ r = t + 1 ∧ 10 ≤ m_ln w r)) ∧ L.length ≤ m_ln w r ∧ m_ln w r ≤ 600 ∧ (∀ i, m_oa w r i = L[i]?) ∧ ∀ x ∈ L, x < m_nx w ∧ 1 ≤ m_kd w x ∧ m_kd w x ≤ 11
def AL (w : mW) (ρ : Nat → Nat) (t0 a t : Nat) (L : List Nat) : Prop := ∃ r, ALr w ρ t0 a t L r
theorem AL_ch {S : Nat → Prop} {w w' : mW} {ρ ρ' : Nat → Nat} {t0 a t : Nat} {L : List Nat} (h : AL w ρ t0 a t L) (g : ch S w ρ w' ρ') (h0 : ¬ S 0) (h1 : ¬ S t) (h2 : ¬ S (t + 1)) : AL w' ρ' t0 a t L := by
  obtain ⟨r, b1, b2, b3, b4, b5, b6, b7, b8, b9, b10⟩ := h
  obtain ⟨s1, s2, -, -, -⟩ := tg_sm b1 g h1
  have hr : ¬ S (ρ r) := by
    rcases b6 with q | q
    · rw [q.2.1]; exact h0
    · rw [q.1]; exact h2
  obtain ⟨k1, k2, k3, k4⟩ := g.2 r b5
  obtain ⟨-, -, -, s4, -⟩ := k4 hr
  refine ⟨r, tg_ch b1 g, (s1 _ _).trans b2, (s2 _ _).trans b3, k2.trans b4, Nat.lt_of_lt_of_le b5 g.1, ?_, by rw [k3]; exact b7, by rw [k3]; exact b8, fun i => by rw [s4]; exact b9 i, fun x hx => ?_⟩
  · rw [k1, k3]; exact b6
  · obtain ⟨e1, e2, e3⟩ := b10 x hx
    rw [(g.2 x e1).2.1]
    exact ⟨Nat.lt_of_lt_of_le e1 g.1, e2, e3⟩
theorem AL_size {w : mW} {ρ : Nat → Nat} {t0 a t : Nat} {L : List Nat} (h : AL w ρ t0 a t L) : e_Jx4a65c_size_8abf5 w a = some (nI L.length, w) := by
  obtain ⟨r, b1, b2, -⟩ := h
  unfold e_Jx4a65c_size_8abf5
  rw [m_g_t b1.1, b2]
theorem AL_len {w : mW} {ρ : Nat → Nat} {t0 a t : Nat} {L : List Nat} (h : AL w ρ t0 a t L) : L.length ≤ 600 := by
  obtain ⟨r, b1, b2, b3, b4, b5, b6, b7, b8, -⟩ := h
  omega
theorem AL_get {w : mW} {ρ : Nat → Nat} {t0 a t : Nat} {L : List Nat} (h : AL w ρ t0 a t L) {i : Nat} (hi : i < L.length) : e_Jx4a65c_get_915e3 w a (nI i) = some (L[i], w) := by
  obtain ⟨r, b1, b2, b3, b4, b5, b6, b7, b8, b9, b10⟩ := h
  have hL : L.length < 2 ^ 31 := by omega
  unfold e_Jx4a65c_get_915e3 e_Jx4a65c_elementData_915e3
  rw [m_g_t b1.1, b2, nb_ci hi hL, m_b_s, m_g_t b1.1, m_g_t b1.1, b3, m_o_s, m_g_t ⟨b4, nI_in (by omega) (by omega)⟩, nI_clamp (by omega), b9, List.getElem?_eq_getElem hi]
  rfl
theorem AL_kd {w : mW} {ρ : Nat → Nat} {t0 a t : Nat} {L : List Nat} (h : AL w ρ t0 a t L) {x : Nat} (hx : x ∈ L) : x < m_nx w ∧ 1 ≤ m_kd w x ∧ m_kd w x ≤ 11 := by
  obtain ⟨r, b1, b2, b3, b4, b5, b6, b7, b8, b9, b10⟩ := h
  exact b10 x hx
def S2 (t : Nat) : Nat → Prop := fun q => q = t ∨ q = t + 1
/-- the array grows -/
theorem ALr_grow {w : mW} {ρ : Nat → Nat} {t0 : Nat × Nat × Nat × Nat} {a t : Nat} {L : List Nat} {r : Nat} (h : ALr w ρ t0.1 a t L r) (ht : t ≠ 0) (hc : L.length = m_ln w r) (hL : L.length < 400) :
    ∃ w' ρ' r', e_Jx4a65c_grow_d5877 t0 w a = some (r', w') ∧ ALr w' ρ' t0.1 a t L r' ∧ L.length < m_ln w' r' ∧ ρ' r' = t + 1 ∧ ch (S2 t) w ρ w' ρ' := by
  obtain ⟨b1, b2, b3, b4, b5, b6, b7, b8, b9, b10⟩ := h
  have hr : m_nx w ≠ r := fun e => by omega
  have ha : a ≠ m_nx w := tg_nx b1
  unfold e_Jx4a65c_grow_d5877 e_Jx4a65c_grow_92f84
  rw [m_g_t b1.1, m_g_t b1.1, b2, b3, m_o_s, m_g_t (by omega)]
  rcases b6 with ⟨c1, c2, c3⟩ | ⟨c2, c3⟩
  · have hl : L = [] := List.eq_nil_of_length_eq_zero (by omega)
    subst hl
    have em : m_max 10 (nI ([] : List Nat).length + 1) = nI 10 := by decide +kernel
    rw [c3, if_neg (by decide +kernel), m_o_s, if_pos (by rw [c1]), em, m_g_t ⟨nI_pos (by decide), by rw [nI_clamp (by decide)]; decide, by decide⟩, m_l_s, m_l_s, m_b_s, nI_clamp (by decide)]
    refine ⟨_, va_up ρ (m_nx w) (t + 1), _, rfl, ⟨⟨?_, ?_, ?_⟩, ?_, ?_, ?_, ?_, Or.inr ⟨?_, ?_⟩, ?_, ?_, ?_, ?_⟩, ?_, ?_, ?_⟩
    · simp only [kd_sI, fi_sI, fr_sI, ln_sI, ia_sI, oa_sI, la_sI, nx_sI, kd_sR, fi_sR, fr_sR, ln_sR, ia_sR, oa_sR, la_sR, nx_sR, kd_sA, fi_sA, fr_sA, ln_sA, ia_sA, oa_sA, la_sA, nx_sA, kd_sO, fi_sO, fr_sO, ln_sO, ia_sO, oa_sO, la_sO, nx_sO, kd_sL, fi_sL, fr_sL, ln_sL, ia_sL, oa_sL, la_sL, nx_sL, kd_sF, fi_sF, fr_sF, ln_sF, ia_sF, oa_sF, la_sF, nx_sF, kd_sG, fi_sG, fr_sG, ln_sG, ia_sG, oa_sG, la_sG, nx_sG, kd_sX, fi_sX, fr_sX, ln_sX, ia_sX, oa_sX, la_sX, nx_sX, kd_nO, fi_nO, fr_nO, ln_nO, ia_nO, oa_nO, la_nO, nx_nO, kd_nA, fi_nA, fr_nA, ln_nA, ia_nA, oa_nA, la_nA, nx_nA, va_up_n ha]; exact b1.1
    · rw [va_up_n ha]; exact b1.2.1
    · simp only [kd_sI, fi_sI, fr_sI, ln_sI, ia_sI, oa_sI, la_sI, nx_sI, kd_sR, fi_sR, fr_sR, ln_sR, ia_sR, oa_sR, la_sR, nx_sR, kd_sA, fi_sA, fr_sA, ln_sA, ia_sA, oa_sA, la_sA, nx_sA, kd_sO, fi_sO, fr_sO, ln_sO, ia_sO, oa_sO, la_sO, nx_sO, kd_sL, fi_sL, fr_sL, ln_sL, ia_sL, oa_sL, la_sL, nx_sL, kd_sF, fi_sF, fr_sF, ln_sF, ia_sF, oa_sF, la_sF, nx_sF, kd_sG, fi_sG, fr_sG, ln_sG, ia_sG, oa_sG, la_sG, nx_sG, kd_sX, fi_sX, fr_sX, ln_sX, ia_sX, oa_sX, la_sX, nx_sX, kd_nO, fi_nO, fr_nO, ln_nO, ia_nO, oa_nO, la_nO, nx_nO, kd_nA, fi_nA, fr_nA, ln_nA, ia_nA, oa_nA, la_nA, nx_nA]; exact Nat.lt_succ_of_lt b1.2.2
    · simp only [kd_sI, fi_sI, fr_sI, ln_sI, ia_sI, oa_sI, la_sI, nx_sI, kd_sR, fi_sR, fr_sR, ln_sR, ia_sR, oa_sR, la_sR, nx_sR, kd_sA, fi_sA, fr_sA, ln_sA, ia_sA, oa_sA, la_sA, nx_sA, kd_sO, fi_sO, fr_sO, ln_sO, ia_sO, oa_sO, la_sO, nx_sO, kd_sL, fi_sL, fr_sL, ln_sL, ia_sL, oa_sL, la_sL, nx_sL, kd_sF, fi_sF, fr_sF, ln_sF, ia_sF, oa_sF, la_sF, nx_sF, kd_sG, fi_sG, fr_sG, ln_sG, ia_sG, oa_sG, la_sG, nx_sG, kd_sX, fi_sX, fr_sX, ln_sX, ia_sX, oa_sX, la_sX, nx_sX, kd_nO, fi_nO, fr_nO, ln_nO, ia_nO, oa_nO, la_nO, nx_nO, kd_nA, fi_nA, fr_nA, ln_nA, ia_nA, oa_nA, la_nA, nx_nA]; exact b2
    · simp only [kd_sI, fi_sI, fr_sI, ln_sI, ia_sI, oa_sI, la_sI, nx_sI, kd_sR, fi_sR, fr_sR, ln_sR, ia_sR, oa_sR, la_sR, nx_sR, kd_sA, fi_sA, fr_sA, ln_sA, ia_sA, oa_sA, la_sA, nx_sA, kd_sO, fi_sO, fr_sO, ln_sO, ia_sO, oa_sO, la_sO, nx_sO, kd_sL, fi_sL, fr_sL, ln_sL, ia_sL, oa_sL, la_sL, nx_sL, kd_sF, fi_sF, fr_sF, ln_sF, ia_sF, oa_sF, la_sF, nx_sF, kd_sG, fi_sG, fr_sG, ln_sG, ia_sG, oa_sG, la_sG, nx_sG, kd_sX, fi_sX, fr_sX, ln_sX, ia_sX, oa_sX, la_sX, nx_sX, kd_nO, fi_nO, fr_nO, ln_nO, ia_nO, oa_nO, la_nO, nx_nO, kd_nA, fi_nA, fr_nA, ln_nA, ia_nA, oa_nA, la_nA, nx_nA, u3_s]
    · simp only [kd_sI, fi_sI, fr_sI, ln_sI, ia_sI, oa_sI, la_sI, nx_sI, kd_sR, fi_sR, fr_sR, ln_sR, ia_sR, oa_sR, la_sR, nx_sR, kd_sA, fi_sA, fr_sA, ln_sA, ia_sA, oa_sA, la_sA, nx_sA, kd_sO, fi_sO, fr_sO, ln_sO, ia_sO, oa_sO, la_sO, nx_sO, kd_sL, fi_sL, fr_sL, ln_sL, ia_sL, oa_sL, la_sL, nx_sL, kd_sF, fi_sF, fr_sF, ln_sF, ia_sF, oa_sF, la_sF, nx_sF, kd_sG, fi_sG, fr_sG, ln_sG, ia_sG, oa_sG, la_sG, nx_sG, kd_sX, fi_sX, fr_sX, ln_sX, ia_sX, oa_sX, la_sX, nx_sX, kd_nO, fi_nO, fr_nO, ln_nO, ia_nO, oa_nO, la_nO, nx_nO, kd_nA, fi_nA, fr_nA, ln_nA, ia_nA, oa_nA, la_nA, nx_nA, va_up_s]
    · simp only [kd_sI, fi_sI, fr_sI, ln_sI, ia_sI, oa_sI, la_sI, nx_sI, kd_sR, fi_sR, fr_sR, ln_sR, ia_sR, oa_sR, la_sR, nx_sR, kd_sA, fi_sA, fr_sA, ln_sA, ia_sA, oa_sA, la_sA, nx_sA, kd_sO, fi_sO, fr_sO, ln_sO, ia_sO, oa_sO, la_sO, nx_sO, kd_sL, fi_sL, fr_sL, ln_sL, ia_sL, oa_sL, la_sL, nx_sL, kd_sF, fi_sF, fr_sF, ln_sF, ia_sF, oa_sF, la_sF, nx_sF, kd_sG, fi_sG, fr_sG, ln_sG, ia_sG, oa_sG, la_sG, nx_sG, kd_sX, fi_sX, fr_sX, ln_sX, ia_sX, oa_sX, la_sX, nx_sX, kd_nO, fi_nO, fr_nO, ln_nO, ia_nO, oa_nO, la_nO, nx_nO, kd_nA, fi_nA, fr_nA, ln_nA, ia_nA, oa_nA, la_nA, nx_nA]; exact Nat.lt_succ_self _
    · exact va_up_s
    · simp only [kd_sI, fi_sI, fr_sI, ln_sI, ia_sI, oa_sI, la_sI, nx_sI, kd_sR, fi_sR, fr_sR, ln_sR, ia_sR, oa_sR, la_sR, nx_sR, kd_sA, fi_sA, fr_sA, ln_sA, ia_sA, oa_sA, la_sA, nx_sA, kd_sO, fi_sO, fr_sO, ln_sO, ia_sO, oa_sO, la_sO, nx_sO, kd_sL, fi_sL, fr_sL, ln_sL, ia_sL, oa_sL, la_sL, nx_sL, kd_sF, fi_sF, fr_sF, ln_sF, ia_sF, oa_sF, la_sF, nx_sF, kd_sG, fi_sG, fr_sG, ln_sG, ia_sG, oa_sG, la_sG, nx_sG, kd_sX, fi_sX, fr_sX, ln_sX, ia_sX, oa_sX, la_sX, nx_sX, kd_nO, fi_nO, fr_nO, ln_nO, ia_nO, oa_nO, la_nO, nx_nO, kd_nA, fi_nA, fr_nA, ln_nA, ia_nA, oa_nA, la_nA, nx_nA, va_up_s]; exact Nat.le_refl _
    · simp only [kd_sI, fi_sI, fr_sI, ln_sI, ia_sI, oa_sI, la_sI, nx_sI, kd_sR, fi_sR, fr_sR, ln_sR, ia_sR, oa_sR, la_sR, nx_sR, kd_sA, fi_sA, fr_sA, ln_sA, ia_sA, oa_sA, la_sA, nx_sA, kd_sO, fi_sO, fr_sO, ln_sO, ia_sO, oa_sO, la_sO, nx_sO, kd_sL, fi_sL, fr_sL, ln_sL, ia_sL, oa_sL, la_sL, nx_sL, kd_sF, fi_sF, fr_sF, ln_sF, ia_sF, oa_sF, la_sF, nx_sF, kd_sG, fi_sG, fr_sG, ln_sG, ia_sG, oa_sG, la_sG, nx_sG, kd_sX, fi_sX, fr_sX, ln_sX, ia_sX, oa_sX, la_sX, nx_sX, kd_nO, fi_nO, fr_nO, ln_nO, ia_nO, oa_nO, la_nO, nx_nO, kd_nA, fi_nA, fr_nA, ln_nA, ia_nA, oa_nA, la_nA, nx_nA, va_up_s]; exact Nat.zero_le _
    · simp only [kd_sI, fi_sI, fr_sI, ln_sI, ia_sI, oa_sI, la_sI, nx_sI, kd_sR, fi_sR, fr_sR, ln_sR, ia_sR, oa_sR, la_sR, nx_sR, kd_sA, fi_sA, fr_sA, ln_sA, ia_sA, oa_sA, la_sA, nx_sA, kd_sO, fi_sO, fr_sO, ln_sO, ia_sO, oa_sO, la_sO, nx_sO, kd_sL, fi_sL, fr_sL, ln_sL, ia_sL, oa_sL, la_sL, nx_sL, kd_sF, fi_sF, fr_sF, ln_sF, ia_sF, oa_sF, la_sF, nx_sF, kd_sG, fi_sG, fr_sG, ln_sG, ia_sG, oa_sG, la_sG, nx_sG, kd_sX, fi_sX, fr_sX, ln_sX, ia_sX, oa_sX, la_sX, nx_sX, kd_nO, fi_nO, fr_nO, ln_nO, ia_nO, oa_nO, la_nO, nx_nO, kd_nA, fi_nA, fr_nA, ln_nA, ia_nA, oa_nA, la_nA, nx_nA, va_up_s]; decide
    · intro i; simp only [kd_sI, fi_sI, fr_sI, ln_sI, ia_sI, oa_sI, la_sI, nx_sI, kd_sR, fi_sR, fr_sR, ln_sR, ia_sR, oa_sR, la_sR, nx_sR, kd_sA, fi_sA, fr_sA, ln_sA, ia_sA, oa_sA, la_sA, nx_sA, kd_sO, fi_sO, fr_sO, ln_sO, ia_sO, oa_sO, la_sO, nx_sO, kd_sL, fi_sL, fr_sL, ln_sL, ia_sL, oa_sL, la_sL, nx_sL, kd_sF, fi_sF, fr_sF, ln_sF, ia_sF, oa_sF, la_sF, nx_sF, kd_sG, fi_sG, fr_sG, ln_sG, ia_sG, oa_sG, la_sG, nx_sG, kd_sX, fi_sX, fr_sX, ln_sX, ia_sX, oa_sX, la_sX, nx_sX, kd_nO, fi_nO, fr_nO, ln_nO, ia_nO, oa_nO, la_nO, nx_nO, kd_nA, fi_nA, fr_nA, ln_nA, ia_nA, oa_nA, la_nA, nx_nA, va_up_s]; rfl
    · intro x hx; cases hx
    · simp only [kd_sI, fi_sI, fr_sI, ln_sI, ia_sI, oa_sI, la_sI, nx_sI, kd_sR, fi_sR, fr_sR, ln_sR, ia_sR, oa_sR, la_sR, nx_sR, kd_sA, fi_sA, fr_sA, ln_sA, ia_sA, oa_sA, la_sA, nx_sA, kd_sO, fi_sO, fr_sO, ln_sO, ia_sO, oa_sO, la_sO, nx_sO, kd_sL, fi_sL, fr_sL, ln_sL, ia_sL, oa_sL, la_sL, nx_sL, kd_sF, fi_sF, fr_sF, ln_sF, ia_sF, oa_sF, la_sF, nx_sF, kd_sG, fi_sG, fr_sG, ln_sG, ia_sG, oa_sG, la_sG, nx_sG, kd_sX, fi_sX, fr_sX, ln_sX, ia_sX, oa_sX, la_sX, nx_sX, kd_nO, fi_nO, fr_nO, ln_nO, ia_nO, oa_nO, la_nO, nx_nO, kd_nA, fi_nA, fr_nA, ln_nA, ia_nA, oa_nA, la_nA, nx_nA, va_up_s]; decide
    · exact va_up_s
    · exact ch_trans (ch_nA (t := t + 1)) (ch_sR (by rw [va_up_n ha, b1.2.1]; exact Or.inl rfl))
  · have hlen : m_ln w r < 2 ^ 31 := by omega
    have hl2 : L.length < 2 ^ 31 := by omega
    have e1 : nI L.length + 1 - nI (m_ln w r) = nI 1 := by rw [nb_1, nI_add, pk_sub (by omega)]; congr 1; omega
    have e2 : nI (m_ln w r) >>> (1 &&& 31) = nI (m_ln w r / 2) := pk_shrN hlen _ 1 (by decide)
    have e3 : m_max (nI 1) (nI (m_ln w r / 2)) = nI (m_ln w r / 2) := by
      unfold m_max
      rw [if_pos (nI_lt (by omega) (by omega))]
    have hnl : e_J8_newLength_cabcc w (nI (m_ln w r)) (nI 1) (nI (m_ln w r / 2)) = some (nI (m_ln w r + m_ln w r / 2), w) := by
      unfold e_J8_newLength_cabcc
      rw [e3, nI_add, if_neg (nI_nle (by omega) (by omega)), if_neg (show ¬ (2147483639 : Int32) < nI (m_ln w r + m_ln w r / 2) from nI_nlt (a := 2147483639) (by omega) (by decide))]
    have hcl : (nI (m_ln w r + m_ln w r / 2)).toNatClampNeg = m_ln w r + m_ln w r / 2 := nI_clamp (by omega)
    have e4 : m_min (nI (m_ln w r)) (nI (m_ln w r + m_ln w r / 2)) = nI (m_ln w r) := by
      unfold m_min
      rw [if_neg (nI_nlt (by omega) (by omega))]
    have z0 : (0 : Int32).toNatClampNeg = 0 := by decide
    have zc : (nI (m_ln w r)).toNatClampNeg = m_ln w r := nI_clamp hlen
    have hcp : e_J7_copyOf_1904c t0 w r (nI (m_ln w r + m_ln w r / 2)) = some (m_nx w, m_sG (m_nA w 23 (m_ln w r + m_ln w r / 2)) (m_nx w) (va_cpy (m_oa w r) (fun _ => none) 0 0 (m_ln w r))) := by
      unfold e_J7_copyOf_1904c e_J7_copyOf_6403c
      rw [m_g_t b4, if_pos rfl, hcl, m_g_t ⟨nI_pos (by omega), by omega, by decide⟩, m_l_s]
      simp only [kd_sI, fi_sI, fr_sI, ln_sI, ia_sI, oa_sI, la_sI, nx_sI, kd_sR, fi_sR, fr_sR, ln_sR, ia_sR, oa_sR, la_sR, nx_sR, kd_sA, fi_sA, fr_sA, ln_sA, ia_sA, oa_sA, la_sA, nx_sA, kd_sO, fi_sO, fr_sO, ln_sO, ia_sO, oa_sO, la_sO, nx_sO, kd_sL, fi_sL, fr_sL, ln_sL, ia_sL, oa_sL, la_sL, nx_sL, kd_sF, fi_sF, fr_sF, ln_sF, ia_sF, oa_sF, la_sF, nx_sF, kd_sG, fi_sG, fr_sG, ln_sG, ia_sG, oa_sG, la_sG, nx_sG, kd_sX, fi_sX, fr_sX, ln_sX, ia_sX, oa_sX, la_sX, nx_sX, kd_nO, fi_nO, fr_nO, ln_nO, ia_nO, oa_nO, la_nO, nx_nO, kd_nA, fi_nA, fr_nA, ln_nA, ia_nA, oa_nA, la_nA, nx_nA, va_up_n hr.symm, va_up_s, e4, z0, zc]
      rw [m_g_t (by rw [b4]; decide), m_g_t ⟨b4, trivial, by decide, by decide, nI_pos hlen, by omega, by omega, by omega⟩, m_g_t, m_l_s, m_b_s]
      intro i hi y hy
      rw [Nat.zero_add, b9] at hy
      have hm : y ∈ L := List.mem_of_getElem? hy
      have hy2 := b10 y hm
      rw [va_up_n (Nat.ne_of_lt hy2.1)]
      exact hy2.2
    rw [if_pos (show (0 : Int32) < nI (m_ln w r) from nI_lt (a := 0) (by omega) hlen)]
    unfold e_Jx4a65c_grow_92f84_20
    rw [e1, e2, hnl, m_b_s, m_g_t b1.1, b3, m_o_s, hcp, m_b_s, m_g_t (by simp only [kd_sI, fi_sI, fr_sI, ln_sI, ia_sI, oa_sI, la_sI, nx_sI, kd_sR, fi_sR, fr_sR, ln_sR, ia_sR, oa_sR, la_sR, nx_sR, kd_sA, fi_sA, fr_sA, ln_sA, ia_sA, oa_sA, la_sA, nx_sA, kd_sO, fi_sO, fr_sO, ln_sO, ia_sO, oa_sO, la_sO, nx_sO, kd_sL, fi_sL, fr_sL, ln_sL, ia_sL, oa_sL, la_sL, nx_sL, kd_sF, fi_sF, fr_sF, ln_sF, ia_sF, oa_sF, la_sF, nx_sF, kd_sG, fi_sG, fr_sG, ln_sG, ia_sG, oa_sG, la_sG, nx_sG, kd_sX, fi_sX, fr_sX, ln_sX, ia_sX, oa_sX, la_sX, nx_sX, kd_nO, fi_nO, fr_nO, ln_nO, ia_nO, oa_nO, la_nO, nx_nO, kd_nA, fi_nA, fr_nA, ln_nA, ia_nA, oa_nA, la_nA, nx_nA, va_up_n ha]; exact b1.1), m_l_s, m_b_s]
    refine ⟨_, va_up ρ (m_nx w) (t + 1), _, rfl, ⟨⟨?_, ?_, ?_⟩, ?_, ?_, ?_, ?_, Or.inr ⟨?_, ?_⟩, ?_, ?_, ?_, ?_⟩, ?_, ?_, ?_⟩
    · simp only [kd_sI, fi_sI, fr_sI, ln_sI, ia_sI, oa_sI, la_sI, nx_sI, kd_sR, fi_sR, fr_sR, ln_sR, ia_sR, oa_sR, la_sR, nx_sR, kd_sA, fi_sA, fr_sA, ln_sA, ia_sA, oa_sA, la_sA, nx_sA, kd_sO, fi_sO, fr_sO, ln_sO, ia_sO, oa_sO, la_sO, nx_sO, kd_sL, fi_sL, fr_sL, ln_sL, ia_sL, oa_sL, la_sL, nx_sL, kd_sF, fi_sF, fr_sF, ln_sF, ia_sF, oa_sF, la_sF, nx_sF, kd_sG, fi_sG, fr_sG, ln_sG, ia_sG, oa_sG, la_sG, nx_sG, kd_sX, fi_sX, fr_sX, ln_sX, ia_sX, oa_sX, la_sX, nx_sX, kd_nO, fi_nO, fr_nO, ln_nO, ia_nO, oa_nO, la_nO, nx_nO, kd_nA, fi_nA, fr_nA, ln_nA, ia_nA, oa_nA, la_nA, nx_nA, va_up_n ha]; exact b1.1
    · rw [va_up_n ha]; exact b1.2.1
    · simp only [kd_sI, fi_sI, fr_sI, ln_sI, ia_sI, oa_sI, la_sI, nx_sI, kd_sR, fi_sR, fr_sR, ln_sR, ia_sR, oa_sR, la_sR, nx_sR, kd_sA, fi_sA, fr_sA, ln_sA, ia_sA, oa_sA, la_sA, nx_sA, kd_sO, fi_sO, fr_sO, ln_sO, ia_sO, oa_sO, la_sO, nx_sO, kd_sL, fi_sL, fr_sL, ln_sL, ia_sL, oa_sL, la_sL, nx_sL, kd_sF, fi_sF, fr_sF, ln_sF, ia_sF, oa_sF, la_sF, nx_sF, kd_sG, fi_sG, fr_sG, ln_sG, ia_sG, oa_sG, la_sG, nx_sG, kd_sX, fi_sX, fr_sX, ln_sX, ia_sX, oa_sX, la_sX, nx_sX, kd_nO, fi_nO, fr_nO, ln_nO, ia_nO, oa_nO, la_nO, nx_nO, kd_nA, fi_nA, fr_nA, ln_nA, ia_nA, oa_nA, la_nA, nx_nA]; exact Nat.lt_succ_of_lt b1.2.2
    · simp only [kd_sI, fi_sI, fr_sI, ln_sI, ia_sI, oa_sI, la_sI, nx_sI, kd_sR, fi_sR, fr_sR, ln_sR, ia_sR, oa_sR, la_sR, nx_sR, kd_sA, fi_sA, fr_sA, ln_sA, ia_sA, oa_sA, la_sA, nx_sA, kd_sO, fi_sO, fr_sO, ln_sO, ia_sO, oa_sO, la_sO, nx_sO, kd_sL, fi_sL, fr_sL, ln_sL, ia_sL, oa_sL, la_sL, nx_sL, kd_sF, fi_sF, fr_sF, ln_sF, ia_sF, oa_sF, la_sF, nx_sF, kd_sG, fi_sG, fr_sG, ln_sG, ia_sG, oa_sG, la_sG, nx_sG, kd_sX, fi_sX, fr_sX, ln_sX, ia_sX, oa_sX, la_sX, nx_sX, kd_nO, fi_nO, fr_nO, ln_nO, ia_nO, oa_nO, la_nO, nx_nO, kd_nA, fi_nA, fr_nA, ln_nA, ia_nA, oa_nA, la_nA, nx_nA]; exact b2
    · simp only [kd_sI, fi_sI, fr_sI, ln_sI, ia_sI, oa_sI, la_sI, nx_sI, kd_sR, fi_sR, fr_sR, ln_sR, ia_sR, oa_sR, la_sR, nx_sR, kd_sA, fi_sA, fr_sA, ln_sA, ia_sA, oa_sA, la_sA, nx_sA, kd_sO, fi_sO, fr_sO, ln_sO, ia_sO, oa_sO, la_sO, nx_sO, kd_sL, fi_sL, fr_sL, ln_sL, ia_sL, oa_sL, la_sL, nx_sL, kd_sF, fi_sF, fr_sF, ln_sF, ia_sF, oa_sF, la_sF, nx_sF, kd_sG, fi_sG, fr_sG, ln_sG, ia_sG, oa_sG, la_sG, nx_sG, kd_sX, fi_sX, fr_sX, ln_sX, ia_sX, oa_sX, la_sX, nx_sX, kd_nO, fi_nO, fr_nO, ln_nO, ia_nO, oa_nO, la_nO, nx_nO, kd_nA, fi_nA, fr_nA, ln_nA, ia_nA, oa_nA, la_nA, nx_nA, u3_s]
    · simp only [kd_sI, fi_sI, fr_sI, ln_sI, ia_sI, oa_sI, la_sI, nx_sI, kd_sR, fi_sR, fr_sR, ln_sR, ia_sR, oa_sR, la_sR, nx_sR, kd_sA, fi_sA, fr_sA, ln_sA, ia_sA, oa_sA, la_sA, nx_sA, kd_sO, fi_sO, fr_sO, ln_sO, ia_sO, oa_sO, la_sO, nx_sO, kd_sL, fi_sL, fr_sL, ln_sL, ia_sL, oa_sL, la_sL, nx_sL, kd_sF, fi_sF, fr_sF, ln_sF, ia_sF, oa_sF, la_sF, nx_sF, kd_sG, fi_sG, fr_sG, ln_sG, ia_sG, oa_sG, la_sG, nx_sG, kd_sX, fi_sX, fr_sX, ln_sX, ia_sX, oa_sX, la_sX, nx_sX, kd_nO, fi_nO, fr_nO, ln_nO, ia_nO, oa_nO, la_nO, nx_nO, kd_nA, fi_nA, fr_nA, ln_nA, ia_nA, oa_nA, la_nA, nx_nA, va_up_s]
    · simp only [kd_sI, fi_sI, fr_sI, ln_sI, ia_sI, oa_sI, la_sI, nx_sI, kd_sR, fi_sR, fr_sR, ln_sR, ia_sR, oa_sR, la_sR, nx_sR, kd_sA, fi_sA, fr_sA, ln_sA, ia_sA, oa_sA, la_sA, nx_sA, kd_sO, fi_sO, fr_sO, ln_sO, ia_sO, oa_sO, la_sO, nx_sO, kd_sL, fi_sL, fr_sL, ln_sL, ia_sL, oa_sL, la_sL, nx_sL, kd_sF, fi_sF, fr_sF, ln_sF, ia_sF, oa_sF, la_sF, nx_sF, kd_sG, fi_sG, fr_sG, ln_sG, ia_sG, oa_sG, la_sG, nx_sG, kd_sX, fi_sX, fr_sX, ln_sX, ia_sX, oa_sX, la_sX, nx_sX, kd_nO, fi_nO, fr_nO, ln_nO, ia_nO, oa_nO, la_nO, nx_nO, kd_nA, fi_nA, fr_nA, ln_nA, ia_nA, oa_nA, la_nA, nx_nA]; exact Nat.lt_succ_self _
    · exact va_up_s
    · simp only [kd_sI, fi_sI, fr_sI, ln_sI, ia_sI, oa_sI, la_sI, nx_sI, kd_sR, fi_sR, fr_sR, ln_sR, ia_sR, oa_sR, la_sR, nx_sR, kd_sA, fi_sA, fr_sA, ln_sA, ia_sA, oa_sA, la_sA, nx_sA, kd_sO, fi_sO, fr_sO, ln_sO, ia_sO, oa_sO, la_sO, nx_sO, kd_sL, fi_sL, fr_sL, ln_sL, ia_sL, oa_sL, la_sL, nx_sL, kd_sF, fi_sF, fr_sF, ln_sF, ia_sF, oa_sF, la_sF, nx_sF, kd_sG, fi_sG, fr_sG, ln_sG, ia_sG, oa_sG, la_sG, nx_sG, kd_sX, fi_sX, fr_sX, ln_sX, ia_sX, oa_sX, la_sX, nx_sX, kd_nO, fi_nO, fr_nO, ln_nO, ia_nO, oa_nO, la_nO, nx_nO, kd_nA, fi_nA, fr_nA, ln_nA, ia_nA, oa_nA, la_nA, nx_nA, va_up_s]; omega
    · simp only [kd_sI, fi_sI, fr_sI, ln_sI, ia_sI, oa_sI, la_sI, nx_sI, kd_sR, fi_sR, fr_sR, ln_sR, ia_sR, oa_sR, la_sR, nx_sR, kd_sA, fi_sA, fr_sA, ln_sA, ia_sA, oa_sA, la_sA, nx_sA, kd_sO, fi_sO, fr_sO, ln_sO, ia_sO, oa_sO, la_sO, nx_sO, kd_sL, fi_sL, fr_sL, ln_sL, ia_sL, oa_sL, la_sL, nx_sL, kd_sF, fi_sF, fr_sF, ln_sF, ia_sF, oa_sF, la_sF, nx_sF, kd_sG, fi_sG, fr_sG, ln_sG, ia_sG, oa_sG, la_sG, nx_sG, kd_sX, fi_sX, fr_sX, ln_sX, ia_sX, oa_sX, la_sX, nx_sX, kd_nO, fi_nO, fr_nO, ln_nO, ia_nO, oa_nO, la_nO, nx_nO, kd_nA, fi_nA, fr_nA, ln_nA, ia_nA, oa_nA, la_nA, nx_nA, va_up_s]; omega
    · simp only [kd_sI, fi_sI, fr_sI, ln_sI, ia_sI, oa_sI, la_sI, nx_sI, kd_sR, fi_sR, fr_sR, ln_sR, ia_sR, oa_sR, la_sR, nx_sR, kd_sA, fi_sA, fr_sA, ln_sA, ia_sA, oa_sA, la_sA, nx_sA, kd_sO, fi_sO, fr_sO, ln_sO, ia_sO, oa_sO, la_sO, nx_sO, kd_sL, fi_sL, fr_sL, ln_sL, ia_sL, oa_sL, la_sL, nx_sL, kd_sF, fi_sF, fr_sF, ln_sF, ia_sF, oa_sF, la_sF, nx_sF, kd_sG, fi_sG, fr_sG, ln_sG, ia_sG, oa_sG, la_sG, nx_sG, kd_sX, fi_sX, fr_sX, ln_sX, ia_sX, oa_sX, la_sX, nx_sX, kd_nO, fi_nO, fr_nO, ln_nO, ia_nO, oa_nO, la_nO, nx_nO, kd_nA, fi_nA, fr_nA, ln_nA, ia_nA, oa_nA, la_nA, nx_nA, va_up_s]; omega
    · intro i
      simp only [kd_sI, fi_sI, fr_sI, ln_sI, ia_sI, oa_sI, la_sI, nx_sI, kd_sR, fi_sR, fr_sR, ln_sR, ia_sR, oa_sR, la_sR, nx_sR, kd_sA, fi_sA, fr_sA, ln_sA, ia_sA, oa_sA, la_sA, nx_sA, kd_sO, fi_sO, fr_sO, ln_sO, ia_sO, oa_sO, la_sO, nx_sO, kd_sL, fi_sL, fr_sL, ln_sL, ia_sL, oa_sL, la_sL, nx_sL, kd_sF, fi_sF, fr_sF, ln_sF, ia_sF, oa_sF, la_sF, nx_sF, kd_sG, fi_sG, fr_sG, ln_sG, ia_sG, oa_sG, la_sG, nx_sG, kd_sX, fi_sX, fr_sX, ln_sX, ia_sX, oa_sX, la_sX, nx_sX, kd_nO, fi_nO, fr_nO, ln_nO, ia_nO, oa_nO, la_nO, nx_nO, kd_nA, fi_nA, fr_nA, ln_nA, ia_nA, oa_nA, la_nA, nx_nA, va_up_s]
      by_cases hi : i < m_ln w r
      · rw [pk_cpy_in (Nat.zero_le _) (by omega), b9]
        congr 1
        omega
      · rw [pk_cpy_out (Or.inr (by omega)), List.getElem?_eq_none (by omega)]
    · intro x hx
      have hx2 := b10 x hx
      simp only [kd_sI, fi_sI, fr_sI, ln_sI, ia_sI, oa_sI, la_sI, nx_sI, kd_sR, fi_sR, fr_sR, ln_sR, ia_sR, oa_sR, la_sR, nx_sR, kd_sA, fi_sA, fr_sA, ln_sA, ia_sA, oa_sA, la_sA, nx_sA, kd_sO, fi_sO, fr_sO, ln_sO, ia_sO, oa_sO, la_sO, nx_sO, kd_sL, fi_sL, fr_sL, ln_sL, ia_sL, oa_sL, la_sL, nx_sL, kd_sF, fi_sF, fr_sF, ln_sF, ia_sF, oa_sF, la_sF, nx_sF, kd_sG, fi_sG, fr_sG, ln_sG, ia_sG, oa_sG, la_sG, nx_sG, kd_sX, fi_sX, fr_sX, ln_sX, ia_sX, oa_sX, la_sX, nx_sX, kd_nO, fi_nO, fr_nO, ln_nO, ia_nO, oa_nO, la_nO, nx_nO, kd_nA, fi_nA, fr_nA, ln_nA, ia_nA, oa_nA, la_nA, nx_nA, va_up_n (Nat.ne_of_lt hx2.1)]
      exact ⟨Nat.lt_succ_of_lt hx2.1, hx2.2⟩
    · simp only [kd_sI, fi_sI, fr_sI, ln_sI, ia_sI, oa_sI, la_sI, nx_sI, kd_sR, fi_sR, fr_sR, ln_sR, ia_sR, oa_sR, la_sR, nx_sR, kd_sA, fi_sA, fr_sA, ln_sA, ia_sA, oa_sA, la_sA, nx_sA, kd_sO, fi_sO, fr_sO, ln_sO, ia_sO, oa_sO, la_sO, nx_sO, kd_sL, fi_sL, fr_sL, ln_sL, ia_sL, oa_sL, la_sL, nx_sL, kd_sF, fi_sF, fr_sF, ln_sF, ia_sF, oa_sF, la_sF, nx_sF, kd_sG, fi_sG, fr_sG, ln_sG, ia_sG, oa_sG, la_sG, nx_sG, kd_sX, fi_sX, fr_sX, ln_sX, ia_sX, oa_sX, la_sX, nx_sX, kd_nO, fi_nO, fr_nO, ln_nO, ia_nO, oa_nO, la_nO, nx_nO, kd_nA, fi_nA, fr_nA, ln_nA, ia_nA, oa_nA, la_nA, nx_nA, va_up_s]; omega
    · exact va_up_s
    · exact ch_trans (ch_trans (ch_nA (t := t + 1)) (ch_sG (by rw [va_up_s]; exact Or.inr rfl))) (ch_sR (by rw [va_up_n ha, b1.2.1]; exact Or.inl rfl))

theorem AL_add {w : mW} {ρ : Nat → Nat} {t0 : Nat × Nat × Nat × Nat} {a t : Nat} {L : List Nat} (h : AL w ρ t0.1 a t L) (ht : t ≠ 0) (hL : L.length < 400) {x : Nat} (hx : x < m_nx w ∧ 1 ≤ m_kd w x ∧ m_kd w x ≤ 11) :
    ∃ w' ρ', e_Jx4a65c_add_9ea2d t0 w a x = some (1, w') ∧ AL w' ρ' t0.1 a t (L ++ [x]) ∧ ch (S2 t) w ρ w' ρ' := by
  obtain ⟨r, h⟩ := h
  have h0 := h
  obtain ⟨b1, b2, b3, b4, b5, b6, b7, b8, b9, b10⟩ := h
  unfold e_Jx4a65c_add_9ea2d
  rw [m_g_t b1.1, m_l_s]
  generalize hw1 : m_sI w 2 0 a (m_fi w 2 0 a + 1) = w1
  have h1 : ALr w1 ρ t0.1 a t L r := by
    subst hw1
    refine ⟨b1, ?_, b3, b4, b5, b6, b7, b8, b9, b10⟩
    rw [fi_sI, u3_j (by decide)]
    exact b2
  have g1 : ch (S2 t) w ρ w1 ρ := by
    subst hw1
    exact ch_sI (by rw [b1.2.1]; exact Or.inl rfl)
  have hx1 : x < m_nx w1 ∧ 1 ≤ m_kd w1 x ∧ m_kd w1 x ≤ 11 := by
    subst hw1
    exact hx
  clear hw1
  rw [h1.2.2.1, m_o_s]
  -- the store
  have key : ∀ (w2 : mW) (ρ2 : Nat → Nat) (r2 : Nat), ALr w2 ρ2 t0.1 a t L r2 → L.length < m_ln w2 r2 → ch (S2 t) w1 ρ w2 ρ2 → ∃ w' ρ', (m_b (e_Jx4a65c_add_72be8_11 t0 w2 a x r2 (nI L.length)) fun (_ : Unit) w5 => m_g (vp_nar .boolean 1 = 1) <| some ((1 : Int32), w5)) = some (1, w') ∧ AL w' ρ' t0.1 a t (L ++ [x]) ∧ ch (S2 t) w ρ w' ρ' := by
    intro w2 ρ2 r2 k hl g2
    obtain ⟨d1, d2, d3, d4, d5, d6, d7, d8, d9, d10⟩ := k
    have hx2 : x < m_nx w2 ∧ 1 ≤ m_kd w2 x ∧ m_kd w2 x ≤ 11 := by
      rw [(g2.2 x hx1.1).2.1]
      exact ⟨Nat.lt_of_lt_of_le hx1.1 g2.1, hx1.2⟩
    have hm : ρ2 r2 = t + 1 := by
      rcases d6 with q | q
      · omega
      · exact q.1
    have har : a ≠ r2 := fun e => by rw [e] at d1; rw [d1.2.1] at hm; omega
    unfold e_Jx4a65c_add_72be8_11
    rw [m_g_t ⟨d4, nI_in hl (by omega)⟩, m_g_t hx2.2, m_l_s, nI_clamp (by omega), m_g_t (by simp only [kd_sI, fi_sI, fr_sI, ln_sI, ia_sI, oa_sI, la_sI, nx_sI, kd_sR, fi_sR, fr_sR, ln_sR, ia_sR, oa_sR, la_sR, nx_sR, kd_sA, fi_sA, fr_sA, ln_sA, ia_sA, oa_sA, la_sA, nx_sA, kd_sO, fi_sO, fr_sO, ln_sO, ia_sO, oa_sO, la_sO, nx_sO, kd_sL, fi_sL, fr_sL, ln_sL, ia_sL, oa_sL, la_sL, nx_sL, kd_sF, fi_sF, fr_sF, ln_sF, ia_sF, oa_sF, la_sF, nx_sF, kd_sG, fi_sG, fr_sG, ln_sG, ia_sG, oa_sG, la_sG, nx_sG, kd_sX, fi_sX, fr_sX, ln_sX, ia_sX, oa_sX, la_sX, nx_sX, kd_nO, fi_nO, fr_nO, ln_nO, ia_nO, oa_nO, la_nO, nx_nO, kd_nA, fi_nA, fr_nA, ln_nA, ia_nA, oa_nA, la_nA, nx_nA]; exact d1.1), m_l_s, m_b_s, m_g_t (by decide +kernel), nI_1]
    refine ⟨_, ρ2, rfl, ⟨r2, d1, ?_, d3, d4, d5, d6, ?_, d8, fun i => ?_, fun y hy => ?_⟩, ch_trans g1 (ch_trans g2 (ch_trans (ch_sO (by rw [hm]; exact Or.inr rfl)) (ch_sI (by rw [d1.2.1]; exact Or.inl rfl))))⟩
    · simp only [kd_sI, fi_sI, fr_sI, ln_sI, ia_sI, oa_sI, la_sI, nx_sI, kd_sR, fi_sR, fr_sR, ln_sR, ia_sR, oa_sR, la_sR, nx_sR, kd_sA, fi_sA, fr_sA, ln_sA, ia_sA, oa_sA, la_sA, nx_sA, kd_sO, fi_sO, fr_sO, ln_sO, ia_sO, oa_sO, la_sO, nx_sO, kd_sL, fi_sL, fr_sL, ln_sL, ia_sL, oa_sL, la_sL, nx_sL, kd_sF, fi_sF, fr_sF, ln_sF, ia_sF, oa_sF, la_sF, nx_sF, kd_sG, fi_sG, fr_sG, ln_sG, ia_sG, oa_sG, la_sG, nx_sG, kd_sX, fi_sX, fr_sX, ln_sX, ia_sX, oa_sX, la_sX, nx_sX, kd_nO, fi_nO, fr_nO, ln_nO, ia_nO, oa_nO, la_nO, nx_nO, kd_nA, fi_nA, fr_nA, ln_nA, ia_nA, oa_nA, la_nA, nx_nA, u3_s, List.length_append, List.length_singleton]
    · simp only [kd_sI, fi_sI, fr_sI, ln_sI, ia_sI, oa_sI, la_sI, nx_sI, kd_sR, fi_sR, fr_sR, ln_sR, ia_sR, oa_sR, la_sR, nx_sR, kd_sA, fi_sA, fr_sA, ln_sA, ia_sA, oa_sA, la_sA, nx_sA, kd_sO, fi_sO, fr_sO, ln_sO, ia_sO, oa_sO, la_sO, nx_sO, kd_sL, fi_sL, fr_sL, ln_sL, ia_sL, oa_sL, la_sL, nx_sL, kd_sF, fi_sF, fr_sF, ln_sF, ia_sF, oa_sF, la_sF, nx_sF, kd_sG, fi_sG, fr_sG, ln_sG, ia_sG, oa_sG, la_sG, nx_sG, kd_sX, fi_sX, fr_sX, ln_sX, ia_sX, oa_sX, la_sX, nx_sX, kd_nO, fi_nO, fr_nO, ln_nO, ia_nO, oa_nO, la_nO, nx_nO, kd_nA, fi_nA, fr_nA, ln_nA, ia_nA, oa_nA, la_nA, nx_nA, List.length_append, List.length_singleton]; omega
    · simp only [kd_sI, fi_sI, fr_sI, ln_sI, ia_sI, oa_sI, la_sI, nx_sI, kd_sR, fi_sR, fr_sR, ln_sR, ia_sR, oa_sR, la_sR, nx_sR, kd_sA, fi_sA, fr_sA, ln_sA, ia_sA, oa_sA, la_sA, nx_sA, kd_sO, fi_sO, fr_sO, ln_sO, ia_sO, oa_sO, la_sO, nx_sO, kd_sL, fi_sL, fr_sL, ln_sL, ia_sL, oa_sL, la_sL, nx_sL, kd_sF, fi_sF, fr_sF, ln_sF, ia_sF, oa_sF, la_sF, nx_sF, kd_sG, fi_sG, fr_sG, ln_sG, ia_sG, oa_sG, la_sG, nx_sG, kd_sX, fi_sX, fr_sX, ln_sX, ia_sX, oa_sX, la_sX, nx_sX, kd_nO, fi_nO, fr_nO, ln_nO, ia_nO, oa_nO, la_nO, nx_nO, kd_nA, fi_nA, fr_nA, ln_nA, ia_nA, oa_nA, la_nA, nx_nA, va_up_s]
      by_cases e : i = L.length
      · rw [e, va_up_s, List.getElem?_append_right (Nat.le_refl _), Nat.sub_self]
        rfl
      · rw [va_up_n e, d9]
        by_cases e2 : i < L.length
        · rw [List.getElem?_append_left e2]
        · rw [List.getElem?_eq_none (by omega), List.getElem?_eq_none (by rw [List.length_append, List.length_singleton]; omega)]
    · simp only [kd_sI, fi_sI, fr_sI, ln_sI, ia_sI, oa_sI, la_sI, nx_sI, kd_sR, fi_sR, fr_sR, ln_sR, ia_sR, oa_sR, la_sR, nx_sR, kd_sA, fi_sA, fr_sA, ln_sA, ia_sA, oa_sA, la_sA, nx_sA, kd_sO, fi_sO, fr_sO, ln_sO, ia_sO, oa_sO, la_sO, nx_sO, kd_sL, fi_sL, fr_sL, ln_sL, ia_sL, oa_sL, la_sL, nx_sL, kd_sF, fi_sF, fr_sF, ln_sF, ia_sF, oa_sF, la_sF, nx_sF, kd_sG, fi_sG, fr_sG, ln_sG, ia_sG, oa_sG, la_sG, nx_sG, kd_sX, fi_sX, fr_sX, ln_sX, ia_sX, oa_sX, la_sX, nx_sX, kd_nO, fi_nO, fr_nO, ln_nO, ia_nO, oa_nO, la_nO, nx_nO, kd_nA, fi_nA, fr_nA, ln_nA, ia_nA, oa_nA, la_nA, nx_nA]
      rcases List.mem_append.mp hy with q | q
      · exact d10 y q
      · rw [List.mem_singleton.mp q]; exact hx2
  obtain ⟨c1, c2, c3, c4, c5, c6, c7, c8, c9, c10⟩ := id h1
  rw [c2]
  unfold e_Jx4a65c_add_72be8
  rw [m_g_t (by omega)]
  by_cases hc : L.length = m_ln w1 r
  · rw [if_pos (by rw [hc]), m_g_t c1.1]
    obtain ⟨w2, ρ2, r2, q1, q2, q3, -, q5⟩ := ALr_grow h1 ht hc hL
    rw [q1, m_b_s]
    exact key w2 ρ2 r2 q2 q3 q5
  · rw [if_neg (fun e => hc ((nI_eq (by omega) (by omega)).mp e))]
    exact key w1 ρ r h1 (by omega) ch_rfl
/-- the array is emptied -/
theorem AL_clear_loop {ρ : Nat → Nat} {t n : Nat} (hn : n < 1000) : ∀ (k f i : Nat) (w : mW) (r : Nat), k < f → i + k = n → m_kd w r = 23 → n ≤ m_ln w r ∧ m_ln w r ≤ 600 → (S2 t) (ρ r) → ∃ w', e_Jx4a65c_clear_da8c8_27 f w r (nI n) (nI i) = some ((), w') ∧ ch (S2 t) w ρ w' ρ ∧ m_fi w' = m_fi w ∧ m_fr w' = m_fr w ∧ m_kd w' = m_kd w ∧ m_ln w' = m_ln w ∧ m_nx w' = m_nx w ∧ ∀ j, m_oa w' r j = if i ≤ j ∧ j < n then none else m_oa w r j := by
  intro k
  induction k with
  | zero =>
    intro f i w r hf hi hk hl hm
    obtain ⟨f, rfl⟩ : ∃ g, f = g + 1 := ⟨f - 1, by omega⟩
    refine ⟨w, ?_, ch_rfl, rfl, rfl, rfl, rfl, rfl, fun j => ?_⟩
    · show e_Jx4a65c_clear_da8c8_27_b _ _ _ _ _ = _
      unfold e_Jx4a65c_clear_da8c8_27_b
      rw [if_pos (nI_le (by omega) (by omega))]
    · rw [if_neg (by omega)]
  | succ k ih =>
    intro f i w r hf hi hk hl hm
    obtain ⟨f, rfl⟩ : ∃ g, f = g + 1 := ⟨f - 1, by omega⟩
    obtain ⟨w', q1, q2, q3, q4, q5, q6, q7, q8⟩ := ih f (i + 1) (m_sO w r i none) r (by omega) (by omega) hk hl hm
    refine ⟨w', ?_, ch_trans (ch_sO hm) q2, q3, q4, q5, q6, q7, fun j => ?_⟩
    · show e_Jx4a65c_clear_da8c8_27_b _ _ _ _ _ = _
      unfold e_Jx4a65c_clear_da8c8_27_b
      rw [if_neg (nI_ge (by omega) (by omega)), m_g_t ⟨hk, nI_in (by omega) (by omega)⟩, m_l_s, nI_clamp (by omega), nI_1]
      exact q1
    · rw [q8]
      simp only [kd_sI, fi_sI, fr_sI, ln_sI, ia_sI, oa_sI, la_sI, nx_sI, kd_sR, fi_sR, fr_sR, ln_sR, ia_sR, oa_sR, la_sR, nx_sR, kd_sA, fi_sA, fr_sA, ln_sA, ia_sA, oa_sA, la_sA, nx_sA, kd_sO, fi_sO, fr_sO, ln_sO, ia_sO, oa_sO, la_sO, nx_sO, kd_sL, fi_sL, fr_sL, ln_sL, ia_sL, oa_sL, la_sL, nx_sL, kd_sF, fi_sF, fr_sF, ln_sF, ia_sF, oa_sF, la_sF, nx_sF, kd_sG, fi_sG, fr_sG, ln_sG, ia_sG, oa_sG, la_sG, nx_sG, kd_sX, fi_sX, fr_sX, ln_sX, ia_sX, oa_sX, la_sX, nx_sX, kd_nO, fi_nO, fr_nO, ln_nO, ia_nO, oa_nO, la_nO, nx_nO, kd_nA, fi_nA, fr_nA, ln_nA, ia_nA, oa_nA, la_nA, nx_nA, va_up_s]
      by_cases e : j = i
      · subst e
        rw [va_up_s, if_neg (by omega), if_pos (by omega)]
      · rw [va_up_n e]
        by_cases e2 : i + 1 ≤ j ∧ j < n
        · rw [if_pos e2, if_pos (by omega)]
        · rw [if_neg e2, if_neg (by omega)]
theorem AL_clear {w : mW} {ρ : Nat → Nat} {t0 : Nat} {a t : Nat} {L : List Nat} (h : AL w ρ t0 a t L) (hl0 : L ≠ []) : ∃ w', e_Jx4a65c_clear_da8c8 w a = some ((), w') ∧ AL w' ρ t0 a t [] ∧ ch (S2 t) w ρ w' ρ := by
  obtain ⟨r, b1, b2, b3, b4, b5, b6, b7, b8, b9, b10⟩ := h
  have hpos : 0 < L.length := List.length_pos_iff.mpr hl0
  have hm : ρ r = t + 1 := by
    rcases b6 with q | q
    · omega
    · exact q.1
  unfold e_Jx4a65c_clear_da8c8
  rw [m_g_t b1.1, m_l_s]
  simp only [kd_sI, fi_sI, fr_sI, ln_sI, ia_sI, oa_sI, la_sI, nx_sI, kd_sR, fi_sR, fr_sR, ln_sR, ia_sR, oa_sR, la_sR, nx_sR, kd_sA, fi_sA, fr_sA, ln_sA, ia_sA, oa_sA, la_sA, nx_sA, kd_sO, fi_sO, fr_sO, ln_sO, ia_sO, oa_sO, la_sO, nx_sO, kd_sL, fi_sL, fr_sL, ln_sL, ia_sL, oa_sL, la_sL, nx_sL, kd_sF, fi_sF, fr_sF, ln_sF, ia_sF, oa_sF, la_sF, nx_sF, kd_sG, fi_sG, fr_sG, ln_sG, ia_sG, oa_sG, la_sG, nx_sG, kd_sX, fi_sX, fr_sX, ln_sX, ia_sX, oa_sX, la_sX, nx_sX, kd_nO, fi_nO, fr_nO, ln_nO, ia_nO, oa_nO, la_nO, nx_nO, kd_nA, fi_nA, fr_nA, ln_nA, ia_nA, oa_nA, la_nA, nx_nA]
  rw [b3, m_o_s, m_l_s, u3_j (by decide), b2]
  obtain ⟨w', q1, q2, q3, q4, q5, q6, q7, q8⟩ := AL_clear_loop (ρ := ρ) (t := t) (n := L.length) (by omega) L.length m_N 0 (m_sI (m_sI w 2 0 a (m_fi w 2 0 a + 1)) 2 2 a 0) r (by show _ < 5000; omega) (by omega) b4 ⟨b7, b8⟩ (by rw [hm]; exact Or.inr rfl)
  refine ⟨w', q1, ⟨r, ⟨?_, b1.2.1, ?_⟩, ?_, ?_, ?_, ?_, ?_, Nat.zero_le _, ?_, fun i => ?_, fun x hx => nomatch hx⟩, ch_trans (ch_trans (ch_sI (by rw [b1.2.1]; exact Or.inl rfl)) (ch_sI (by rw [b1.2.1]; exact Or.inl rfl))) q2⟩
  · rw [q5]; exact b1.1
  · rw [q7]; exact b1.2.2
  · rw [q3]; simp only [kd_sI, fi_sI, fr_sI, ln_sI, ia_sI, oa_sI, la_sI, nx_sI, kd_sR, fi_sR, fr_sR, ln_sR, ia_sR, oa_sR, la_sR, nx_sR, kd_sA, fi_sA, fr_sA, ln_sA, ia_sA, oa_sA, la_sA, nx_sA, kd_sO, fi_sO, fr_sO, ln_sO, ia_sO, oa_sO, la_sO, nx_sO, kd_sL, fi_sL, fr_sL, ln_sL, ia_sL, oa_sL, la_sL, nx_sL, kd_sF, fi_sF, fr_sF, ln_sF, ia_sF, oa_sF, la_sF, nx_sF, kd_sG, fi_sG, fr_sG, ln_sG, ia_sG, oa_sG, la_sG, nx_sG, kd_sX, fi_sX, fr_sX, ln_sX, ia_sX, oa_sX, la_sX, nx_sX, kd_nO, fi_nO, fr_nO, ln_nO, ia_nO, oa_nO, la_nO, nx_nO, kd_nA, fi_nA, fr_nA, ln_nA, ia_nA, oa_nA, la_nA, nx_nA, u3_s]; rfl
  · rw [q4]; exact b3
  · rw [q5]; exact b4
  · rw [q7]; exact b5
  · rw [q6]; exact b6
  · rw [q6]; exact b8
  · rw [q8]
    by_cases hi : i < L.length
    · rw [if_pos ⟨Nat.zero_le _, hi⟩]; rfl
    · rw [if_neg (by omega)]
      show m_oa w r i = _
      rw [b9, List.getElem?_eq_none (by omega)]; rfl
/-- taken out by its place -/
theorem AL_remove {w : mW} {ρ : Nat → Nat} {t0 : Nat} {a t : Nat} {L : List Nat} (h : AL w ρ t0 a t L) (ht : t ≠ 0) {i : Nat} (hi : i < L.length) : ∃ w', e_Jx4a65c_remove_915e3 w a (nI i) = some (L[i], w') ∧ (∃ r, ALr w' ρ t0 a t (L.eraseIdx i) r ∧ (L.eraseIdx i).length < m_ln w' r) ∧ ch (S2 t) w ρ w' ρ := by
  obtain ⟨r, b1, b2, b3, b4, b5, b6, b7, b8, b9, b10⟩ := h
  have hm : ρ r = t + 1 := by
    rcases b6 with q | q
    · omega
    · exact q.1
  have hL : L.length < 2 ^ 31 := by omega
  have har : a ≠ r := fun e => by rw [e] at b1; rw [b1.2.1] at hm; omega
  have hlen : (L.eraseIdx i).length = L.length - 1 := List.length_eraseIdx_of_lt hi
  unfold e_Jx4a65c_remove_915e3
  rw [m_g_t b1.1, b2, nb_ci hi hL, m_b_s, m_g_t b1.1, b3, m_o_s, m_g_t ⟨b4, nI_in (by omega) (by omega)⟩, nI_clamp (by omega), b9, List.getElem?_eq_getElem hi, m_o_s]
  unfold e_Jx4a65c_fastRemove_b59b0
  rw [m_g_t b1.1, m_l_s]
  have e1 : nI L.length - 1 = nI (L.length - 1) := by rw [nb_1, pk_sub (by omega)]
  have g1 : ch (S2 t) w ρ (m_sI w 2 0 a (m_fi w 2 0 a + 1)) ρ := ch_sI (by rw [b1.2.1]; exact Or.inl rfl)
  have f2 : m_fi (m_sI w 2 0 a (m_fi w 2 0 a + 1)) 2 2 a = nI L.length := by rw [fi_sI, u3_j (by decide), b2]
  have fo : m_oa (m_sI w 2 0 a (m_fi w 2 0 a + 1)) = m_oa w := rfl
  have fk : m_kd (m_sI w 2 0 a (m_fi w 2 0 a + 1)) = m_kd w := rfl
  have fr : m_fr (m_sI w 2 0 a (m_fi w 2 0 a + 1)) = m_fr w := rfl
  have fl : m_ln (m_sI w 2 0 a (m_fi w 2 0 a + 1)) = m_ln w := rfl
  have fx : m_nx (m_sI w 2 0 a (m_fi w 2 0 a + 1)) = m_nx w := rfl
  generalize m_sI w 2 0 a (m_fi w 2 0 a + 1) = w1 at *
  rw [f2, e1]
  have fin : ∀ w2 : mW, m_kd w2 = m_kd w → m_fr w2 = m_fr w → m_ln w2 = m_ln w → m_nx w2 = m_nx w → ch (S2 t) w ρ w2 ρ → (∀ j, j < L.length - 1 → m_oa w2 r j = (L.eraseIdx i)[j]?) → (∀ j, L.length ≤ j → m_oa w2 r j = none) →
      ∃ w', (m_b (e_Jx4a65c_fastRemove_b59b0_34 w2 a r (nI (L.length - 1))) fun (_ : Unit) w10 => some (L[i], w10)) = some (L[i], w') ∧ (∃ r, ALr w' ρ t0 a t (L.eraseIdx i) r ∧ (L.eraseIdx i).length < m_ln w' r) ∧ ch (S2 t) w ρ w' ρ := by
    intro w2 k1 k2 k3 k4 g d1 d2
    unfold e_Jx4a65c_fastRemove_b59b0_34
    rw [m_g_t (by rw [k1]; exact b1.1), m_l_s, m_g_t (by simp only [kd_sI, fi_sI, fr_sI, ln_sI, ia_sI, oa_sI, la_sI, nx_sI, kd_sR, fi_sR, fr_sR, ln_sR, ia_sR, oa_sR, la_sR, nx_sR, kd_sA, fi_sA, fr_sA, ln_sA, ia_sA, oa_sA, la_sA, nx_sA, kd_sO, fi_sO, fr_sO, ln_sO, ia_sO, oa_sO, la_sO, nx_sO, kd_sL, fi_sL, fr_sL, ln_sL, ia_sL, oa_sL, la_sL, nx_sL, kd_sF, fi_sF, fr_sF, ln_sF, ia_sF, oa_sF, la_sF, nx_sF, kd_sG, fi_sG, fr_sG, ln_sG, ia_sG, oa_sG, la_sG, nx_sG, kd_sX, fi_sX, fr_sX, ln_sX, ia_sX, oa_sX, la_sX, nx_sX, kd_nO, fi_nO, fr_nO, ln_nO, ia_nO, oa_nO, la_nO, nx_nO, kd_nA, fi_nA, fr_nA, ln_nA, ia_nA, oa_nA, la_nA, nx_nA]; rw [k1, k3]; exact ⟨b4, nI_in (by omega) (by omega)⟩), m_l_s, m_b_s, nI_clamp (by omega)]
    refine ⟨_, rfl, ⟨r, ⟨⟨?_, b1.2.1, ?_⟩, ?_, ?_, ?_, ?_, ?_, ?_, ?_, fun j => ?_, fun x hx => ?_⟩, ?_⟩, ch_trans g (ch_trans (ch_sI (by rw [b1.2.1]; exact Or.inl rfl)) (ch_sO (by rw [hm]; exact Or.inr rfl)))⟩
    · simp only [kd_sI, fi_sI, fr_sI, ln_sI, ia_sI, oa_sI, la_sI, nx_sI, kd_sR, fi_sR, fr_sR, ln_sR, ia_sR, oa_sR, la_sR, nx_sR, kd_sA, fi_sA, fr_sA, ln_sA, ia_sA, oa_sA, la_sA, nx_sA, kd_sO, fi_sO, fr_sO, ln_sO, ia_sO, oa_sO, la_sO, nx_sO, kd_sL, fi_sL, fr_sL, ln_sL, ia_sL, oa_sL, la_sL, nx_sL, kd_sF, fi_sF, fr_sF, ln_sF, ia_sF, oa_sF, la_sF, nx_sF, kd_sG, fi_sG, fr_sG, ln_sG, ia_sG, oa_sG, la_sG, nx_sG, kd_sX, fi_sX, fr_sX, ln_sX, ia_sX, oa_sX, la_sX, nx_sX, kd_nO, fi_nO, fr_nO, ln_nO, ia_nO, oa_nO, la_nO, nx_nO, kd_nA, fi_nA, fr_nA, ln_nA, ia_nA, oa_nA, la_nA, nx_nA]; rw [k1]; exact b1.1
    · simp only [kd_sI, fi_sI, fr_sI, ln_sI, ia_sI, oa_sI, la_sI, nx_sI, kd_sR, fi_sR, fr_sR, ln_sR, ia_sR, oa_sR, la_sR, nx_sR, kd_sA, fi_sA, fr_sA, ln_sA, ia_sA, oa_sA, la_sA, nx_sA, kd_sO, fi_sO, fr_sO, ln_sO, ia_sO, oa_sO, la_sO, nx_sO, kd_sL, fi_sL, fr_sL, ln_sL, ia_sL, oa_sL, la_sL, nx_sL, kd_sF, fi_sF, fr_sF, ln_sF, ia_sF, oa_sF, la_sF, nx_sF, kd_sG, fi_sG, fr_sG, ln_sG, ia_sG, oa_sG, la_sG, nx_sG, kd_sX, fi_sX, fr_sX, ln_sX, ia_sX, oa_sX, la_sX, nx_sX, kd_nO, fi_nO, fr_nO, ln_nO, ia_nO, oa_nO, la_nO, nx_nO, kd_nA, fi_nA, fr_nA, ln_nA, ia_nA, oa_nA, la_nA, nx_nA]; rw [k4]; exact b1.2.2
    · simp only [kd_sI, fi_sI, fr_sI, ln_sI, ia_sI, oa_sI, la_sI, nx_sI, kd_sR, fi_sR, fr_sR, ln_sR, ia_sR, oa_sR, la_sR, nx_sR, kd_sA, fi_sA, fr_sA, ln_sA, ia_sA, oa_sA, la_sA, nx_sA, kd_sO, fi_sO, fr_sO, ln_sO, ia_sO, oa_sO, la_sO, nx_sO, kd_sL, fi_sL, fr_sL, ln_sL, ia_sL, oa_sL, la_sL, nx_sL, kd_sF, fi_sF, fr_sF, ln_sF, ia_sF, oa_sF, la_sF, nx_sF, kd_sG, fi_sG, fr_sG, ln_sG, ia_sG, oa_sG, la_sG, nx_sG, kd_sX, fi_sX, fr_sX, ln_sX, ia_sX, oa_sX, la_sX, nx_sX, kd_nO, fi_nO, fr_nO, ln_nO, ia_nO, oa_nO, la_nO, nx_nO, kd_nA, fi_nA, fr_nA, ln_nA, ia_nA, oa_nA, la_nA, nx_nA, u3_s, hlen]
    · simp only [kd_sI, fi_sI, fr_sI, ln_sI, ia_sI, oa_sI, la_sI, nx_sI, kd_sR, fi_sR, fr_sR, ln_sR, ia_sR, oa_sR, la_sR, nx_sR, kd_sA, fi_sA, fr_sA, ln_sA, ia_sA, oa_sA, la_sA, nx_sA, kd_sO, fi_sO, fr_sO, ln_sO, ia_sO, oa_sO, la_sO, nx_sO, kd_sL, fi_sL, fr_sL, ln_sL, ia_sL, oa_sL, la_sL, nx_sL, kd_sF, fi_sF, fr_sF, ln_sF, ia_sF, oa_sF, la_sF, nx_sF, kd_sG, fi_sG, fr_sG, ln_sG, ia_sG, oa_sG, la_sG, nx_sG, kd_sX, fi_sX, fr_sX, ln_sX, ia_sX, oa_sX, la_sX, nx_sX, kd_nO, fi_nO, fr_nO, ln_nO, ia_nO, oa_nO, la_nO, nx_nO, kd_nA, fi_nA, fr_nA, ln_nA, ia_nA, oa_nA, la_nA, nx_nA]; rw [k2]; exact b3
    · simp only [kd_sI, fi_sI, fr_sI, ln_sI, ia_sI, oa_sI, la_sI, nx_sI, kd_sR, fi_sR, fr_sR, ln_sR, ia_sR, oa_sR, la_sR, nx_sR, kd_sA, fi_sA, fr_sA, ln_sA, ia_sA, oa_sA, la_sA, nx_sA, kd_sO, fi_sO, fr_sO, ln_sO, ia_sO, oa_sO, la_sO, nx_sO, kd_sL, fi_sL, fr_sL, ln_sL, ia_sL, oa_sL, la_sL, nx_sL, kd_sF, fi_sF, fr_sF, ln_sF, ia_sF, oa_sF, la_sF, nx_sF, kd_sG, fi_sG, fr_sG, ln_sG, ia_sG, oa_sG, la_sG, nx_sG, kd_sX, fi_sX, fr_sX, ln_sX, ia_sX, oa_sX, la_sX, nx_sX, kd_nO, fi_nO, fr_nO, ln_nO, ia_nO, oa_nO, la_nO, nx_nO, kd_nA, fi_nA, fr_nA, ln_nA, ia_nA, oa_nA, la_nA, nx_nA]; rw [k1]; exact b4
    · simp only [kd_sI, fi_sI, fr_sI, ln_sI, ia_sI, oa_sI, la_sI, nx_sI, kd_sR, fi_sR, fr_sR, ln_sR, ia_sR, oa_sR, la_sR, nx_sR, kd_sA, fi_sA, fr_sA, ln_sA, ia_sA, oa_sA, la_sA, nx_sA, kd_sO, fi_sO, fr_sO, ln_sO, ia_sO, oa_sO, la_sO, nx_sO, kd_sL, fi_sL, fr_sL, ln_sL, ia_sL, oa_sL, la_sL, nx_sL, kd_sF, fi_sF, fr_sF, ln_sF, ia_sF, oa_sF, la_sF, nx_sF, kd_sG, fi_sG, fr_sG, ln_sG, ia_sG, oa_sG, la_sG, nx_sG, kd_sX, fi_sX, fr_sX, ln_sX, ia_sX, oa_sX, la_sX, nx_sX, kd_nO, fi_nO, fr_nO, ln_nO, ia_nO, oa_nO, la_nO, nx_nO, kd_nA, fi_nA, fr_nA, ln_nA, ia_nA, oa_nA, la_nA, nx_nA]; rw [k4]; exact b5
    · simp only [kd_sI, fi_sI, fr_sI, ln_sI, ia_sI, oa_sI, la_sI, nx_sI, kd_sR, fi_sR, fr_sR, ln_sR, ia_sR, oa_sR, la_sR, nx_sR, kd_sA, fi_sA, fr_sA, ln_sA, ia_sA, oa_sA, la_sA, nx_sA, kd_sO, fi_sO, fr_sO, ln_sO, ia_sO, oa_sO, la_sO, nx_sO, kd_sL, fi_sL, fr_sL, ln_sL, ia_sL, oa_sL, la_sL, nx_sL, kd_sF, fi_sF, fr_sF, ln_sF, ia_sF, oa_sF, la_sF, nx_sF, kd_sG, fi_sG, fr_sG, ln_sG, ia_sG, oa_sG, la_sG, nx_sG, kd_sX, fi_sX, fr_sX, ln_sX, ia_sX, oa_sX, la_sX, nx_sX, kd_nO, fi_nO, fr_nO, ln_nO, ia_nO, oa_nO, la_nO, nx_nO, kd_nA, fi_nA, fr_nA, ln_nA, ia_nA, oa_nA, la_nA, nx_nA]; rw [k3]; exact b6
    · simp only [kd_sI, fi_sI, fr_sI, ln_sI, ia_sI, oa_sI, la_sI, nx_sI, kd_sR, fi_sR, fr_sR, ln_sR, ia_sR, oa_sR, la_sR, nx_sR, kd_sA, fi_sA, fr_sA, ln_sA, ia_sA, oa_sA, la_sA, nx_sA, kd_sO, fi_sO, fr_sO, ln_sO, ia_sO, oa_sO, la_sO, nx_sO, kd_sL, fi_sL, fr_sL, ln_sL, ia_sL, oa_sL, la_sL, nx_sL, kd_sF, fi_sF, fr_sF, ln_sF, ia_sF, oa_sF, la_sF, nx_sF, kd_sG, fi_sG, fr_sG, ln_sG, ia_sG, oa_sG, la_sG, nx_sG, kd_sX, fi_sX, fr_sX, ln_sX, ia_sX, oa_sX, la_sX, nx_sX, kd_nO, fi_nO, fr_nO, ln_nO, ia_nO, oa_nO, la_nO, nx_nO, kd_nA, fi_nA, fr_nA, ln_nA, ia_nA, oa_nA, la_nA, nx_nA]; rw [k3, hlen]; omega
    · simp only [kd_sI, fi_sI, fr_sI, ln_sI, ia_sI, oa_sI, la_sI, nx_sI, kd_sR, fi_sR, fr_sR, ln_sR, ia_sR, oa_sR, la_sR, nx_sR, kd_sA, fi_sA, fr_sA, ln_sA, ia_sA, oa_sA, la_sA, nx_sA, kd_sO, fi_sO, fr_sO, ln_sO, ia_sO, oa_sO, la_sO, nx_sO, kd_sL, fi_sL, fr_sL, ln_sL, ia_sL, oa_sL, la_sL, nx_sL, kd_sF, fi_sF, fr_sF, ln_sF, ia_sF, oa_sF, la_sF, nx_sF, kd_sG, fi_sG, fr_sG, ln_sG, ia_sG, oa_sG, la_sG, nx_sG, kd_sX, fi_sX, fr_sX, ln_sX, ia_sX, oa_sX, la_sX, nx_sX, kd_nO, fi_nO, fr_nO, ln_nO, ia_nO, oa_nO, la_nO, nx_nO, kd_nA, fi_nA, fr_nA, ln_nA, ia_nA, oa_nA, la_nA, nx_nA]; rw [k3]; exact b8
    · simp only [kd_sI, fi_sI, fr_sI, ln_sI, ia_sI, oa_sI, la_sI, nx_sI, kd_sR, fi_sR, fr_sR, ln_sR, ia_sR, oa_sR, la_sR, nx_sR, kd_sA, fi_sA, fr_sA, ln_sA, ia_sA, oa_sA, la_sA, nx_sA, kd_sO, fi_sO, fr_sO, ln_sO, ia_sO, oa_sO, la_sO, nx_sO, kd_sL, fi_sL, fr_sL, ln_sL, ia_sL, oa_sL, la_sL, nx_sL, kd_sF, fi_sF, fr_sF, ln_sF, ia_sF, oa_sF, la_sF, nx_sF, kd_sG, fi_sG, fr_sG, ln_sG, ia_sG, oa_sG, la_sG, nx_sG, kd_sX, fi_sX, fr_sX, ln_sX, ia_sX, oa_sX, la_sX, nx_sX, kd_nO, fi_nO, fr_nO, ln_nO, ia_nO, oa_nO, la_nO, nx_nO, kd_nA, fi_nA, fr_nA, ln_nA, ia_nA, oa_nA, la_nA, nx_nA, va_up_s]
      by_cases e : j = L.length - 1
      · rw [e, va_up_s, List.getElem?_eq_none (by omega)]
      · rw [va_up_n e]
        by_cases e2 : j < L.length - 1
        · exact d1 j e2
        · rw [d2 j (by omega), List.getElem?_eq_none (by omega)]
    · simp only [kd_sI, fi_sI, fr_sI, ln_sI, ia_sI, oa_sI, la_sI, nx_sI, kd_sR, fi_sR, fr_sR, ln_sR, ia_sR, oa_sR, la_sR, nx_sR, kd_sA, fi_sA, fr_sA, ln_sA, ia_sA, oa_sA, la_sA, nx_sA, kd_sO, fi_sO, fr_sO, ln_sO, ia_sO, oa_sO, la_sO, nx_sO, kd_sL, fi_sL, fr_sL, ln_sL, ia_sL, oa_sL, la_sL, nx_sL, kd_sF, fi_sF, fr_sF, ln_sF, ia_sF, oa_sF, la_sF, nx_sF, kd_sG, fi_sG, fr_sG, ln_sG, ia_sG, oa_sG, la_sG, nx_sG, kd_sX, fi_sX, fr_sX, ln_sX, ia_sX, oa_sX, la_sX, nx_sX, kd_nO, fi_nO, fr_nO, ln_nO, ia_nO, oa_nO, la_nO, nx_nO, kd_nA, fi_nA, fr_nA, ln_nA, ia_nA, oa_nA, la_nA, nx_nA]
      rw [k1, k4]
      exact b10 x (List.mem_of_mem_eraseIdx hx)
    · simp only [kd_sI, fi_sI, fr_sI, ln_sI, ia_sI, oa_sI, la_sI, nx_sI, kd_sR, fi_sR, fr_sR, ln_sR, ia_sR, oa_sR, la_sR, nx_sR, kd_sA, fi_sA, fr_sA, ln_sA, ia_sA, oa_sA, la_sA, nx_sA, kd_sO, fi_sO, fr_sO, ln_sO, ia_sO, oa_sO, la_sO, nx_sO, kd_sL, fi_sL, fr_sL, ln_sL, ia_sL, oa_sL, la_sL, nx_sL, kd_sF, fi_sF, fr_sF, ln_sF, ia_sF, oa_sF, la_sF, nx_sF, kd_sG, fi_sG, fr_sG, ln_sG, ia_sG, oa_sG, la_sG, nx_sG, kd_sX, fi_sX, fr_sX, ln_sX, ia_sX, oa_sX, la_sX, nx_sX, kd_nO, fi_nO, fr_nO, ln_nO, ia_nO, oa_nO, la_nO, nx_nO, kd_nA, fi_nA, fr_nA, ln_nA, ia_nA, oa_nA, la_nA, nx_nA]; rw [k3, hlen]; omega
  by_cases hc : i = L.length - 1
  · rw [if_pos (by rw [hc]; exact nI_le (Nat.le_refl _) (by omega))]
    refine fin _ fk fr fl fx g1 (fun j hj => ?_) (fun j hj => ?_)
    · rw [fo, b9, List.getElem?_eraseIdx_of_lt (by omega)]
    · rw [fo, b9, List.getElem?_eq_none (by omega)]
  · have e2 : nI (L.length - 1) - nI i = nI (L.length - 1 - i) := pk_sub (by omega)
    have k4 : m_kd w1 r = 23 := by rw [fk]; exact b4
    rw [if_neg (nI_ge (by omega) (by omega)), nI_1, e2, nI_clamp (by omega), nI_clamp (by omega), nI_clamp (by omega), m_g_t ⟨k4, k4, nI_pos (by omega), nI_pos (by omega), nI_pos (by omega), by rw [fl]; omega, by rw [fl]; omega, by rw [fl]; omega⟩, m_g_t, m_l_s]
    · refine fin _ fk fr fl fx (ch_trans g1 (ch_sG (by rw [hm]; exact Or.inr rfl))) (fun j hj => ?_) (fun j hj => ?_)
      · simp only [kd_sI, fi_sI, fr_sI, ln_sI, ia_sI, oa_sI, la_sI, nx_sI, kd_sR, fi_sR, fr_sR, ln_sR, ia_sR, oa_sR, la_sR, nx_sR, kd_sA, fi_sA, fr_sA, ln_sA, ia_sA, oa_sA, la_sA, nx_sA, kd_sO, fi_sO, fr_sO, ln_sO, ia_sO, oa_sO, la_sO, nx_sO, kd_sL, fi_sL, fr_sL, ln_sL, ia_sL, oa_sL, la_sL, nx_sL, kd_sF, fi_sF, fr_sF, ln_sF, ia_sF, oa_sF, la_sF, nx_sF, kd_sG, fi_sG, fr_sG, ln_sG, ia_sG, oa_sG, la_sG, nx_sG, kd_sX, fi_sX, fr_sX, ln_sX, ia_sX, oa_sX, la_sX, nx_sX, kd_nO, fi_nO, fr_nO, ln_nO, ia_nO, oa_nO, la_nO, nx_nO, kd_nA, fi_nA, fr_nA, ln_nA, ia_nA, oa_nA, la_nA, nx_nA, va_up_s]
        rw [fo]
        by_cases e3 : j < i
        · rw [pk_cpy_out (Or.inl e3), b9, List.getElem?_eraseIdx_of_lt e3]
        · rw [pk_cpy_in (by omega) (by omega), b9, List.getElem?_eraseIdx_of_ge (by omega)]
          congr 1
          omega
      · simp only [kd_sI, fi_sI, fr_sI, ln_sI, ia_sI, oa_sI, la_sI, nx_sI, kd_sR, fi_sR, fr_sR, ln_sR, ia_sR, oa_sR, la_sR, nx_sR, kd_sA, fi_sA, fr_sA, ln_sA, ia_sA, oa_sA, la_sA, nx_sA, kd_sO, fi_sO, fr_sO, ln_sO, ia_sO, oa_sO, la_sO, nx_sO, kd_sL, fi_sL, fr_sL, ln_sL, ia_sL, oa_sL, la_sL, nx_sL, kd_sF, fi_sF, fr_sF, ln_sF, ia_sF, oa_sF, la_sF, nx_sF, kd_sG, fi_sG, fr_sG, ln_sG, ia_sG, oa_sG, la_sG, nx_sG, kd_sX, fi_sX, fr_sX, ln_sX, ia_sX, oa_sX, la_sX, nx_sX, kd_nO, fi_nO, fr_nO, ln_nO, ia_nO, oa_nO, la_nO, nx_nO, kd_nA, fi_nA, fr_nA, ln_nA, ia_nA, oa_nA, la_nA, nx_nA, va_up_s]
        rw [fo, pk_cpy_out (Or.inr (by omega)), b9, List.getElem?_eq_none (by omega)]
    · intro k hk y hy
      rw [fo, b9] at hy
      rw [fk]
      exact (b10 y (List.mem_of_getElem? hy)).2
/-- put in at a place, where there is room -/
theorem AL_insert {w : mW} {ρ : Nat → Nat} {t0 : Nat × Nat × Nat × Nat} {a t : Nat} {L : List Nat} {r : Nat} (h : ALr w ρ t0.1 a t L r) (hr : L.length < m_ln w r) (ht : t ≠ 0) {i x : Nat} (hi : i ≤ L.length) (hx : x < m_nx w ∧ 1 ≤ m_kd w x ∧ m_kd w x ≤ 11) : ∃ w', e_Jx4a65c_add_7a177 t0 w a (nI i) x = some ((), w') ∧ AL w' ρ t0.1 a t (L.insertIdx i x) ∧ ch (S2 t) w ρ w' ρ := by
  obtain ⟨b1, b2, b3, b4, b5, b6, b7, b8, b9, b10⟩ := h
  have hm : ρ r = t + 1 := by
    rcases b6 with q | q
    · omega
    · exact q.1
  have har : a ≠ r := fun e => by rw [e] at b1; rw [b1.2.1] at hm; omega
  have hlen : (L.insertIdx i x).length = L.length + 1 := List.length_insertIdx_of_le_length hi x
  unfold e_Jx4a65c_add_7a177 e_Jx4a65c_rangeCheckForAdd_d00df
  rw [m_g_t b1.1, m_g_t b1.1, b2, if_neg (nI_nlt hi (by omega)), if_pos (nb_ge0 (by omega)), m_b_s, m_g_t b1.1, m_l_s]
  have g1 : ch (S2 t) w ρ (m_sI w 2 0 a (m_fi w 2 0 a + 1)) ρ := ch_sI (by rw [b1.2.1]; exact Or.inl rfl)
  have B : ALr (m_sI w 2 0 a (m_fi w 2 0 a + 1)) ρ t0.1 a t L r := ⟨b1, by rw [fi_sI, u3_j (by decide)]; exact b2, b3, b4, b5, b6, b7, b8, b9, b10⟩
  have hx' : x < m_nx (m_sI w 2 0 a (m_fi w 2 0 a + 1)) ∧ 1 ≤ m_kd (m_sI w 2 0 a (m_fi w 2 0 a + 1)) x ∧ m_kd (m_sI w 2 0 a (m_fi w 2 0 a + 1)) x ≤ 11 := hx
  have hr' : L.length < m_ln (m_sI w 2 0 a (m_fi w 2 0 a + 1)) r := hr
  generalize m_sI w 2 0 a (m_fi w 2 0 a + 1) = w1 at *
  clear b1 b2 b3 b4 b5 b6 b7 b8 b9 b10 hx hr
  obtain ⟨b1, b2, b3, b4, b5, b6, b7, b8, b9, b10⟩ := B
  rw [b3, m_o_s, m_g_t (by omega), b2, if_neg (fun e => by have := (nI_eq (by omega) (by omega)).mp e; omega)]
  unfold e_Jx4a65c_add_7a177_38
  have e2 : nI L.length - nI i = nI (L.length - i) := pk_sub hi
  rw [nI_1, e2, nI_clamp (by omega), nI_clamp (by omega), nI_clamp (by omega), m_g_t ⟨b4, b4, nI_pos (by omega), nI_pos (by omega), nI_pos (by omega), by omega, by omega, by omega⟩, m_g_t, m_l_s]
  · rw [m_g_t (by exact ⟨b4, fun q => by
      rcases q with q | q
      · exact nI_pos (by omega) q
      · exact absurd q (Nat.not_le.mpr (show i < m_ln w1 r by omega))⟩), m_g_t (by exact hx'.2), m_l_s, m_g_t (by exact b1.1), m_l_s, nI_1]
    refine ⟨_, rfl, ⟨r, ⟨?_, b1.2.1, ?_⟩, ?_, ?_, ?_, ?_, ?_, ?_, ?_, fun j => ?_, fun y hy => ?_⟩, ch_trans (ch_trans g1 (ch_sG (by rw [hm]; exact Or.inr rfl))) (ch_trans (ch_sO (by rw [hm]; exact Or.inr rfl)) (ch_sI (by rw [b1.2.1]; exact Or.inl rfl)))⟩
    · simp only [kd_sI, fi_sI, fr_sI, ln_sI, ia_sI, oa_sI, la_sI, nx_sI, kd_sR, fi_sR, fr_sR, ln_sR, ia_sR, oa_sR, la_sR, nx_sR, kd_sA, fi_sA, fr_sA, ln_sA, ia_sA, oa_sA, la_sA, nx_sA, kd_sO, fi_sO, fr_sO, ln_sO, ia_sO, oa_sO, la_sO, nx_sO, kd_sL, fi_sL, fr_sL, ln_sL, ia_sL, oa_sL, la_sL, nx_sL, kd_sF, fi_sF, fr_sF, ln_sF, ia_sF, oa_sF, la_sF, nx_sF, kd_sG, fi_sG, fr_sG, ln_sG, ia_sG, oa_sG, la_sG, nx_sG, kd_sX, fi_sX, fr_sX, ln_sX, ia_sX, oa_sX, la_sX, nx_sX, kd_nO, fi_nO, fr_nO, ln_nO, ia_nO, oa_nO, la_nO, nx_nO, kd_nA, fi_nA, fr_nA, ln_nA, ia_nA, oa_nA, la_nA, nx_nA]; exact b1.1
    · simp only [kd_sI, fi_sI, fr_sI, ln_sI, ia_sI, oa_sI, la_sI, nx_sI, kd_sR, fi_sR, fr_sR, ln_sR, ia_sR, oa_sR, la_sR, nx_sR, kd_sA, fi_sA, fr_sA, ln_sA, ia_sA, oa_sA, la_sA, nx_sA, kd_sO, fi_sO, fr_sO, ln_sO, ia_sO, oa_sO, la_sO, nx_sO, kd_sL, fi_sL, fr_sL, ln_sL, ia_sL, oa_sL, la_sL, nx_sL, kd_sF, fi_sF, fr_sF, ln_sF, ia_sF, oa_sF, la_sF, nx_sF, kd_sG, fi_sG, fr_sG, ln_sG, ia_sG, oa_sG, la_sG, nx_sG, kd_sX, fi_sX, fr_sX, ln_sX, ia_sX, oa_sX, la_sX, nx_sX, kd_nO, fi_nO, fr_nO, ln_nO, ia_nO, oa_nO, la_nO, nx_nO, kd_nA, fi_nA, fr_nA, ln_nA, ia_nA, oa_nA, la_nA, nx_nA]; exact b1.2.2
    · simp only [kd_sI, fi_sI, fr_sI, ln_sI, ia_sI, oa_sI, la_sI, nx_sI, kd_sR, fi_sR, fr_sR, ln_sR, ia_sR, oa_sR, la_sR, nx_sR, kd_sA, fi_sA, fr_sA, ln_sA, ia_sA, oa_sA, la_sA, nx_sA, kd_sO, fi_sO, fr_sO, ln_sO, ia_sO, oa_sO, la_sO, nx_sO, kd_sL, fi_sL, fr_sL, ln_sL, ia_sL, oa_sL, la_sL, nx_sL, kd_sF, fi_sF, fr_sF, ln_sF, ia_sF, oa_sF, la_sF, nx_sF, kd_sG, fi_sG, fr_sG, ln_sG, ia_sG, oa_sG, la_sG, nx_sG, kd_sX, fi_sX, fr_sX, ln_sX, ia_sX, oa_sX, la_sX, nx_sX, kd_nO, fi_nO, fr_nO, ln_nO, ia_nO, oa_nO, la_nO, nx_nO, kd_nA, fi_nA, fr_nA, ln_nA, ia_nA, oa_nA, la_nA, nx_nA, u3_s, hlen]
    · simp only [kd_sI, fi_sI, fr_sI, ln_sI, ia_sI, oa_sI, la_sI, nx_sI, kd_sR, fi_sR, fr_sR, ln_sR, ia_sR, oa_sR, la_sR, nx_sR, kd_sA, fi_sA, fr_sA, ln_sA, ia_sA, oa_sA, la_sA, nx_sA, kd_sO, fi_sO, fr_sO, ln_sO, ia_sO, oa_sO, la_sO, nx_sO, kd_sL, fi_sL, fr_sL, ln_sL, ia_sL, oa_sL, la_sL, nx_sL, kd_sF, fi_sF, fr_sF, ln_sF, ia_sF, oa_sF, la_sF, nx_sF, kd_sG, fi_sG, fr_sG, ln_sG, ia_sG, oa_sG, la_sG, nx_sG, kd_sX, fi_sX, fr_sX, ln_sX, ia_sX, oa_sX, la_sX, nx_sX, kd_nO, fi_nO, fr_nO, ln_nO, ia_nO, oa_nO, la_nO, nx_nO, kd_nA, fi_nA, fr_nA, ln_nA, ia_nA, oa_nA, la_nA, nx_nA]; exact b3
    · simp only [kd_sI, fi_sI, fr_sI, ln_sI, ia_sI, oa_sI, la_sI, nx_sI, kd_sR, fi_sR, fr_sR, ln_sR, ia_sR, oa_sR, la_sR, nx_sR, kd_sA, fi_sA, fr_sA, ln_sA, ia_sA, oa_sA, la_sA, nx_sA, kd_sO, fi_sO, fr_sO, ln_sO, ia_sO, oa_sO, la_sO, nx_sO, kd_sL, fi_sL, fr_sL, ln_sL, ia_sL, oa_sL, la_sL, nx_sL, kd_sF, fi_sF, fr_sF, ln_sF, ia_sF, oa_sF, la_sF, nx_sF, kd_sG, fi_sG, fr_sG, ln_sG, ia_sG, oa_sG, la_sG, nx_sG, kd_sX, fi_sX, fr_sX, ln_sX, ia_sX, oa_sX, la_sX, nx_sX, kd_nO, fi_nO, fr_nO, ln_nO, ia_nO, oa_nO, la_nO, nx_nO, kd_nA, fi_nA, fr_nA, ln_nA, ia_nA, oa_nA, la_nA, nx_nA]; exact b4
    · simp only [kd_sI, fi_sI, fr_sI, ln_sI, ia_sI, oa_sI, la_sI, nx_sI, kd_sR, fi_sR, fr_sR, ln_sR, ia_sR, oa_sR, la_sR, nx_sR, kd_sA, fi_sA, fr_sA, ln_sA, ia_sA, oa_sA, la_sA, nx_sA, kd_sO, fi_sO, fr_sO, ln_sO, ia_sO, oa_sO, la_sO, nx_sO, kd_sL, fi_sL, fr_sL, ln_sL, ia_sL, oa_sL, la_sL, nx_sL, kd_sF, fi_sF, fr_sF, ln_sF, ia_sF, oa_sF, la_sF, nx_sF, kd_sG, fi_sG, fr_sG, ln_sG, ia_sG, oa_sG, la_sG, nx_sG, kd_sX, fi_sX, fr_sX, ln_sX, ia_sX, oa_sX, la_sX, nx_sX, kd_nO, fi_nO, fr_nO, ln_nO, ia_nO, oa_nO, la_nO, nx_nO, kd_nA, fi_nA, fr_nA, ln_nA, ia_nA, oa_nA, la_nA, nx_nA]; exact b5
    · simp only [kd_sI, fi_sI, fr_sI, ln_sI, ia_sI, oa_sI, la_sI, nx_sI, kd_sR, fi_sR, fr_sR, ln_sR, ia_sR, oa_sR, la_sR, nx_sR, kd_sA, fi_sA, fr_sA, ln_sA, ia_sA, oa_sA, la_sA, nx_sA, kd_sO, fi_sO, fr_sO, ln_sO, ia_sO, oa_sO, la_sO, nx_sO, kd_sL, fi_sL, fr_sL, ln_sL, ia_sL, oa_sL, la_sL, nx_sL, kd_sF, fi_sF, fr_sF, ln_sF, ia_sF, oa_sF, la_sF, nx_sF, kd_sG, fi_sG, fr_sG, ln_sG, ia_sG, oa_sG, la_sG, nx_sG, kd_sX, fi_sX, fr_sX, ln_sX, ia_sX, oa_sX, la_sX, nx_sX, kd_nO, fi_nO, fr_nO, ln_nO, ia_nO, oa_nO, la_nO, nx_nO, kd_nA, fi_nA, fr_nA, ln_nA, ia_nA, oa_nA, la_nA, nx_nA]; exact b6
    · simp only [kd_sI, fi_sI, fr_sI, ln_sI, ia_sI, oa_sI, la_sI, nx_sI, kd_sR, fi_sR, fr_sR, ln_sR, ia_sR, oa_sR, la_sR, nx_sR, kd_sA, fi_sA, fr_sA, ln_sA, ia_sA, oa_sA, la_sA, nx_sA, kd_sO, fi_sO, fr_sO, ln_sO, ia_sO, oa_sO, la_sO, nx_sO, kd_sL, fi_sL, fr_sL, ln_sL, ia_sL, oa_sL, la_sL, nx_sL, kd_sF, fi_sF, fr_sF, ln_sF, ia_sF, oa_sF, la_sF, nx_sF, kd_sG, fi_sG, fr_sG, ln_sG, ia_sG, oa_sG, la_sG, nx_sG, kd_sX, fi_sX, fr_sX, ln_sX, ia_sX, oa_sX, la_sX, nx_sX, kd_nO, fi_nO, fr_nO, ln_nO, ia_nO, oa_nO, la_nO, nx_nO, kd_nA, fi_nA, fr_nA, ln_nA, ia_nA, oa_nA, la_nA, nx_nA]; rw [hlen]; omega
    · simp only [kd_sI, fi_sI, fr_sI, ln_sI, ia_sI, oa_sI, la_sI, nx_sI, kd_sR, fi_sR, fr_sR, ln_sR, ia_sR, oa_sR, la_sR, nx_sR, kd_sA, fi_sA, fr_sA, ln_sA, ia_sA, oa_sA, la_sA, nx_sA, kd_sO, fi_sO, fr_sO, ln_sO, ia_sO, oa_sO, la_sO, nx_sO, kd_sL, fi_sL, fr_sL, ln_sL, ia_sL, oa_sL, la_sL, nx_sL, kd_sF, fi_sF, fr_sF, ln_sF, ia_sF, oa_sF, la_sF, nx_sF, kd_sG, fi_sG, fr_sG, ln_sG, ia_sG, oa_sG, la_sG, nx_sG, kd_sX, fi_sX, fr_sX, ln_sX, ia_sX, oa_sX, la_sX, nx_sX, kd_nO, fi_nO, fr_nO, ln_nO, ia_nO, oa_nO, la_nO, nx_nO, kd_nA, fi_nA, fr_nA, ln_nA, ia_nA, oa_nA, la_nA, nx_nA]; exact b8
    · simp only [kd_sI, fi_sI, fr_sI, ln_sI, ia_sI, oa_sI, la_sI, nx_sI, kd_sR, fi_sR, fr_sR, ln_sR, ia_sR, oa_sR, la_sR, nx_sR, kd_sA, fi_sA, fr_sA, ln_sA, ia_sA, oa_sA, la_sA, nx_sA, kd_sO, fi_sO, fr_sO, ln_sO, ia_sO, oa_sO, la_sO, nx_sO, kd_sL, fi_sL, fr_sL, ln_sL, ia_sL, oa_sL, la_sL, nx_sL, kd_sF, fi_sF, fr_sF, ln_sF, ia_sF, oa_sF, la_sF, nx_sF, kd_sG, fi_sG, fr_sG, ln_sG, ia_sG, oa_sG, la_sG, nx_sG, kd_sX, fi_sX, fr_sX, ln_sX, ia_sX, oa_sX, la_sX, nx_sX, kd_nO, fi_nO, fr_nO, ln_nO, ia_nO, oa_nO, la_nO, nx_nO, kd_nA, fi_nA, fr_nA, ln_nA, ia_nA, oa_nA, la_nA, nx_nA, va_up_s]
      rcases Nat.lt_trichotomy j i with e | e | e
      · rw [va_up_n (by omega), pk_cpy_out (Or.inl (by omega)), b9, List.getElem?_insertIdx_of_lt e]
      · rw [e, va_up_s, List.getElem?_insertIdx_self, if_pos hi]
      · rw [va_up_n (by omega), List.getElem?_insertIdx_of_gt e]
        by_cases e3 : j < L.length + 1
        · rw [pk_cpy_in (by omega) (by omega), b9]
          congr 1
          omega
        · rw [pk_cpy_out (Or.inr (by omega)), b9, List.getElem?_eq_none (by omega), List.getElem?_eq_none (by omega)]
    · simp only [kd_sI, fi_sI, fr_sI, ln_sI, ia_sI, oa_sI, la_sI, nx_sI, kd_sR, fi_sR, fr_sR, ln_sR, ia_sR, oa_sR, la_sR, nx_sR, kd_sA, fi_sA, fr_sA, ln_sA, ia_sA, oa_sA, la_sA, nx_sA, kd_sO, fi_sO, fr_sO, ln_sO, ia_sO, oa_sO, la_sO, nx_sO, kd_sL, fi_sL, fr_sL, ln_sL, ia_sL, oa_sL, la_sL, nx_sL, kd_sF, fi_sF, fr_sF, ln_sF, ia_sF, oa_sF, la_sF, nx_sF, kd_sG, fi_sG, fr_sG, ln_sG, ia_sG, oa_sG, la_sG, nx_sG, kd_sX, fi_sX, fr_sX, ln_sX, ia_sX, oa_sX, la_sX, nx_sX, kd_nO, fi_nO, fr_nO, ln_nO, ia_nO, oa_nO, la_nO, nx_nO, kd_nA, fi_nA, fr_nA, ln_nA, ia_nA, oa_nA, la_nA, nx_nA]
      rcases List.mem_insertIdx hi |>.mp hy with q | q
      · rw [q]; exact hx'
      · exact b10 y q
  · intro k hk y hy
    rw [b9] at hy
    exact (b10 y (List.mem_of_getElem? hy)).2
