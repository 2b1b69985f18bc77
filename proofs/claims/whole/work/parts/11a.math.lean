/-! the law's world: the notebook's cells, the reference's cells, the cell the wrappers write to -/
def LZ (Z : xB) (ρ : Nat → Nat) (t0 h o : Nat) (σ : qS) (u : xS) : Prop :=
  x_ok Z ∧ (Z.2.1 < m_nx Z.1 ∧ ρ Z.2.1 = 3) ∧ (∀ a j, Z.2.2.2 a = some j → a < m_nx Z.1 ∧ ρ a = 3) ∧ (tg Z.1 ρ o 25 2 ∧ m_ln Z.1 o = 1) ∧ JI (x_ov Z u) ρ t0 h σ u
theorem ch_ov {Z : xB} {ρ : Nat → Nat} {u u' : xS} (h1 : ρ Z.2.1 = 3) (h2 : ∀ a j, Z.2.2.2 a = some j → ρ a = 3) : ch (fun q => q = 3) (x_ov Z u) ρ (x_ov Z u') ρ := by
  refine ⟨Nat.le_refl _, fun a _ => ⟨rfl, rfl, rfl, fun hn => ?_⟩⟩
  have e1 : a ≠ Z.2.1 := fun e => hn (e ▸ h1)
  have e2 : Z.2.2.2 a = none := by
    cases hq : Z.2.2.2 a with
    | none => rfl
    | some j => exact absurd (h2 a j hq) hn
  refine ⟨fun c j => ?_, fun _ _ => rfl, ?_, rfl, rfl⟩
  · have : ¬ (c = 10 ∧ a = Z.2.1) := fun q => e1 q.2
    show (if c = 10 ∧ a = Z.2.1 then u'.1 j else m_fi Z.1 c j a) = (if c = 10 ∧ a = Z.2.1 then u.1 j else m_fi Z.1 c j a)
    rw [if_neg this, if_neg this]
  · show (match Z.2.2.2 a with
      | some j => u'.2 j
      | none => m_ia Z.1 a) = (match Z.2.2.2 a with
      | some j => u.2 j
      | none => m_ia Z.1 a)
    rw [e2]
theorem JI_ch {S : Nat → Prop} {w w' : mW} {ρ ρ' : Nat → Nat} {t0 h : Nat} {σ : qS} {u : xS} (J : JI w ρ t0 h σ u) (g : ch S w ρ w' ρ') (hs : ∀ q, S q → 2 ≤ q ∧ q < 10) : JI w' ρ' t0 h σ u := by
  obtain ⟨J1, J2, ca, ra, ia, ad, J3⟩ := J
  exact ⟨J1, J2, ca, ra, ia, ad, HC_ch J3 J1 g hs⟩
theorem LZ_cls {Z : xB} {ρ ρ' : Nat → Nat} {t0 h o : Nat} {σ σ' : qS} {u u' : xS} {w : mW} {S : Nat → Prop} (H : LZ Z ρ t0 h o σ u) (hS : ¬ S 3) (g : ch S (x_ov Z u) ρ w ρ') (J : JI w ρ' t0 h σ' u') : ∃ Z1 : xB, Z1.2 = Z.2 ∧ x_ov Z1 u = w ∧ LZ Z1 ρ' t0 h o σ' u' := by
  obtain ⟨⟨k1, k2, k3⟩, ⟨a1, a2⟩, a3, ⟨a4, a5⟩, -⟩ := H
  have r1 := g.2 Z.2.1 a1
  have r2 := r1.2.2.2 (by rw [a2]; exact hS)
  have r3 : ∀ a j, Z.2.2.2 a = some j → a < m_nx Z.1 ∧ ρ' a = 3 ∧ m_kd w a = m_kd Z.1 a ∧ m_ln w a = m_ln Z.1 a ∧ sm (x_ov Z u) w a := fun a j e => by
    obtain ⟨b1, b2⟩ := a3 a j e
    obtain ⟨b3, b4, b5, b6⟩ := g.2 a b1
    exact ⟨b1, b3.trans b2, b4, b5, b6 (by rw [b2]; exact hS)⟩
  have e : x_ov (w, Z.2) u = w := by
    have e1 : (fun c j a => if c = 10 ∧ a = Z.2.1 then u.1 j else m_fi w c j a) = m_fi w := by
      funext c j a
      by_cases hq : c = 10 ∧ a = Z.2.1
      · rw [if_pos hq, hq.1, hq.2, r2.1 10 j]
        simp [m_fi, x_ov]
      · rw [if_neg hq]
    have e2 : (fun a => (match Z.2.2.2 a with
      | some j => u.2 j
      | none => m_ia w a)) = m_ia w := by
      funext a
      cases hq : Z.2.2.2 a with
      | none => rfl
      | some j =>
        have := (r3 a j hq).2.2.2.2.2.2.1
        rw [this]
        simp [m_ia, x_ov, hq]
    exact Prod.ext rfl (Prod.ext e1 (Prod.ext rfl (Prod.ext rfl (Prod.ext e2 rfl))))
  have n1 : m_nx Z.1 ≤ m_nx w := g.1
  have hok : x_ok (w, Z.2) := ⟨r1.2.1.trans k1, fun j hj => by
    obtain ⟨c1, c2, c3, c4⟩ := k2 j hj
    obtain ⟨d1, d2, d3, d4, d5⟩ := r3 _ _ c4
    exact ⟨(r2.2.1 10 j).trans c1, d3.trans c2, d4.trans c3, c4⟩, k3⟩
  have g1 : ρ' Z.2.1 = 3 := r1.1.trans a2
  have g2 : ∀ a j, Z.2.2.2 a = some j → ρ' a = 3 := fun a j e => (r3 a j e).2.1
  refine ⟨(w, Z.2), rfl, e, hok, ⟨Nat.lt_of_lt_of_le a1 n1, g1⟩, fun a j e => ⟨Nat.lt_of_lt_of_le (a3 a j e).1 n1, g2 a j e⟩, ?_, ?_⟩
  · have t1 : tg (x_ov Z u) ρ o 25 2 := a4
    exact ⟨tg_ch t1 g, (tg_ln t1 g).trans a5⟩
  · have c0 : ch (fun q => q = 3) (x_ov (w, Z.2) u) ρ' (x_ov (w, Z.2) u') ρ' := ch_ov g1 g2
    rw [e] at c0
    exact JI_ch J c0 (fun q hq => by omega)
def LG (Z : xB) (t0 h o : Nat) (u : xS) (n : Nat) (cv : Int32 → Int64) (e : Option (Int32 × mW)) (f : Option (Int32 × xS)) : Prop :=
  ∃ w3 b u', e = some (u'.1 31, w3) ∧ f = some (b, u') ∧ (u'.1 31 = 0 → m_la w3 o (0 : Int32).toNatClampNeg = cv b) ∧ ∀ k, m_nx w3 ≤ k → ∃ Z1 ρ' σ', Z1.2 = Z.2 ∧ x_ov Z1 u = m_sX w3 k ∧ LZ Z1 ρ' t0 h o σ' u' ∧ n ≤ q_n σ'
def LN (Z : xB) (t0 h o : Nat) (u : xS) (n : Nat) (e : Option (Int32 × mW)) (f : Option (Int32 × xS)) : Prop :=
  ∃ w3 b u', e = some (b, w3) ∧ f = some (b, u') ∧ ∃ Z1 ρ' σ', Z1.2 = Z.2 ∧ x_ov Z1 u = w3 ∧ LZ Z1 ρ' t0 h o σ' u' ∧ n ≤ q_n σ'
def cvI (b : Int32) : Int64 := b.toInt64
def cvB (b : Int32) : Int64 := if b = (0 : Int32) then 0 else 1
section LAWW
variable {Z : xB} {ρ : Nat → Nat} {t0 : Nat × Nat × Nat × Nat} {h o : Nat} {σ : qS} {u : xS}
theorem LZ_kd (H : LZ Z ρ t0.1 h o σ u) : m_kd (x_ov Z u) h = 10 := by
  obtain ⟨-, -, -, -, -, -, ca, ra, ia, ad, J⟩ := H
  exact J.1.1.1
theorem LG_w {cs : List (String × Int32)} {e : Option ((Int32 ⊕ String) × mW)} {f : Option (Int32 × xS)} {n : Nat} {cv : Int32 → Int64} {E : Option (Int32 × mW)} (H : LZ Z ρ t0.1 h o σ u) (J : JG (x_ov Z u) ρ t0.1 h n cs e f)
    (hx : ∀ X w3 t, e = some (.inr X, w3) → (X, t) ∈ cs → E = some (t, w3)) (h0 : ∀ q ∈ cs, q.2 ≠ 0) (hr : ∀ r w3, e = some (.inl r, w3) → m_kd w3 o = 25 → m_ln w3 o = 1 → E = some (0, m_sL w3 o ((0 : Int32).toNatClampNeg) (cv r))) : LG Z t0.1 h o u n cv E f := by
  obtain ⟨oo, w', ρ', b, u', σ', he, hf, ⟨q1, q2⟩, J', hn, g⟩ := J
  have t1 : tg (x_ov Z u) ρ o 25 2 := H.2.2.2.1.1
  have t2 := tg_ch t1 g
  have t3 : m_ln w' o = 1 := (tg_ln t1 g).trans H.2.2.2.1.2
  match oo, he, q1, q2 with
  | .inl r, he, q1, q2 =>
    obtain ⟨c1, c2⟩ := q1 r rfl
    refine ⟨_, b, u', by rw [c1]; exact hr r w' he t2.1 t3, hf, fun _ => ?_, fun k hk => ?_⟩
    · rw [← c2]
      simp [m_la, m_sL, va_up, vp_updL]
    · have g2 : ch (fun q => q = 2) w' ρ' (m_sX (m_sL w' o ((0 : Int32).toNatClampNeg) (cv r)) k) ρ' := ch_trans (ch_sL t2.2.1) (ch_sX hk)
      obtain ⟨Z1, z1, z2, z3⟩ := LZ_cls (S := fun q => SC q ∨ q = 2) H (fun q => q.elim (fun q => q.2.2 rfl) (fun q => by omega)) (ch_trans (ch_mono g (fun _ h => Or.inl h)) (ch_mono g2 (fun _ h => Or.inr h))) (JI_ch J' g2 (fun q hq => by omega))
      exact ⟨Z1, ρ', σ', z1, z2, z3, hn⟩
  | .inr X, he, q1, q2 =>
    refine ⟨w', b, u', hx X w' _ he (q2 X rfl), hf, fun c => ?_, fun k hk => ?_⟩
    · exact absurd c (h0 _ (q2 X rfl))
    · have g2 : ch (fun q => q = 2) w' ρ' (m_sX w' k) ρ' := ch_sX hk
      obtain ⟨Z1, z1, z2, z3⟩ := LZ_cls (S := fun q => SC q ∨ q = 2) H (fun q => q.elim (fun q => q.2.2 rfl) (fun q => by omega)) (ch_trans (ch_mono g (fun _ h => Or.inl h)) (ch_mono g2 (fun _ h => Or.inr h))) (JI_ch J' g2 (fun q hq => by omega))
      exact ⟨Z1, ρ', σ', z1, z2, z3, hn⟩
end LAWW
