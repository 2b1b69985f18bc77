/-! the reference's own world: one object, its numbers by their fields, its arrays by their fields -/
abbrev xS : Type := (Nat → Int32) × (Nat → Nat → Int32)
abbrev xB : Type := mW × Nat × (Nat → Nat) × (Nat → Option Nat)
def x_len (j : Nat) : Nat := ([0, 16, 16, 96, 96, 96, 96, 16, 16, 80, 8, 8, 8, 0, 401, 401, 401, 401, 401, 401, 3208, 0, 80, 80, 160, 8, 0, 0, 0, 0, 16, 0] : List Nat).getD j 0
def x_ty (j : Nat) : Nat := if j = 18 then 22 else if j = 19 then 22 else 21
def x_ov (Z : xB) (u : xS) : mW := (m_kd Z.1, fun c j a => if c = 10 ∧ a = Z.2.1 then u.1 j else m_fi Z.1 c j a, m_fr Z.1, m_ln Z.1, fun a => (match Z.2.2.2 a with
  | some j => u.2 j
  | none => m_ia Z.1 a), m_oa Z.1, m_la Z.1, m_nx Z.1)
def x_ok (Z : xB) : Prop := m_kd Z.1 Z.2.1 = 11 ∧ (∀ j, 0 < x_len j → m_fr Z.1 10 j Z.2.1 = some (Z.2.2.1 j) ∧ m_kd Z.1 (Z.2.2.1 j) = x_ty j ∧ m_ln Z.1 (Z.2.2.1 j) = x_len j ∧ Z.2.2.2 (Z.2.2.1 j) = some j) ∧ ∀ a j, Z.2.2.2 a = some j → 0 < x_len j ∧ a = Z.2.2.1 j
def x_sI (u : xS) (j : Nat) (v : Int32) : xS := (upd u.1 j v, u.2)
def x_sA (u : xS) (j i : Nat) (v : Int32) : xS := (u.1, va_up u.2 j (upd (u.2 j) i v))
theorem x_ov_sI {Z : xB} {u : xS} {j : Nat} {v : Int32} : m_sI (x_ov Z u) 10 j Z.2.1 v = x_ov Z (x_sI u j v) := by
  have e : m_u3 (fun c j a => if c = 10 ∧ a = Z.2.1 then u.1 j else m_fi Z.1 c j a) 10 j Z.2.1 v = fun c j' a => if c = 10 ∧ a = Z.2.1 then upd u.1 j v j' else m_fi Z.1 c j' a := by
    funext c j' a
    by_cases h1 : c = 10 ∧ a = Z.2.1
    · by_cases h2 : j' = j
      · simp [m_u3, h1, h2, upd]
      · simp [m_u3, h1, h2, upd]
    · have h2 : ¬ (c = 10 ∧ j' = j ∧ a = Z.2.1) := fun q => h1 ⟨q.1, q.2.2⟩
      simp only [m_u3, if_neg h1, if_neg h2]
  exact Prod.ext rfl (Prod.ext e rfl)
theorem x_ov_sA {Z : xB} {u : xS} {j i : Nat} {v : Int32} (hZ : x_ok Z) (hj : 0 < x_len j) : m_sA (x_ov Z u) (Z.2.2.1 j) i v = x_ov Z (x_sA u j i v) := by
  have hx := (hZ.2.1 j hj).2.2.2
  have e : va_up (m_ia (x_ov Z u)) (Z.2.2.1 j) (upd (m_ia (x_ov Z u) (Z.2.2.1 j)) i v) = m_ia (x_ov Z (x_sA u j i v)) := by
    funext a
    by_cases h1 : a = Z.2.2.1 j
    · subst h1
      simp [va_up, m_ia, x_ov, hx, x_sA]
    · simp only [va_up, if_neg h1]
      show (match Z.2.2.2 a with
        | some j => u.2 j
        | none => m_ia Z.1 a) = (match Z.2.2.2 a with
        | some k => (x_sA u j i v).2 k
        | none => m_ia Z.1 a)
      cases hq : Z.2.2.2 a with
      | none => rfl
      | some k =>
        have hk : k ≠ j := fun e => h1 (by rw [(hZ.2.2 a k hq).2, e])
        simp [x_sA, va_up, hk]
  exact Prod.ext rfl (Prod.ext rfl (Prod.ext rfl (Prod.ext rfl (Prod.ext e rfl))))
section XROWS
variable {p : Program} {l : Launch} {e : Env} {R : Room} {s : State} {m : MethodId} {args : Array Value} {below : List Frame} {meth : Method} {c : Code} {H : Heap} {locs : List Loc} {cells slots : Nat} {Q : State → Prop}
variable {cc : ByteArray} {pc : Nat} {ls : Array Slot} {rest : List Value} {G : m_G} {Z : xB} {u : xS} {H0 : Heap}
theorem x_getI (hexec : p.tables.exec = Jvm.exec) (hb : c.code = cc) {own ref : String} {index : Nat} {Ts : List Cond} (hts : ∀ w ∈ Ts, w.before args s = true) (hin : ∀ w ∈ u_ws RX7 TX7 32, w ∈ Ts) (hown : s.vm.findClass own = some m.cls) (hK : va_K G.2.1 vwCl (m_tys G) s) (hZ : x_ok Z) (hP : mP G (x_ov Z u) H) (j : Nat) (hj : j < 32 ∧ m_isR 10 j = false)
    (hlink : (Cond.fieldLink own index ref (TX7 j).2.1 (TX7 j).2.2.1).before args s = true) (hsame : ∀ x, s.fieldFound? (TX7 j).1 (TX7 j).2.1 (TX7 j).2.2.1 = some x → s.fieldFound? ref (TX7 j).2.1 (TX7 j).2.2.1 = some x) (hdg : decode cc pc = .ok (.getfield index, 3))
    (kk : W p l e R s m args below meth c H locs cells slots Q (F0 m (pc + 3) ls (.int (u.1 j) :: rest))) : W p l e R s m args below meth c H locs cells slots Q (F0 m pc ls (.ref Z.2.1 :: rest)) := by
  have e1 : m_fi (x_ov Z u) 10 j Z.2.1 = u.1 j := by simp [m_fi, x_ov]
  exact m_getI (C := RX7) (T := TX7) (N := 32) hexec hb hts hin hown hK hP 10 rfl j hZ.1 ⟨by decide, by decide, hj.1, hj.2⟩ hlink hsame hdg (by rw [e1]; exact kk)
theorem x_getA (hexec : p.tables.exec = Jvm.exec) (hb : c.code = cc) {own ref : String} {index : Nat} {Ts : List Cond} (hts : ∀ w ∈ Ts, w.before args s = true) (hin : ∀ w ∈ u_ws RX7 TX7 32, w ∈ Ts) (hown : s.vm.findClass own = some m.cls) (hK : va_K G.2.1 vwCl (m_tys G) s) (hZ : x_ok Z) (hP : mP G (x_ov Z u) H) (j : Nat) (hj : j < 32 ∧ m_isR 10 j = true ∧ 0 < x_len j)
    (hlink : (Cond.fieldLink own index ref (TX7 j).2.1 (TX7 j).2.2.1).before args s = true) (hsame : ∀ x, s.fieldFound? (TX7 j).1 (TX7 j).2.1 (TX7 j).2.2.1 = some x → s.fieldFound? ref (TX7 j).2.1 (TX7 j).2.2.1 = some x) (hdg : decode cc pc = .ok (.getfield index, 3))
    (kk : W p l e R s m args below meth c H locs cells slots Q (F0 m (pc + 3) ls (.ref (Z.2.2.1 j) :: rest))) : W p l e R s m args below meth c H locs cells slots Q (F0 m pc ls (.ref Z.2.1 :: rest)) :=
  m_getR (C := RX7) (T := TX7) (N := 32) hexec hb hts hin hown hK hP 10 rfl j ⟨hZ.1, (hZ.2.1 j hj.2.2).1⟩ ⟨by decide, by decide, hj.1, hj.2.1⟩ hlink hsame hdg kk
theorem x_putI (hexec : p.tables.exec = Jvm.exec) (hb : c.code = cc) {own ref : String} {index : Nat} {Ts : List Cond} (hts : ∀ w ∈ Ts, w.before args s = true) (hin : ∀ w ∈ u_ws RX7 TX7 32, w ∈ Ts) (hown : s.vm.findClass own = some m.cls) (hK : va_K G.2.1 vwCl (m_tys G) s) (hZ : x_ok Z) (hP : mP G (x_ov Z u) H) (hS : va_S (fun q => G.1 ≤ q) H0 H locs) (j : Nat) (hj : j < 32 ∧ m_isR 10 j = false ∧ (TX7 j).2.2.2 = false ∧ (TX7 j).2.2.1 = "I")
    (hlink : (Cond.fieldLink own index ref (TX7 j).2.1 (TX7 j).2.2.1).before args s = true) (hsame : ∀ x, s.fieldFound? (TX7 j).1 (TX7 j).2.1 (TX7 j).2.2.1 = some x → s.fieldFound? ref (TX7 j).2.1 (TX7 j).2.2.1 = some x) {x : Int32} (hdg : decode cc pc = .ok (.putfield index, 3))
    (kk : ∀ (H1 : Heap) (locs1 : List Loc), mP G (x_ov Z (x_sI u j x)) H1 → va_S (fun q => G.1 ≤ q) H0 H1 locs1 → W p l e R s m args below meth c H1 locs1 cells slots Q (F0 m (pc + 3) ls rest)) : W p l e R s m args below meth c H locs cells slots Q (F0 m pc ls (.int x :: .ref Z.2.1 :: rest)) :=
  m_putI (C := RX7) (T := TX7) (N := 32) hexec hb hts hin tyX7 tyX7_ok nmX7 hown hK hP hS 10 rfl j hZ.1 ⟨by decide, by decide, hj.1, hj.2.1⟩ hlink hsame (Or.inl hj.2.2.1) (ty := .int) (by rw [hj.2.2.2]; decide +kernel) ⟨rfl, rfl⟩ hdg (fun H1 locs1 h1 h2 => kk H1 locs1 (by rw [← x_ov_sI]; exact h1) h2)
theorem x_ia {j : Nat} (hZ : x_ok Z) (hj : 0 < x_len j) : m_ia (x_ov Z u) (Z.2.2.1 j) = u.2 j := by simp [m_ia, x_ov, (hZ.2.1 j hj).2.2.2]
theorem x_ald (hexec : p.tables.exec = Jvm.exec) (hb : c.code = cc) (hK : va_K G.2.1 vwCl (m_tys G) s) (hZ : x_ok Z) (hP : mP G (x_ov Z u) H) (j : Nat) {N : Nat} (hj : x_len j = N ∧ 0 < N ∧ x_ty j = 21) {i : Int32} (hk : ¬ (i < 0 ∨ N ≤ i.toNatClampNeg)) (hdg : decode cc pc = .ok (.iaload, 1))
    (kk : W p l e R s m args below meth c H locs cells slots Q (F0 m (pc + 1) ls (.int (u.2 j i.toNatClampNeg) :: rest))) : W p l e R s m args below meth c H locs cells slots Q (F0 m pc ls (.int i :: .ref (Z.2.2.1 j) :: rest)) := by
  obtain ⟨h1, h2, h3⟩ := hj
  obtain ⟨g1, g2, g3, g4⟩ := hZ.2.1 j (by omega)
  exact m_iald hexec hb hK hP ⟨g2.trans h3, by show ¬ (i < 0 ∨ m_ln Z.1 (Z.2.2.1 j) ≤ _); rw [g3, h1]; exact hk⟩ hdg (by rw [x_ia hZ (by omega)]; exact kk)
theorem x_zald (hexec : p.tables.exec = Jvm.exec) (hb : c.code = cc) (hK : va_K G.2.1 vwCl (m_tys G) s) (hZ : x_ok Z) (hP : mP G (x_ov Z u) H) (j : Nat) {N : Nat} (hj : x_len j = N ∧ 0 < N ∧ x_ty j = 22) {i : Int32} (hk : ¬ (i < 0 ∨ N ≤ i.toNatClampNeg)) (hdg : decode cc pc = .ok (.baload, 1))
    (kk : W p l e R s m args below meth c H locs cells slots Q (F0 m (pc + 1) ls (.int (u.2 j i.toNatClampNeg) :: rest))) : W p l e R s m args below meth c H locs cells slots Q (F0 m pc ls (.int i :: .ref (Z.2.2.1 j) :: rest)) := by
  obtain ⟨h1, h2, h3⟩ := hj
  obtain ⟨g1, g2, g3, g4⟩ := hZ.2.1 j (by omega)
  exact m_zald hexec hb hK hP ⟨g2.trans h3, by show ¬ (i < 0 ∨ m_ln Z.1 (Z.2.2.1 j) ≤ _); rw [g3, h1]; exact hk⟩ hdg (by rw [x_ia hZ (by omega)]; exact kk)
theorem x_ast (hexec : p.tables.exec = Jvm.exec) (hb : c.code = cc) (hK : va_K G.2.1 vwCl (m_tys G) s) (hZ : x_ok Z) (hP : mP G (x_ov Z u) H) (hS : va_S (fun q => G.1 ≤ q) H0 H locs) (j : Nat) {N : Nat} (hj : x_len j = N ∧ 0 < N ∧ x_ty j = 21) {i x : Int32} (hk : ¬ (i < 0 ∨ N ≤ i.toNatClampNeg)) (hdg : decode cc pc = .ok (.iastore, 1))
    (kk : ∀ (H1 : Heap) (locs1 : List Loc), mP G (x_ov Z (x_sA u j i.toNatClampNeg x)) H1 → va_S (fun q => G.1 ≤ q) H0 H1 locs1 → W p l e R s m args below meth c H1 locs1 cells slots Q (F0 m (pc + 1) ls rest)) : W p l e R s m args below meth c H locs cells slots Q (F0 m pc ls (.int x :: .int i :: .ref (Z.2.2.1 j) :: rest)) := by
  obtain ⟨h1, h2, h3⟩ := hj
  obtain ⟨g1, g2, g3, g4⟩ := hZ.2.1 j (by omega)
  exact m_iast hexec hb hK hP hS ⟨g2.trans h3, by show ¬ (i < 0 ∨ m_ln Z.1 (Z.2.2.1 j) ≤ _); rw [g3, h1]; exact hk⟩ hdg (fun H1 locs1 h5 h6 => kk H1 locs1 (by rw [← x_ov_sA hZ (by omega)]; exact h5) h6)
theorem x_zast (hexec : p.tables.exec = Jvm.exec) (hb : c.code = cc) (hK : va_K G.2.1 vwCl (m_tys G) s) (hZ : x_ok Z) (hP : mP G (x_ov Z u) H) (hS : va_S (fun q => G.1 ≤ q) H0 H locs) (j : Nat) {N : Nat} (hj : x_len j = N ∧ 0 < N ∧ x_ty j = 22) {i x : Int32} (hk : ¬ (i < 0 ∨ N ≤ i.toNatClampNeg)) (hdg : decode cc pc = .ok (.bastore, 1))
    (kk : ∀ (H1 : Heap) (locs1 : List Loc), mP G (x_ov Z (x_sA u j i.toNatClampNeg (vp_nar .boolean x))) H1 → va_S (fun q => G.1 ≤ q) H0 H1 locs1 → W p l e R s m args below meth c H1 locs1 cells slots Q (F0 m (pc + 1) ls rest)) : W p l e R s m args below meth c H locs cells slots Q (F0 m pc ls (.int x :: .int i :: .ref (Z.2.2.1 j) :: rest)) := by
  obtain ⟨h1, h2, h3⟩ := hj
  obtain ⟨g1, g2, g3, g4⟩ := hZ.2.1 j (by omega)
  exact m_zast hexec hb hK hP hS ⟨g2.trans h3, by show ¬ (i < 0 ∨ m_ln Z.1 (Z.2.2.1 j) ≤ _); rw [g3, h1]; exact hk⟩ hdg (fun H1 locs1 h5 h6 => kk H1 locs1 (by rw [← x_ov_sA hZ (by omega)]; exact h5) h6)
end XROWS
theorem m_inc {x : Int32} (h : 0 ≤ x.toInt) (h2 : x.toInt < 2000000000) : (x + 1).toInt = x.toInt + 1 := by
  rw [Int32.toInt_add]
  show (x.toInt + 1).bmod 4294967296 = _
  unfold Int.bmod
  dsimp only
  split <;> omega
