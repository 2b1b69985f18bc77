/-! the attempt goes on: statements, a program -/
def a_ho (R : nR) : Int32 := if R.2.2.2.2.2 = none then 0 else 1
def a_out (R : nR) : Int32 := R.2.2.2.2.2.getD 0
theorem a_rd_out {R : nR} {o : Nat} : (a_rd R o).2.2.2.2.2 = R.2.2.2.2.2 := by
  unfold a_rd
  split <;> rfl
theorem AT_kd {w : mW} {ρ : Nat → Nat} {a : Nat} {fl ho out : Int32} {R : nR} (h : AT w ρ a fl ho out R) : tg w ρ a 4 40 := by
  obtain ⟨na, sa, b1, -⟩ := h
  exact b1
theorem AT_s0 {w : mW} {ρ : Nat → Nat} {a : Nat} {fl ho out : Int32} {R : nR} (h : AT w ρ a fl ho out R) (v : Int32) : AT (m_sI w 3 0 a v) ρ a v ho out R ∧ ch (Sr 40 5) w ρ (m_sI w 3 0 a v) ρ := by
  obtain ⟨na, sa, b1, b2, b3, b4, b5, b6, b7, b8, b9, b10, b11, b12⟩ := h
  obtain ⟨n1, g1⟩ := AT_sI b1 b9 b10 0 v
  refine ⟨⟨na, sa, b1, ?_, ?_, ?_, ?_, ?_, b7, b8, n1, b10, b11, b12⟩, g1⟩
  · simp only [kd_sI, fi_sI, fr_sI, ln_sI, ia_sI, oa_sI, la_sI, nx_sI, kd_sR, fi_sR, fr_sR, ln_sR, ia_sR, oa_sR, la_sR, nx_sR, kd_sA, fi_sA, fr_sA, ln_sA, ia_sA, oa_sA, la_sA, nx_sA, kd_sO, fi_sO, fr_sO, ln_sO, ia_sO, oa_sO, la_sO, nx_sO, kd_sL, fi_sL, fr_sL, ln_sL, ia_sL, oa_sL, la_sL, nx_sL, kd_sF, fi_sF, fr_sF, ln_sF, ia_sF, oa_sF, la_sF, nx_sF, kd_sG, fi_sG, fr_sG, ln_sG, ia_sG, oa_sG, la_sG, nx_sG, kd_sX, fi_sX, fr_sX, ln_sX, ia_sX, oa_sX, la_sX, nx_sX, kd_nO, fi_nO, fr_nO, ln_nO, ia_nO, oa_nO, la_nO, nx_nO, kd_nA, fi_nA, fr_nA, ln_nA, ia_nA, oa_nA, la_nA, nx_nA, u3_s]
  · simp only [kd_sI, fi_sI, fr_sI, ln_sI, ia_sI, oa_sI, la_sI, nx_sI, kd_sR, fi_sR, fr_sR, ln_sR, ia_sR, oa_sR, la_sR, nx_sR, kd_sA, fi_sA, fr_sA, ln_sA, ia_sA, oa_sA, la_sA, nx_sA, kd_sO, fi_sO, fr_sO, ln_sO, ia_sO, oa_sO, la_sO, nx_sO, kd_sL, fi_sL, fr_sL, ln_sL, ia_sL, oa_sL, la_sL, nx_sL, kd_sF, fi_sF, fr_sF, ln_sF, ia_sF, oa_sF, la_sF, nx_sF, kd_sG, fi_sG, fr_sG, ln_sG, ia_sG, oa_sG, la_sG, nx_sG, kd_sX, fi_sX, fr_sX, ln_sX, ia_sX, oa_sX, la_sX, nx_sX, kd_nO, fi_nO, fr_nO, ln_nO, ia_nO, oa_nO, la_nO, nx_nO, kd_nA, fi_nA, fr_nA, ln_nA, ia_nA, oa_nA, la_nA, nx_nA]; rw [u3_j (by decide)]; exact b3
  · simp only [kd_sI, fi_sI, fr_sI, ln_sI, ia_sI, oa_sI, la_sI, nx_sI, kd_sR, fi_sR, fr_sR, ln_sR, ia_sR, oa_sR, la_sR, nx_sR, kd_sA, fi_sA, fr_sA, ln_sA, ia_sA, oa_sA, la_sA, nx_sA, kd_sO, fi_sO, fr_sO, ln_sO, ia_sO, oa_sO, la_sO, nx_sO, kd_sL, fi_sL, fr_sL, ln_sL, ia_sL, oa_sL, la_sL, nx_sL, kd_sF, fi_sF, fr_sF, ln_sF, ia_sF, oa_sF, la_sF, nx_sF, kd_sG, fi_sG, fr_sG, ln_sG, ia_sG, oa_sG, la_sG, nx_sG, kd_sX, fi_sX, fr_sX, ln_sX, ia_sX, oa_sX, la_sX, nx_sX, kd_nO, fi_nO, fr_nO, ln_nO, ia_nO, oa_nO, la_nO, nx_nO, kd_nA, fi_nA, fr_nA, ln_nA, ia_nA, oa_nA, la_nA, nx_nA]; rw [u3_j (by decide)]; exact b4
  · simp only [kd_sI, fi_sI, fr_sI, ln_sI, ia_sI, oa_sI, la_sI, nx_sI, kd_sR, fi_sR, fr_sR, ln_sR, ia_sR, oa_sR, la_sR, nx_sR, kd_sA, fi_sA, fr_sA, ln_sA, ia_sA, oa_sA, la_sA, nx_sA, kd_sO, fi_sO, fr_sO, ln_sO, ia_sO, oa_sO, la_sO, nx_sO, kd_sL, fi_sL, fr_sL, ln_sL, ia_sL, oa_sL, la_sL, nx_sL, kd_sF, fi_sF, fr_sF, ln_sF, ia_sF, oa_sF, la_sF, nx_sF, kd_sG, fi_sG, fr_sG, ln_sG, ia_sG, oa_sG, la_sG, nx_sG, kd_sX, fi_sX, fr_sX, ln_sX, ia_sX, oa_sX, la_sX, nx_sX, kd_nO, fi_nO, fr_nO, ln_nO, ia_nO, oa_nO, la_nO, nx_nO, kd_nA, fi_nA, fr_nA, ln_nA, ia_nA, oa_nA, la_nA, nx_nA]; rw [u3_j (by decide)]; exact b5
  · simp only [kd_sI, fi_sI, fr_sI, ln_sI, ia_sI, oa_sI, la_sI, nx_sI, kd_sR, fi_sR, fr_sR, ln_sR, ia_sR, oa_sR, la_sR, nx_sR, kd_sA, fi_sA, fr_sA, ln_sA, ia_sA, oa_sA, la_sA, nx_sA, kd_sO, fi_sO, fr_sO, ln_sO, ia_sO, oa_sO, la_sO, nx_sO, kd_sL, fi_sL, fr_sL, ln_sL, ia_sL, oa_sL, la_sL, nx_sL, kd_sF, fi_sF, fr_sF, ln_sF, ia_sF, oa_sF, la_sF, nx_sF, kd_sG, fi_sG, fr_sG, ln_sG, ia_sG, oa_sG, la_sG, nx_sG, kd_sX, fi_sX, fr_sX, ln_sX, ia_sX, oa_sX, la_sX, nx_sX, kd_nO, fi_nO, fr_nO, ln_nO, ia_nO, oa_nO, la_nO, nx_nO, kd_nA, fi_nA, fr_nA, ln_nA, ia_nA, oa_nA, la_nA, nx_nA]; rw [u3_j (by decide)]; exact b6
theorem AT_s1 {w : mW} {ρ : Nat → Nat} {a : Nat} {fl ho out : Int32} {R : nR} (h : AT w ρ a fl ho out R) (v : Int32) : AT (m_sI w 3 1 a v) ρ a fl v out R ∧ ch (Sr 40 5) w ρ (m_sI w 3 1 a v) ρ := by
  obtain ⟨na, sa, b1, b2, b3, b4, b5, b6, b7, b8, b9, b10, b11, b12⟩ := h
  obtain ⟨n1, g1⟩ := AT_sI b1 b9 b10 1 v
  refine ⟨⟨na, sa, b1, ?_, ?_, ?_, ?_, ?_, b7, b8, n1, b10, b11, b12⟩, g1⟩
  · simp only [kd_sI, fi_sI, fr_sI, ln_sI, ia_sI, oa_sI, la_sI, nx_sI, kd_sR, fi_sR, fr_sR, ln_sR, ia_sR, oa_sR, la_sR, nx_sR, kd_sA, fi_sA, fr_sA, ln_sA, ia_sA, oa_sA, la_sA, nx_sA, kd_sO, fi_sO, fr_sO, ln_sO, ia_sO, oa_sO, la_sO, nx_sO, kd_sL, fi_sL, fr_sL, ln_sL, ia_sL, oa_sL, la_sL, nx_sL, kd_sF, fi_sF, fr_sF, ln_sF, ia_sF, oa_sF, la_sF, nx_sF, kd_sG, fi_sG, fr_sG, ln_sG, ia_sG, oa_sG, la_sG, nx_sG, kd_sX, fi_sX, fr_sX, ln_sX, ia_sX, oa_sX, la_sX, nx_sX, kd_nO, fi_nO, fr_nO, ln_nO, ia_nO, oa_nO, la_nO, nx_nO, kd_nA, fi_nA, fr_nA, ln_nA, ia_nA, oa_nA, la_nA, nx_nA]; rw [u3_j (by decide)]; exact b2
  · simp only [kd_sI, fi_sI, fr_sI, ln_sI, ia_sI, oa_sI, la_sI, nx_sI, kd_sR, fi_sR, fr_sR, ln_sR, ia_sR, oa_sR, la_sR, nx_sR, kd_sA, fi_sA, fr_sA, ln_sA, ia_sA, oa_sA, la_sA, nx_sA, kd_sO, fi_sO, fr_sO, ln_sO, ia_sO, oa_sO, la_sO, nx_sO, kd_sL, fi_sL, fr_sL, ln_sL, ia_sL, oa_sL, la_sL, nx_sL, kd_sF, fi_sF, fr_sF, ln_sF, ia_sF, oa_sF, la_sF, nx_sF, kd_sG, fi_sG, fr_sG, ln_sG, ia_sG, oa_sG, la_sG, nx_sG, kd_sX, fi_sX, fr_sX, ln_sX, ia_sX, oa_sX, la_sX, nx_sX, kd_nO, fi_nO, fr_nO, ln_nO, ia_nO, oa_nO, la_nO, nx_nO, kd_nA, fi_nA, fr_nA, ln_nA, ia_nA, oa_nA, la_nA, nx_nA, u3_s]
  · simp only [kd_sI, fi_sI, fr_sI, ln_sI, ia_sI, oa_sI, la_sI, nx_sI, kd_sR, fi_sR, fr_sR, ln_sR, ia_sR, oa_sR, la_sR, nx_sR, kd_sA, fi_sA, fr_sA, ln_sA, ia_sA, oa_sA, la_sA, nx_sA, kd_sO, fi_sO, fr_sO, ln_sO, ia_sO, oa_sO, la_sO, nx_sO, kd_sL, fi_sL, fr_sL, ln_sL, ia_sL, oa_sL, la_sL, nx_sL, kd_sF, fi_sF, fr_sF, ln_sF, ia_sF, oa_sF, la_sF, nx_sF, kd_sG, fi_sG, fr_sG, ln_sG, ia_sG, oa_sG, la_sG, nx_sG, kd_sX, fi_sX, fr_sX, ln_sX, ia_sX, oa_sX, la_sX, nx_sX, kd_nO, fi_nO, fr_nO, ln_nO, ia_nO, oa_nO, la_nO, nx_nO, kd_nA, fi_nA, fr_nA, ln_nA, ia_nA, oa_nA, la_nA, nx_nA]; rw [u3_j (by decide)]; exact b4
  · simp only [kd_sI, fi_sI, fr_sI, ln_sI, ia_sI, oa_sI, la_sI, nx_sI, kd_sR, fi_sR, fr_sR, ln_sR, ia_sR, oa_sR, la_sR, nx_sR, kd_sA, fi_sA, fr_sA, ln_sA, ia_sA, oa_sA, la_sA, nx_sA, kd_sO, fi_sO, fr_sO, ln_sO, ia_sO, oa_sO, la_sO, nx_sO, kd_sL, fi_sL, fr_sL, ln_sL, ia_sL, oa_sL, la_sL, nx_sL, kd_sF, fi_sF, fr_sF, ln_sF, ia_sF, oa_sF, la_sF, nx_sF, kd_sG, fi_sG, fr_sG, ln_sG, ia_sG, oa_sG, la_sG, nx_sG, kd_sX, fi_sX, fr_sX, ln_sX, ia_sX, oa_sX, la_sX, nx_sX, kd_nO, fi_nO, fr_nO, ln_nO, ia_nO, oa_nO, la_nO, nx_nO, kd_nA, fi_nA, fr_nA, ln_nA, ia_nA, oa_nA, la_nA, nx_nA]; rw [u3_j (by decide)]; exact b5
  · simp only [kd_sI, fi_sI, fr_sI, ln_sI, ia_sI, oa_sI, la_sI, nx_sI, kd_sR, fi_sR, fr_sR, ln_sR, ia_sR, oa_sR, la_sR, nx_sR, kd_sA, fi_sA, fr_sA, ln_sA, ia_sA, oa_sA, la_sA, nx_sA, kd_sO, fi_sO, fr_sO, ln_sO, ia_sO, oa_sO, la_sO, nx_sO, kd_sL, fi_sL, fr_sL, ln_sL, ia_sL, oa_sL, la_sL, nx_sL, kd_sF, fi_sF, fr_sF, ln_sF, ia_sF, oa_sF, la_sF, nx_sF, kd_sG, fi_sG, fr_sG, ln_sG, ia_sG, oa_sG, la_sG, nx_sG, kd_sX, fi_sX, fr_sX, ln_sX, ia_sX, oa_sX, la_sX, nx_sX, kd_nO, fi_nO, fr_nO, ln_nO, ia_nO, oa_nO, la_nO, nx_nO, kd_nA, fi_nA, fr_nA, ln_nA, ia_nA, oa_nA, la_nA, nx_nA]; rw [u3_j (by decide)]; exact b6
theorem AT_s2 {w : mW} {ρ : Nat → Nat} {a : Nat} {fl ho out : Int32} {R : nR} (h : AT w ρ a fl ho out R) (v : Int32) : AT (m_sI w 3 2 a v) ρ a fl ho v R ∧ ch (Sr 40 5) w ρ (m_sI w 3 2 a v) ρ := by
  obtain ⟨na, sa, b1, b2, b3, b4, b5, b6, b7, b8, b9, b10, b11, b12⟩ := h
  obtain ⟨n1, g1⟩ := AT_sI b1 b9 b10 2 v
  refine ⟨⟨na, sa, b1, ?_, ?_, ?_, ?_, ?_, b7, b8, n1, b10, b11, b12⟩, g1⟩
  · simp only [kd_sI, fi_sI, fr_sI, ln_sI, ia_sI, oa_sI, la_sI, nx_sI, kd_sR, fi_sR, fr_sR, ln_sR, ia_sR, oa_sR, la_sR, nx_sR, kd_sA, fi_sA, fr_sA, ln_sA, ia_sA, oa_sA, la_sA, nx_sA, kd_sO, fi_sO, fr_sO, ln_sO, ia_sO, oa_sO, la_sO, nx_sO, kd_sL, fi_sL, fr_sL, ln_sL, ia_sL, oa_sL, la_sL, nx_sL, kd_sF, fi_sF, fr_sF, ln_sF, ia_sF, oa_sF, la_sF, nx_sF, kd_sG, fi_sG, fr_sG, ln_sG, ia_sG, oa_sG, la_sG, nx_sG, kd_sX, fi_sX, fr_sX, ln_sX, ia_sX, oa_sX, la_sX, nx_sX, kd_nO, fi_nO, fr_nO, ln_nO, ia_nO, oa_nO, la_nO, nx_nO, kd_nA, fi_nA, fr_nA, ln_nA, ia_nA, oa_nA, la_nA, nx_nA]; rw [u3_j (by decide)]; exact b2
  · simp only [kd_sI, fi_sI, fr_sI, ln_sI, ia_sI, oa_sI, la_sI, nx_sI, kd_sR, fi_sR, fr_sR, ln_sR, ia_sR, oa_sR, la_sR, nx_sR, kd_sA, fi_sA, fr_sA, ln_sA, ia_sA, oa_sA, la_sA, nx_sA, kd_sO, fi_sO, fr_sO, ln_sO, ia_sO, oa_sO, la_sO, nx_sO, kd_sL, fi_sL, fr_sL, ln_sL, ia_sL, oa_sL, la_sL, nx_sL, kd_sF, fi_sF, fr_sF, ln_sF, ia_sF, oa_sF, la_sF, nx_sF, kd_sG, fi_sG, fr_sG, ln_sG, ia_sG, oa_sG, la_sG, nx_sG, kd_sX, fi_sX, fr_sX, ln_sX, ia_sX, oa_sX, la_sX, nx_sX, kd_nO, fi_nO, fr_nO, ln_nO, ia_nO, oa_nO, la_nO, nx_nO, kd_nA, fi_nA, fr_nA, ln_nA, ia_nA, oa_nA, la_nA, nx_nA]; rw [u3_j (by decide)]; exact b3
  · simp only [kd_sI, fi_sI, fr_sI, ln_sI, ia_sI, oa_sI, la_sI, nx_sI, kd_sR, fi_sR, fr_sR, ln_sR, ia_sR, oa_sR, la_sR, nx_sR, kd_sA, fi_sA, fr_sA, ln_sA, ia_sA, oa_sA, la_sA, nx_sA, kd_sO, fi_sO, fr_sO, ln_sO, ia_sO, oa_sO, la_sO, nx_sO, kd_sL, fi_sL, fr_sL, ln_sL, ia_sL, oa_sL, la_sL, nx_sL, kd_sF, fi_sF, fr_sF, ln_sF, ia_sF, oa_sF, la_sF, nx_sF, kd_sG, fi_sG, fr_sG, ln_sG, ia_sG, oa_sG, la_sG, nx_sG, kd_sX, fi_sX, fr_sX, ln_sX, ia_sX, oa_sX, la_sX, nx_sX, kd_nO, fi_nO, fr_nO, ln_nO, ia_nO, oa_nO, la_nO, nx_nO, kd_nA, fi_nA, fr_nA, ln_nA, ia_nA, oa_nA, la_nA, nx_nA, u3_s]
  · simp only [kd_sI, fi_sI, fr_sI, ln_sI, ia_sI, oa_sI, la_sI, nx_sI, kd_sR, fi_sR, fr_sR, ln_sR, ia_sR, oa_sR, la_sR, nx_sR, kd_sA, fi_sA, fr_sA, ln_sA, ia_sA, oa_sA, la_sA, nx_sA, kd_sO, fi_sO, fr_sO, ln_sO, ia_sO, oa_sO, la_sO, nx_sO, kd_sL, fi_sL, fr_sL, ln_sL, ia_sL, oa_sL, la_sL, nx_sL, kd_sF, fi_sF, fr_sF, ln_sF, ia_sF, oa_sF, la_sF, nx_sF, kd_sG, fi_sG, fr_sG, ln_sG, ia_sG, oa_sG, la_sG, nx_sG, kd_sX, fi_sX, fr_sX, ln_sX, ia_sX, oa_sX, la_sX, nx_sX, kd_nO, fi_nO, fr_nO, ln_nO, ia_nO, oa_nO, la_nO, nx_nO, kd_nA, fi_nA, fr_nA, ln_nA, ia_nA, oa_nA, la_nA, nx_nA]; rw [u3_j (by decide)]; exact b5
  · simp only [kd_sI, fi_sI, fr_sI, ln_sI, ia_sI, oa_sI, la_sI, nx_sI, kd_sR, fi_sR, fr_sR, ln_sR, ia_sR, oa_sR, la_sR, nx_sR, kd_sA, fi_sA, fr_sA, ln_sA, ia_sA, oa_sA, la_sA, nx_sA, kd_sO, fi_sO, fr_sO, ln_sO, ia_sO, oa_sO, la_sO, nx_sO, kd_sL, fi_sL, fr_sL, ln_sL, ia_sL, oa_sL, la_sL, nx_sL, kd_sF, fi_sF, fr_sF, ln_sF, ia_sF, oa_sF, la_sF, nx_sF, kd_sG, fi_sG, fr_sG, ln_sG, ia_sG, oa_sG, la_sG, nx_sG, kd_sX, fi_sX, fr_sX, ln_sX, ia_sX, oa_sX, la_sX, nx_sX, kd_nO, fi_nO, fr_nO, ln_nO, ia_nO, oa_nO, la_nO, nx_nO, kd_nA, fi_nA, fr_nA, ln_nA, ia_nA, oa_nA, la_nA, nx_nA]; rw [u3_j (by decide)]; exact b6
theorem AT_s4 {w : mW} {ρ : Nat → Nat} {a : Nat} {fl ho out : Int32} {R : nR} (h : AT w ρ a fl ho out R) (m : Nat) (z : Option Int32) : AT (m_sI w 3 4 a (nI m)) ρ a fl ho out (R.1, R.2.1, m, R.2.2.2.1, R.2.2.2.2.1, z) ∧ ch (Sr 40 5) w ρ (m_sI w 3 4 a (nI m)) ρ := by
  obtain ⟨na, sa, b1, b2, b3, b4, b5, b6, b7, b8, b9, b10, b11, b12⟩ := h
  obtain ⟨n1, g1⟩ := AT_sI b1 b9 b10 4 (nI m)
  refine ⟨⟨na, sa, b1, ?_, ?_, ?_, ?_, ?_, b7, b8, n1, b10, b11, b12⟩, g1⟩
  · simp only [kd_sI, fi_sI, fr_sI, ln_sI, ia_sI, oa_sI, la_sI, nx_sI, kd_sR, fi_sR, fr_sR, ln_sR, ia_sR, oa_sR, la_sR, nx_sR, kd_sA, fi_sA, fr_sA, ln_sA, ia_sA, oa_sA, la_sA, nx_sA, kd_sO, fi_sO, fr_sO, ln_sO, ia_sO, oa_sO, la_sO, nx_sO, kd_sL, fi_sL, fr_sL, ln_sL, ia_sL, oa_sL, la_sL, nx_sL, kd_sF, fi_sF, fr_sF, ln_sF, ia_sF, oa_sF, la_sF, nx_sF, kd_sG, fi_sG, fr_sG, ln_sG, ia_sG, oa_sG, la_sG, nx_sG, kd_sX, fi_sX, fr_sX, ln_sX, ia_sX, oa_sX, la_sX, nx_sX, kd_nO, fi_nO, fr_nO, ln_nO, ia_nO, oa_nO, la_nO, nx_nO, kd_nA, fi_nA, fr_nA, ln_nA, ia_nA, oa_nA, la_nA, nx_nA]; rw [u3_j (by decide)]; exact b2
  · simp only [kd_sI, fi_sI, fr_sI, ln_sI, ia_sI, oa_sI, la_sI, nx_sI, kd_sR, fi_sR, fr_sR, ln_sR, ia_sR, oa_sR, la_sR, nx_sR, kd_sA, fi_sA, fr_sA, ln_sA, ia_sA, oa_sA, la_sA, nx_sA, kd_sO, fi_sO, fr_sO, ln_sO, ia_sO, oa_sO, la_sO, nx_sO, kd_sL, fi_sL, fr_sL, ln_sL, ia_sL, oa_sL, la_sL, nx_sL, kd_sF, fi_sF, fr_sF, ln_sF, ia_sF, oa_sF, la_sF, nx_sF, kd_sG, fi_sG, fr_sG, ln_sG, ia_sG, oa_sG, la_sG, nx_sG, kd_sX, fi_sX, fr_sX, ln_sX, ia_sX, oa_sX, la_sX, nx_sX, kd_nO, fi_nO, fr_nO, ln_nO, ia_nO, oa_nO, la_nO, nx_nO, kd_nA, fi_nA, fr_nA, ln_nA, ia_nA, oa_nA, la_nA, nx_nA]; rw [u3_j (by decide)]; exact b3
  · simp only [kd_sI, fi_sI, fr_sI, ln_sI, ia_sI, oa_sI, la_sI, nx_sI, kd_sR, fi_sR, fr_sR, ln_sR, ia_sR, oa_sR, la_sR, nx_sR, kd_sA, fi_sA, fr_sA, ln_sA, ia_sA, oa_sA, la_sA, nx_sA, kd_sO, fi_sO, fr_sO, ln_sO, ia_sO, oa_sO, la_sO, nx_sO, kd_sL, fi_sL, fr_sL, ln_sL, ia_sL, oa_sL, la_sL, nx_sL, kd_sF, fi_sF, fr_sF, ln_sF, ia_sF, oa_sF, la_sF, nx_sF, kd_sG, fi_sG, fr_sG, ln_sG, ia_sG, oa_sG, la_sG, nx_sG, kd_sX, fi_sX, fr_sX, ln_sX, ia_sX, oa_sX, la_sX, nx_sX, kd_nO, fi_nO, fr_nO, ln_nO, ia_nO, oa_nO, la_nO, nx_nO, kd_nA, fi_nA, fr_nA, ln_nA, ia_nA, oa_nA, la_nA, nx_nA]; rw [u3_j (by decide)]; exact b4
  · simp only [kd_sI, fi_sI, fr_sI, ln_sI, ia_sI, oa_sI, la_sI, nx_sI, kd_sR, fi_sR, fr_sR, ln_sR, ia_sR, oa_sR, la_sR, nx_sR, kd_sA, fi_sA, fr_sA, ln_sA, ia_sA, oa_sA, la_sA, nx_sA, kd_sO, fi_sO, fr_sO, ln_sO, ia_sO, oa_sO, la_sO, nx_sO, kd_sL, fi_sL, fr_sL, ln_sL, ia_sL, oa_sL, la_sL, nx_sL, kd_sF, fi_sF, fr_sF, ln_sF, ia_sF, oa_sF, la_sF, nx_sF, kd_sG, fi_sG, fr_sG, ln_sG, ia_sG, oa_sG, la_sG, nx_sG, kd_sX, fi_sX, fr_sX, ln_sX, ia_sX, oa_sX, la_sX, nx_sX, kd_nO, fi_nO, fr_nO, ln_nO, ia_nO, oa_nO, la_nO, nx_nO, kd_nA, fi_nA, fr_nA, ln_nA, ia_nA, oa_nA, la_nA, nx_nA]; rw [u3_j (by decide)]; exact b5
  · simp only [kd_sI, fi_sI, fr_sI, ln_sI, ia_sI, oa_sI, la_sI, nx_sI, kd_sR, fi_sR, fr_sR, ln_sR, ia_sR, oa_sR, la_sR, nx_sR, kd_sA, fi_sA, fr_sA, ln_sA, ia_sA, oa_sA, la_sA, nx_sA, kd_sO, fi_sO, fr_sO, ln_sO, ia_sO, oa_sO, la_sO, nx_sO, kd_sL, fi_sL, fr_sL, ln_sL, ia_sL, oa_sL, la_sL, nx_sL, kd_sF, fi_sF, fr_sF, ln_sF, ia_sF, oa_sF, la_sF, nx_sF, kd_sG, fi_sG, fr_sG, ln_sG, ia_sG, oa_sG, la_sG, nx_sG, kd_sX, fi_sX, fr_sX, ln_sX, ia_sX, oa_sX, la_sX, nx_sX, kd_nO, fi_nO, fr_nO, ln_nO, ia_nO, oa_nO, la_nO, nx_nO, kd_nA, fi_nA, fr_nA, ln_nA, ia_nA, oa_nA, la_nA, nx_nA, u3_s]
theorem AT_assign {w : mW} {ρ : Nat → Nat} {a : Nat} {fl ho out : Int32} {R : nR} (h : AT w ρ a fl ho out R) {i : Nat} (hi : i < 8) (x y : Int32) : ∃ na w', m_fr w 3 5 a = some na ∧ m_kd w na = 6 ∧ e_X2_assign w na (nI i) x y = some ((), w') ∧ AT w' ρ a fl ho out (upd R.1 i x, upd R.2.1 i y, R.2.2) ∧ ch (Sr 40 5) w ρ w' ρ := by
  obtain ⟨na, sa, b1, b2, b3, b4, b5, b6, b7, b8, b9, b10, b11, b12⟩ := h
  obtain ⟨w', q1, q2, q3⟩ := NM_assign b9 hi x y
  obtain ⟨s1, s2, -, -, -⟩ := tg_sm b1 q3 (by unfold Sr; omega)
  obtain ⟨-, -, s3, -, -⟩ := tg_sm b10 q3 (by unfold Sr; omega)
  exact ⟨na, w', b7, (NM_kd b9).1, q1, ⟨na, sa, tg_ch b1 q3, (s1 _ _).trans b2, (s1 _ _).trans b3, (s1 _ _).trans b4, (s1 _ _).trans b5, (s1 _ _).trans b6, (s2 _ _).trans b7, (s2 _ _).trans b8, q2, tg_ch b10 q3, (tg_ln b10 q3).trans b11, fun j hj => by rw [s3]; exact b12 j hj⟩, ch_mono q3 (fun q hq => by unfold Sr at *; omega)⟩
theorem ST_outcome {w : mW} {ρ : Nat → Nat} {a t : Nat} {x : nS} (h : ST w ρ a t x) (hx : x.2.1 < 4) (l r : Int64) : e_X5_outcome w a l r = some (a_op x.2.1 l r, w) := by
  obtain ⟨b1, b2, b3, b4, b5⟩ := h
  unfold e_X5_outcome e_X5_outcome_59 a_op
  rw [m_g_t b1.1, b3]
  have h4 : x.2.1 = 0 ∨ x.2.1 = 1 ∨ x.2.1 = 2 ∨ x.2.1 = 3 := by omega
  rcases h4 with e | e | e | e
  · rw [e, if_pos (by decide), if_pos rfl]
  · rw [e, if_neg (by decide), if_pos (by decide), if_neg (by decide), if_pos rfl]
  · rw [e, if_neg (by decide), if_neg (by decide), if_pos (by decide), if_neg (by decide), if_neg (by decide), if_pos rfl]
  · rw [e, if_neg (show ¬ nI 3 = 0 by decide), if_neg (show ¬ nI 3 = 1 by decide), if_neg (show ¬ nI 3 = 2 by decide), if_neg (show ¬ (3 : Nat) = 0 by decide), if_neg (show ¬ (3 : Nat) = 1 by decide), if_neg (show ¬ (3 : Nat) = 2 by decide)]
    by_cases c : r = 0
    · rw [if_pos ((lg_cmp_eq _ _).mpr c), if_pos c]
    · rw [if_neg (fun q => c ((lg_cmp_eq _ _).mp q)), m_g_t c, if_neg c]
theorem AT_fail {w : mW} {ρ : Nat → Nat} {a : Nat} {ho out : Int32} {R : nR} (h : AT w ρ a 0 ho out R) : ∃ w', e_X0_performStatement_22 w a = some ((), w') ∧ AT w' ρ a 1 ho out R ∧ ch (Sr 40 5) w ρ w' ρ := by
  unfold e_X0_performStatement_22
  rw [m_g_t (AT_kd h).1, m_g_t (by decide +kernel), m_l_s]
  exact ⟨_, rfl, (AT_s0 h 1).1, (AT_s0 h 1).2⟩
theorem AT_stmt {w : mW} {ρ : Nat → Nat} {a s t : Nat} {R : nR} {x : nS} {k : Int32} (h : AT w ρ a 0 (a_ho R) (a_out R) R) (g : ST w ρ s t x) (hx : a_okS x) (ht : t < 40 ∨ 44 < t) :
    ∃ w', e_X0_performStatement w a s k = some ((), w') ∧ AT w' ρ a (if (a_st R x k).2 = true then 1 else 0) (a_ho (a_st R x k).1) (a_out (a_st R x k).1) (a_st R x k).1 ∧ ch (Sr 40 5) w ρ w' ρ := by
  obtain ⟨x1, x2, x3, x4⟩ := hx
  have hst : ¬ Sr 40 5 t := by unfold Sr; omega
  unfold e_X0_performStatement
  rw [m_g_t g.1.1, m_g_t (AT_kd h).1, g.2.2.2.1]
  obtain ⟨w1, r1, r2, r3⟩ := AT_read h (o := x.2.2.1) (by omega)
  have g1 := ST_ch g r3 hst
  rw [r1, m_b_s]
  have e0 : ∀ o, a_ho (a_rd R o) = a_ho R ∧ a_out (a_rd R o) = a_out R := fun o => ⟨by unfold a_ho; rw [a_rd_out], by unfold a_out; rw [a_rd_out]⟩
  unfold a_st
  by_cases c1 : a_ok (a_rd R x.2.2.1) x.2.2.1 = true
  · rw [if_pos c1, if_neg nb_10, if_pos c1]
    rw [m_g_t g1.1.1, m_g_t (AT_kd r2).1, g1.2.2.2.2]
    obtain ⟨w2, p1, p2, p3⟩ := AT_read r2 (o := x.2.2.2) (by omega)
    have g2 := ST_ch g1 p3 hst
    have G2 := ch_trans r3 p3
    rw [p1, m_b_s]
    generalize hR2 : a_rd (a_rd R x.2.2.1) x.2.2.2 = R2 at *
    have e2 : a_ho R2 = a_ho R ∧ a_out R2 = a_out R := by
      rw [← hR2]
      unfold a_ho a_out
      rw [a_rd_out, a_rd_out]
      exact ⟨rfl, rfl⟩
    by_cases c2 : a_ok R2 x.2.2.2 = true
    · rw [if_pos c2, if_neg nb_10, if_pos c2]
      rw [m_g_t g2.1.1, m_g_t (AT_kd p2).1, g2.2.2.2.1, AT_val p2 (by omega), m_b_s, m_g_t g2.1.1, m_g_t (AT_kd p2).1, g2.2.2.2.2, AT_val p2 (by omega), m_b_s, m_g_t g2.1.1, ST_outcome g2 x2, m_b_s]
      generalize a_op x.2.1 (a_val R2 x.2.2.1).toInt64 (a_val R2 x.2.2.2).toInt64 = z
      by_cases c3 : a_fit z = true
      · have c3' : z.toInt32.toInt64 = z := of_decide_eq_true c3
        rw [if_pos c3, if_pos ((lg_cmp_eq _ _).mpr c3'), m_g_t (AT_kd p2).1, m_l_s, m_g_t (by decide +kernel), m_l_s]
        obtain ⟨a3, h3⟩ := AT_s2 p2 z.toInt32
        obtain ⟨a4, h4⟩ := AT_s1 a3 1
        have g4 := ST_ch (ST_ch g2 h3 hst) h4 hst
        generalize m_sI (m_sI w2 3 2 a z.toInt32) 3 1 a 1 = w4 at *
        have G4 := ch_trans G2 (ch_trans h3 h4)
        obtain ⟨na, w5, d1, d2, d3, d4, d5⟩ := AT_assign a4 x1 z.toInt32 k
        have f4 : m_fi w4 3 2 a = z.toInt32 := by
          obtain ⟨_, _, _, _, _, q, _⟩ := a4
          exact q
        rw [d1, m_o_s, m_g_t g4.1.1, m_g_t d2, g4.2.1, f4, d3, m_b_s, m_g_t (AT_kd d4).1]
        have g5 := ST_ch g4 d5 hst
        have f5 : m_fi w5 3 4 a = nI R2.2.2.1 := by
          obtain ⟨_, _, _, _, _, _, _, q, _⟩ := d4
          exact q
        rw [m_g_t g5.1.1, f5, g5.2.1, nb_set (by omega), m_l_s]
        obtain ⟨a6, h6⟩ := AT_s4 d4 (R2.2.2.1 ||| 2 ^ x.1) (some z.toInt32)
        exact ⟨_, rfl, a6, ch_trans G4 (ch_trans d5 h6)⟩
      · have c3' : ¬ z.toInt32.toInt64 = z := fun q => c3 (decide_eq_true q)
        rw [if_neg c3, if_neg (fun q => c3' ((lg_cmp_eq _ _).mp q)), m_g_t (AT_kd p2).1, m_g_t (by decide +kernel), m_l_s]
        refine ⟨_, rfl, ?_, ch_trans G2 (AT_s0 p2 1).2⟩
        show AT _ ρ a 1 (a_ho R2) (a_out R2) R2
        rw [e2.1, e2.2]
        exact (AT_s0 p2 1).1
    · rw [if_neg c2, if_pos rfl, if_neg c2]
      obtain ⟨w3, q1, q2, q3⟩ := AT_fail p2
      refine ⟨w3, q1, ?_, ch_trans G2 q3⟩
      show AT _ ρ a 1 (a_ho R2) (a_out R2) R2
      rw [e2.1, e2.2]
      exact q2
  · rw [if_neg c1, if_pos rfl, if_neg c1]
    obtain ⟨w3, q1, q2, q3⟩ := AT_fail r2
    refine ⟨w3, q1, ?_, ch_trans r3 q3⟩
    show AT _ ρ a 1 (a_ho (a_rd R x.2.2.1)) (a_out (a_rd R x.2.2.1)) (a_rd R x.2.2.1)
    rw [(e0 _).1, (e0 _).2]
    exact q2
/-- a row of statements, held by a list of addresses whose marks are told -/
def STs (w : mW) (ρ : Nat → Nat) (ts : Nat → Nat) (L : List Nat) (P : List nS) : Prop := L.length = P.length ∧ ∀ i (h : i < L.length) (h2 : i < P.length), ST w ρ L[i] (ts i) P[i]
theorem STs_ch {S : Nat → Prop} {w w' : mW} {ρ ρ' : Nat → Nat} {ts : Nat → Nat} {L : List Nat} {P : List nS} (h : STs w ρ ts L P) (g : ch S w ρ w' ρ') (hs : ∀ i, i < P.length → ¬ S (ts i)) : STs w' ρ' ts L P := ⟨h.1, fun i h1 h2 => ST_ch (h.2 i h1 h2) g (hs i h2)⟩
def a_res (r : nR × Bool) (v : Nat → Int32) (r1 : Nat → Int32) : Nat → Int32 := if r.2 = true then v else r1
theorem AT_loop {ρ : Nat → Nat} {a p tp b t : Nat} {t0 : Nat} {L : List Nat} {ts : Nat → Nat} {k : Int32} {v s : Nat → Int32} (hts : ∀ i, ts i < 40 ∨ 44 < ts i) (ht : t + 2 < 40 ∨ 44 < t) (htp : tp + 1 < 40 ∨ 44 < tp) (hpt : ∀ q, Sr (t + 1) 2 q → q ≠ tp ∧ q ≠ tp + 1 ∧ q ≠ 0) :
    ∀ (P2 : List nS) (P1 : List nS) (f : Nat) (w : mW) (R : nR), P2.length < f → (∀ x ∈ P2, a_okS x) → AL w ρ t0 p tp L → STs w ρ ts L (P1 ++ P2) → NM w ρ b t v s → AT w ρ a 0 (a_ho R) (a_out R) R →
      ∃ w' o, e_X0_perform_8 f w a p b k (nI P1.length) = some ((), w') ∧ AT w' ρ a (if (a_run P2 R k).2 = true then 1 else 0) (if (a_run P2 R k).2 = true then 0 else a_ho (a_run P2 R k).1) o (a_run P2 R k).1 ∧ ((a_run P2 R k).2 = false → o = a_out (a_run P2 R k).1) ∧
        NM w' ρ b t (if (a_run P2 R k).2 = true then v else (a_run P2 R k).1.1) (if (a_run P2 R k).2 = true then s else (a_run P2 R k).1.2.1) ∧ ch (fun q => Sr 40 5 q ∨ Sr (t + 1) 2 q) w ρ w' ρ := by
  intro P2
  have bad : ∀ (w : mW) (R : nR), AT w ρ a 1 (a_ho R) (a_out R) R → NM w ρ b t v s → ∃ w' o, e_X0_perform_44 w a b = some ((), w') ∧ AT w' ρ a 1 0 o R ∧ NM w' ρ b t v s ∧ ch (fun q => Sr 40 5 q ∨ Sr (t + 1) 2 q) w ρ w' ρ := by
    intro w R h g
    obtain ⟨a1, h1⟩ := AT_s1 h 0
    unfold e_X0_perform_44 e_X0_perform_67
    have f0 : m_fi w 3 0 a = 1 := by
      obtain ⟨_, _, _, q, _⟩ := h
      exact q
    rw [m_g_t (AT_kd h).1, f0, if_neg nb_10, m_g_t (by decide +kernel), m_l_s]
    exact ⟨_, _, rfl, a1, NM_ch g h1 (by unfold Sr; omega) (by unfold Sr; omega) (by unfold Sr; omega), ch_mono h1 (fun q hq => Or.inl hq)⟩
  induction P2 with
  | nil =>
    intro P1 f w R hf hx hA hS hN h
    obtain ⟨f, rfl⟩ : ∃ q, f = q + 1 := ⟨f - 1, by omega⟩
    have hl : L.length = P1.length := by rw [hS.1, List.append_nil]
    show ∃ w' o, e_X0_perform_8_b _ _ _ _ _ _ _ = _ ∧ _
    unfold e_X0_perform_8_b
    have hk : m_kd w p = 3 := by obtain ⟨_, q, _⟩ := hA; exact q.1
    rw [m_g_t hk, AL_size hA, m_b_s, if_pos (by rw [hl]; exact nI_le (Nat.le_refl _) (by have := AL_len hA; omega))]
    unfold e_X0_perform_44 e_X0_perform_67
    obtain ⟨na, sa, b1, b2, b3, b4, b5, b6, b7, b8, b9, b10, b11, b12⟩ := id h
    rw [m_g_t b1.1, b2, if_pos rfl, b7, m_o_s, m_g_t (NM_kd hN).1]
    obtain ⟨w', q1, q2, q3⟩ := NM_becomeLike (t := t) (t' := 41) (by omega) hN b9
    rw [q1, m_b_s]
    refine ⟨w', _, rfl, AT_ch h q3 (fun q h1 h2 => by unfold Sr; omega), fun _ => rfl, q2, ch_mono q3 (fun q hq => Or.inr hq)⟩
  | cons x P2 ih =>
    intro P1 f w R hf hx hA hS hN h
    obtain ⟨f, rfl⟩ : ∃ q, f = q + 1 := ⟨f - 1, by omega⟩
    have hl : L.length = P1.length + (P2.length + 1) := by rw [hS.1, List.length_append, List.length_cons]
    show ∃ w' o, e_X0_perform_8_b _ _ _ _ _ _ _ = _ ∧ _
    unfold e_X0_perform_8_b
    have hk : m_kd w p = 3 := by obtain ⟨_, q, _⟩ := hA; exact q.1
    have f0 : m_fi w 3 0 a = 0 := by
      obtain ⟨_, _, _, q, _⟩ := h
      exact q
    have hL := AL_len hA
    have hi : P1.length < L.length := by omega
    have hs := hS.2 P1.length hi (by rw [List.length_append, List.length_cons]; omega)
    rw [List.getElem_append_right (Nat.le_refl _)] at hs
    simp only [Nat.sub_self, List.getElem_cons_zero] at hs
    rw [m_g_t hk, AL_size hA, m_b_s, if_neg (nI_ge hi (by omega)), m_g_t (AT_kd h).1, f0, if_pos rfl, m_g_t hk, AL_get hA hi, m_b_s, m_g_t hs.1.1, m_g_t (AT_kd h).1]
    obtain ⟨w1, q1, q2, q3⟩ := AT_stmt (k := k) h hs (hx x (List.mem_cons_self ..)) (hts _)
    rw [q1, m_b_s, nI_1]
    have hA1 := AL_ch hA q3 (by unfold Sr; omega) (by unfold Sr; omega) (by unfold Sr; omega)
    have hS1 := STs_ch hS q3 (fun i _ => by have := hts i; unfold Sr; omega)
    have hN1 := NM_ch hN q3 (by unfold Sr; omega) (by unfold Sr; omega) (by unfold Sr; omega)
    have hk1 : m_kd w1 p = 3 := by obtain ⟨_, q, _⟩ := hA1; exact q.1
    unfold a_run
    by_cases c : (a_st R x k).2 = true
    · rw [if_pos c] at q2
      rw [if_pos c, if_pos c, if_pos c, if_pos c, if_pos c]
      -- the next turn of the loop ends it
      obtain ⟨f, rfl⟩ : ∃ q, f = q + 1 := ⟨f - 1, by rw [List.length_cons] at hf; omega⟩
      obtain ⟨w2, o, r1, r2, r3, r4⟩ := bad w1 _ q2 hN1
      have e : e_X0_perform_8 (f + 1) w1 a p b k (nI (P1.length + 1)) = e_X0_perform_44 w1 a b := by
        show e_X0_perform_8_b _ _ _ _ _ _ _ = _
        unfold e_X0_perform_8_b
        rw [m_g_t hk1, AL_size hA1, m_b_s]
        by_cases c2 : nI L.length ≤ nI (P1.length + 1)
        · rw [if_pos c2]
        · have f1 : m_fi w1 3 0 a = 1 := by
            obtain ⟨_, _, _, q, _⟩ := q2
            exact q
          rw [if_neg c2, m_g_t (AT_kd q2).1, f1, if_neg nb_10]
      refine ⟨w2, o, e.trans r1, r2, fun q => ?_, r3, ch_trans (ch_mono q3 (fun q hq => Or.inl hq)) r4⟩
      rw [c] at q
      cases q
    · rw [if_neg c] at q2
      rw [if_neg c]
      have hS2 : STs w1 ρ ts L ((P1 ++ [x]) ++ P2) := by
        rw [List.append_assoc]
        exact hS1
      obtain ⟨w2, o, r1, r2, r3, r4, r5⟩ := ih (P1 ++ [x]) f w1 (a_st R x k).1 (by rw [List.length_cons] at hf; omega) (fun y hy => hx y (List.mem_cons_of_mem _ hy)) hA1 hS2 hN1 q2
      rw [List.length_append, List.length_singleton] at r1
      exact ⟨w2, o, r1, r2, r3, r4, ch_trans (ch_mono q3 (fun q hq => Or.inl hq)) r5⟩
theorem AT_perform {w : mW} {ρ : Nat → Nat} {a p tp b t : Nat} {t0 : Nat} {L : List Nat} {ts : Nat → Nat} {k : Int32} {v s : Nat → Int32} {P : List nS} (hts : ∀ i, ts i < 40 ∨ 44 < ts i) (ht : t + 2 < 40 ∨ 44 < t) (htp : tp + 1 < 40 ∨ 44 < tp) (hpt : ∀ q, Sr (t + 1) 2 q → q ≠ tp ∧ q ≠ tp + 1 ∧ q ≠ 0)
    (hP : ∀ x ∈ P, a_okS x) (hl : P.length ≤ 6) (hA : AL w ρ t0 p tp L) (hS : STs w ρ ts L P) (hN : NM w ρ b t v s) (h : AT0 w ρ a) :
      ∃ w' o, e_X0_perform w a p b k = some ((), w') ∧ AT w' ρ a (if (a_run P (v, s, 0, 0, (fun _ => 0), none) k).2 = true then 1 else 0) (if (a_run P (v, s, 0, 0, (fun _ => 0), none) k).2 = true then 0 else a_ho (a_run P (v, s, 0, 0, (fun _ => 0), none) k).1) o (a_run P (v, s, 0, 0, (fun _ => 0), none) k).1 ∧ ((a_run P (v, s, 0, 0, (fun _ => 0), none) k).2 = false → o = a_out (a_run P (v, s, 0, 0, (fun _ => 0), none) k).1) ∧
        NM w' ρ b t (if (a_run P (v, s, 0, 0, (fun _ => 0), none) k).2 = true then v else (a_run P (v, s, 0, 0, (fun _ => 0), none) k).1.1) (if (a_run P (v, s, 0, 0, (fun _ => 0), none) k).2 = true then s else (a_run P (v, s, 0, 0, (fun _ => 0), none) k).1.2.1) ∧ ch (fun q => Sr 40 5 q ∨ Sr (t + 1) 2 q) w ρ w' ρ := by
  unfold e_X0_perform
  rw [m_g_t (AT0_kd h).1]
  obtain ⟨w1, q1, q2, q3⟩ := AT_begin h hN ht
  rw [q1, m_b_s]
  obtain ⟨w2, o, r1, r2, r3, r4, r5⟩ := AT_loop (k := k) hts ht htp hpt P [] m_N w1 (v, s, 0, 0, (fun _ => 0), none) (by show _ < 5000; omega) hP (AL_ch hA q3 (by unfold Sr; omega) (by unfold Sr; omega) (by unfold Sr; omega)) (STs_ch hS q3 (fun i _ => by have := hts i; unfold Sr; omega)) (NM_ch hN q3 (by unfold Sr; omega) (by unfold Sr; omega) (by unfold Sr; omega)) q2
  exact ⟨w2, o, r1, r2, r3, r4, ch_trans (ch_mono q3 (fun q hq => Or.inl hq)) r5⟩
