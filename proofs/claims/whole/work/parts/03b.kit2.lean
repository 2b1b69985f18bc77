def m_max (x y : Int32) : Int32 := if x < y then y else x
def m_min (x y : Int32) : Int32 := if y < x then y else x
section MCOPY
variable {p : Program} {l : Launch} {e : Env} {R : Room} {s : State} {m : MethodId} {args : Array Value} {below : List Frame} {meth : Method} {c : Code} {H : Heap} {locs : List Loc} {cells slots : Nat} {Q : State → Prop}
variable {cc : ByteArray} {pc : Nat} {ls : Array Slot} {rest : List Value} {G : m_G} {w : mW} {a a0 : Nat} {H0 : Heap}
theorem m_recvQ (hK : va_K G.2.1 vwCl (m_tys G) s) (hP : mP G w H) (hk : m_kd w a = 23) : ∃ cell : Cell, H[a]? = some cell ∧ cell.vm.isStatics = false ∧ s.vm.findClass "[Ljava/lang/Object;" = some cell.cls := by
  obtain ⟨ce, g1, g2, g3, g4, g5⟩ := m_arrW hP hk
  refine ⟨ce, g1, g4, ?_⟩
  rw [g2]
  exact va_nmO (hK.2 2 _ rfl).2 rfl
theorem m_copyQ (hexec : p.tables.exec = Jvm.exec) (hb : c.code = cc) (hml : c.maxLocals = ls.size) {own : String} {index : Nat} (hown : s.vm.findClass own = some m.cls) (hlink : (Cond.methodLink own index arraycopyName).before args s = true) (hnat : (Cond.native arraycopyName).before args s = true) (hstat : (Cond.static arraycopyName).before args s = true) (hini : (Cond.initialized "java/lang/System").before args s = true)
    (hM : mS G s) (hP : mP G w H) (hS : va_S (fun q => G.1 ≤ q) H0 H locs) {sp dp n : Int32} (hg : m_kd w a0 = 23 ∧ m_kd w a = 23 ∧ ¬ sp < 0 ∧ ¬ dp < 0 ∧ ¬ n < 0 ∧ sp.toNatClampNeg + n.toNatClampNeg ≤ m_ln w a0 ∧ dp.toNatClampNeg + n.toNatClampNeg ≤ m_ln w a ∧ 0 < m_ln w a) (hel : ∀ i, i < n.toNatClampNeg → ∀ y ∈ m_oa w a0 (sp.toNatClampNeg + i), 1 ≤ m_kd w y ∧ m_kd w y ≤ 11)
    (hframes : 1 ≤ R.frames) (hlocals : (rest.map fun v => v.category).sum + (nativeFrameWords "java/lang/System" "arraycopy" 5 + 11) ≤ R.locals) (hdg : decode cc pc = .ok (.invokestatic index, 3))
    (kk : ∀ (H1 : Heap) (locs1 : List Loc), mP G (m_sG w a (va_cpy (m_oa w a0) (m_oa w a) sp.toNatClampNeg dp.toNatClampNeg n.toNatClampNeg)) H1 → va_S (fun q => G.1 ≤ q) H0 H1 locs1 → W p l e R s m args below meth c H1 locs1 cells slots Q (F0 m (pc + 3) ls rest)) : W p l e R s m args below meth c H locs cells slots Q (F0 m pc ls (.int n :: .int dp :: .ref a :: .int sp :: .ref a0 :: rest)) := by
  obtain ⟨k0, k1, h1, h2, h3, h4, h5, h6⟩ := hg
  have nn : ∀ z : Int32, ¬ z < 0 → z.toInt = (z.toNatClampNeg : Int) := by
    intro z hz
    have hz0 : (0 : Int) ≤ z.toInt := by
      have := Int32.not_lt.mp hz
      simpa using Int32.le_iff_toInt_le.mp this
    show z.toInt = ((z.toInt.toNat : Nat) : Int)
    omega
  intro T hT X
  obtain ⟨cs, hc0, y1, y2, y3, y4⟩ := m_arrW hP k0
  have y5 : ∀ k, cs.vm ≠ .statics k := fun q z => by rw [z] at y3; cases y3
  have hc1 := m_arrQ hP k1 h6
  have hK := hM.1
  obtain ⟨-, q0, hk0, cm0, hkk0⟩ := (hK.2 2 _ rfl).1 (m_ln w a0) (fun j => va_rf (m_oa w a0 j))
  obtain ⟨-, q1, hk1, cm1, hkk1⟩ := (hK.2 2 _ rfl).1 (m_ln w a) (fun j => va_rf (m_oa w a j))
  obtain ⟨vm', X', step⟩ := X.arraycopy hexec hown hlink hnat hstat hini (src := a0) (dst := a) (cs := cs) (cd := vp_cell (G.2.2.1 23) (m_ln w a, .inr (.inr (.inr (.inr (m_oa w a)))))) (srcPos := sp) (destPos := dp) (n := n) (by rw [hT]; exact hc0) (by rw [hT]; exact hc1)
    y5 (fun _ h => by cases h) y2 (fun h => by cases h) (by rw [y1]; exact hk0) hk1 hkk0 hkk1 rfl h1 h2 h3
    (by rw [nn sp h1, nn n h3, y4]; show ¬ _ > ((arrV _ _ (fun j => va_rf (m_oa w a0 j))).slots.size : Int); rw [arrV_size]; omega)
    (by rw [nn dp h2, nn n h3]; show ¬ _ > ((arrV _ _ (fun j => va_rf (m_oa w a j))).slots.size : Int); rw [arrV_size]; omega)
    (fun vm₁ hal i hi => by
      have e : cs.slots.getD (sp.toNatClampNeg + i) .null = va_rf (m_oa w a0 (sp.toNatClampNeg + i)) := by
        rw [y4]
        show (arrV _ _ (fun j => va_rf (m_oa w a0 j))).slots.getD _ _ = _
        rw [Array.getD_eq_getD_getElem?, arrV_read _ _ (by omega)]
        rfl
      rw [e]
      cases hy : m_oa w a0 (sp.toNatClampNeg + i) with
      | none => exact ⟨rfl, trivial⟩
      | some y =>
        obtain ⟨cellV, g1, g2, ⟨kC, hkC⟩, hasg⟩ := m_anyK hM hP (hel i hi y hy)
        obtain ⟨kA, comp, r1, r2, r3, -⟩ := (hK.2 2 _ rfl).2
        cases hk1.symm.trans r1
        cases hkk1.symm.trans r2
        obtain ⟨kE, hkE, -⟩ := Vm.findClass_spec r3
        obtain ⟨kC', hkC', -⟩ := hal.2.2 _ _ hkC
        obtain ⟨kE', hkE', -⟩ := hal.2.2 _ _ hkE
        refine ⟨rfl, cellV, (show T.heap[y]? = some cellV by rw [hT]; exact g1), (fun q h => by rw [h] at g2; cases g2), ⟨kC', hkC'⟩, ?_, ?_⟩
        · exact ⟨kE', hkE'⟩
        · show vm₁.assignable _ _ = true
          rw [hal.assignable]
          exact hasg _ r3)
    (g := F0 m pc ls (.int n :: .int dp :: .ref a :: .int sp :: .ref a0 :: rest)) rfl (by rw [hml]) (rest := rest) rfl (by rw [hb]; exact hdg) hframes (by show 2 * 0 + _ + _ ≤ _; omega)
  have e1 : copied cs (vp_cell (G.2.2.1 23) (m_ln w a, .inr (.inr (.inr (.inr (m_oa w a)))))) sp dp n = vp_cell (G.2.2.1 23) (m_ln w a, .inr (.inr (.inr (.inr (va_cpy (m_oa w a0) (m_oa w a) sp.toNatClampNeg dp.toNatClampNeg n.toNatClampNeg))))) := by
    rw [vp_cell_q, vp_cell_q]
    exact va_copiedX (fun z => va_rf z) cs _ _ _ (fun j hj => by rw [y4]; show (arrV _ _ (fun j => va_rf (m_oa w a0 j))).slots[_]? = _; rw [arrV_read _ _ hj]) h4
  rw [e1] at X' step
  have hl : a < H.size := (Array.getElem?_eq_some_iff.mp hc1).1
  generalize hZ : vp_cell (G.2.2.1 23) (m_ln w a, .inr (.inr (.inr (.inr (va_cpy (m_oa w a0) (m_oa w a) sp.toNatClampNeg dp.toNatClampNeg n.toNatClampNeg))))) = Z at X' step
  have hheap : ((T.setVm vm').setCell a Z).heap = H.setIfInBounds a Z := by rw [← hT]; rfl
  have oq : ∀ q : Nat, q ≠ a → (H.setIfInBounds a Z)[q]? = H[q]? := fun q hq => by simp [Array.getElem?_setIfInBounds, Ne.symm hq]
  have hA : G.1 ≤ a := m_own hP (by omega) (Or.inr h6)
  obtain ⟨t, a1, b1⟩ := kk _ _ (mP_up (a := a) hP (by omega) rfl rfl rfl (fun b hb => m_e_congr _ (fun _ _ => rfl) (fun _ _ => rfl) rfl rfl (by simp [m_oa, m_sG, va_up, hb]) rfl) (by
      rw [k1]
      show (H.setIfInBounds a Z)[a]? = some (vp_cell _ _)
      rw [← hZ]
      simp [Array.getElem?_setIfInBounds, hl, m_ln, m_oa, m_sG, va_up]) (by simp) oq) ⟨by simp; exact hS.1, fun q g1 g2 => by
      rw [oq q (fun e => g2 (by rw [e]; exact hA))]
      exact hS.2.1 q g1 g2, fun q hq => by
      rcases List.mem_append.mp hq with h | h
      · exact hS.2.2 q h
      · obtain ⟨z, -, hz⟩ := List.mem_map.mp h
        rw [← hz]
        exact hA⟩ _ hheap X'
  exact ⟨t, step t a1, b1⟩
theorem m_copyB (hexec : p.tables.exec = Jvm.exec) (hb : c.code = cc) (hml : c.maxLocals = ls.size) {own : String} {index : Nat} (hown : s.vm.findClass own = some m.cls) (hlink : (Cond.methodLink own index arraycopyName).before args s = true) (hnat : (Cond.native arraycopyName).before args s = true) (hstat : (Cond.static arraycopyName).before args s = true) (hini : (Cond.initialized "java/lang/System").before args s = true)
    (hM : mS G s) (hP : mP G w H) (hS : va_S (fun q => G.1 ≤ q) H0 H locs) {sp dp n : Int32} (hg : m_kd w a0 = 24 ∧ m_kd w a = 24 ∧ ¬ sp < 0 ∧ ¬ dp < 0 ∧ ¬ n < 0 ∧ sp.toNatClampNeg + n.toNatClampNeg ≤ m_ln w a0 ∧ dp.toNatClampNeg + n.toNatClampNeg ≤ m_ln w a ∧ 0 < m_ln w a) (hel : ∀ i, i < n.toNatClampNeg → vp_nar .byte (m_ia w a0 (sp.toNatClampNeg + i)) = m_ia w a0 (sp.toNatClampNeg + i))
    (hframes : 1 ≤ R.frames) (hlocals : (rest.map fun v => v.category).sum + (nativeFrameWords "java/lang/System" "arraycopy" 5 + 11) ≤ R.locals) (hdg : decode cc pc = .ok (.invokestatic index, 3))
    (kk : ∀ (H1 : Heap) (locs1 : List Loc), mP G (m_sF w a (va_cpy (m_ia w a0) (m_ia w a) sp.toNatClampNeg dp.toNatClampNeg n.toNatClampNeg)) H1 → va_S (fun q => G.1 ≤ q) H0 H1 locs1 → W p l e R s m args below meth c H1 locs1 cells slots Q (F0 m (pc + 3) ls rest)) : W p l e R s m args below meth c H locs cells slots Q (F0 m pc ls (.int n :: .int dp :: .ref a :: .int sp :: .ref a0 :: rest)) := by
  obtain ⟨k0, k1, h1, h2, h3, h4, h5, h6⟩ := hg
  have nn : ∀ z : Int32, ¬ z < 0 → z.toInt = (z.toNatClampNeg : Int) := by
    intro z hz
    have hz0 : (0 : Int) ≤ z.toInt := by
      have := Int32.not_lt.mp hz
      simpa using Int32.le_iff_toInt_le.mp this
    show z.toInt = ((z.toInt.toNat : Nat) : Int)
    omega
  intro T hT X
  have hc0 := m_arrI hP k0 (Or.inr (Or.inr rfl))
  have hc1 := m_arrI hP k1 (Or.inr (Or.inr rfl))
  have hK := hM.1
  obtain ⟨-, q0, hk0, cm0, hkk0⟩ := (hK.2 3 _ rfl).1 (m_ln w a0) (fun j => .int (m_ia w a0 j))
  obtain ⟨-, q1, hk1, cm1, hkk1⟩ := (hK.2 3 _ rfl).1 (m_ln w a) (fun j => .int (m_ia w a j))
  obtain ⟨vm', X', step⟩ := X.arraycopy hexec hown hlink hnat hstat hini (src := a0) (dst := a) (cs := vp_cell (G.2.2.1 24) (m_ln w a0, .inl (m_ia w a0))) (cd := vp_cell (G.2.2.1 24) (m_ln w a, .inl (m_ia w a))) (srcPos := sp) (destPos := dp) (n := n) (by rw [hT]; exact hc0) (by rw [hT]; exact hc1)
    (fun _ h => by cases h) (fun _ h => by cases h) (fun h => by cases h) (fun h => by cases h) hk0 hk1 hkk0 hkk1 (by simp [refKind]) h1 h2 h3
    (by rw [nn sp h1, nn n h3]; show ¬ _ > ((arrV _ _ (fun j => .int (m_ia w a0 j))).slots.size : Int); rw [arrV_size]; omega)
    (by rw [nn dp h2, nn n h3]; show ¬ _ > ((arrV _ _ (fun j => .int (m_ia w a j))).slots.size : Int); rw [arrV_size]; omega)
    (fun vm₁ hal i hi => by
      have e : (vp_cell (G.2.2.1 24) (m_ln w a0, .inl (m_ia w a0))).slots.getD (sp.toNatClampNeg + i) .null = .int (m_ia w a0 (sp.toNatClampNeg + i)) := by
        show (arrV _ _ (fun j => .int (m_ia w a0 j))).slots.getD _ _ = _
        rw [Array.getD_eq_getD_getElem?, arrV_read _ _ (by omega)]
        rfl
      refine ⟨?_, ?_⟩
      · rw [e]
        exact (m_narB (hel i hi)).2
      · rw [e]
        exact trivial)
    (g := F0 m pc ls (.int n :: .int dp :: .ref a :: .int sp :: .ref a0 :: rest)) rfl (by rw [hml]) (rest := rest) rfl (by rw [hb]; exact hdg) hframes (by show 2 * 0 + _ + _ ≤ _; omega)
  have e1 : copied (vp_cell (G.2.2.1 24) (m_ln w a0, .inl (m_ia w a0))) (vp_cell (G.2.2.1 24) (m_ln w a, .inl (m_ia w a))) sp dp n = vp_cell (G.2.2.1 24) (m_ln w a, .inl (va_cpy (m_ia w a0) (m_ia w a) sp.toNatClampNeg dp.toNatClampNeg n.toNatClampNeg)) := va_copied (fun z => .int z) _ _ _ _ h4
  rw [e1] at X' step
  have hl : a < H.size := (Array.getElem?_eq_some_iff.mp hc1).1
  generalize hZ : vp_cell (G.2.2.1 24) (m_ln w a, .inl (va_cpy (m_ia w a0) (m_ia w a) sp.toNatClampNeg dp.toNatClampNeg n.toNatClampNeg)) = Z at X' step
  have hheap : ((T.setVm vm').setCell a Z).heap = H.setIfInBounds a Z := by rw [← hT]; rfl
  have oq : ∀ q : Nat, q ≠ a → (H.setIfInBounds a Z)[q]? = H[q]? := fun q hq => by simp [Array.getElem?_setIfInBounds, Ne.symm hq]
  have hA : G.1 ≤ a := m_own hP (by omega) (Or.inr h6)
  obtain ⟨t, a1, b1⟩ := kk _ _ (mP_up (a := a) hP (by omega) rfl rfl rfl (fun b hb => m_e_congr _ (fun _ _ => rfl) (fun _ _ => rfl) rfl (by simp [m_ia, m_sF, va_up, hb]) rfl rfl) (by
      rw [k1]
      show (H.setIfInBounds a Z)[a]? = some (vp_cell _ _)
      rw [← hZ]
      simp [Array.getElem?_setIfInBounds, hl, m_ln, m_ia, m_sF, va_up]) (by simp) oq) ⟨by simp; exact hS.1, fun q g1 g2 => by
      rw [oq q (fun e => g2 (by rw [e]; exact hA))]
      exact hS.2.1 q g1 g2, fun q hq => by
      rcases List.mem_append.mp hq with h | h
      · exact hS.2.2 q h
      · obtain ⟨z, -, hz⟩ := List.mem_map.mp h
        rw [← hz]
        exact hA⟩ _ hheap X'
  exact ⟨t, step t a1, b1⟩
end MCOPY
