abbrev vwCl : List vw_C := [(RJ0, TJ0, 4), (RJ4, TJ4, 4), (RJx4a65c, TJx4a65c, 3), (RX0, TX0, 7), (RX1, TX1, 4), (RX2, TX2, 2), (RX3, TX3, 7), (RX4, TX4, 2), (RX5, TX5, 4), (RX6, TX6, 8), (RX7, TX7, 32)]
/-! my worlds: what a heap holds, by kinds, fields and places -/
abbrev mW : Type := (Nat → Nat) × (Nat → Nat → Nat → Int32) × (Nat → Nat → Nat → Option Nat) × (Nat → Nat) × (Nat → Nat → Int32) × (Nat → Nat → Option Nat) × (Nat → Nat → Int64) × Nat
/-- the kind of a cell: 0 none, c + 1 an object of the c-th class of vwCl, 21 int[], 22 boolean[], 23 Object[], 24 byte[], 25 long[] -/
def m_kd (w : mW) : Nat → Nat := w.1
def m_fi (w : mW) : Nat → Nat → Nat → Int32 := w.2.1
def m_fr (w : mW) : Nat → Nat → Nat → Option Nat := w.2.2.1
def m_ln (w : mW) : Nat → Nat := w.2.2.2.1
def m_ia (w : mW) : Nat → Nat → Int32 := w.2.2.2.2.1
def m_oa (w : mW) : Nat → Nat → Option Nat := w.2.2.2.2.2.1
def m_la (w : mW) : Nat → Nat → Int64 := w.2.2.2.2.2.2.1
def m_nx (w : mW) : Nat := w.2.2.2.2.2.2.2
def m_u3 {α : Type} (f : Nat → Nat → Nat → α) (c j a : Nat) (v : α) : Nat → Nat → Nat → α := fun c' j' a' => if c' = c ∧ j' = j ∧ a' = a then v else f c' j' a'
def m_ua {α : Type} (f : Nat → Nat → Nat → α) (a : Nat) (v : α) : Nat → Nat → Nat → α := fun c' j' a' => if a' = a then v else f c' j' a'
def m_sI (w : mW) (c j a : Nat) (v : Int32) : mW := (m_kd w, m_u3 (m_fi w) c j a v, m_fr w, m_ln w, m_ia w, m_oa w, m_la w, m_nx w)
def m_sR (w : mW) (c j a : Nat) (v : Option Nat) : mW := (m_kd w, m_fi w, m_u3 (m_fr w) c j a v, m_ln w, m_ia w, m_oa w, m_la w, m_nx w)
def m_sA (w : mW) (a i : Nat) (v : Int32) : mW := (m_kd w, m_fi w, m_fr w, m_ln w, va_up (m_ia w) a (upd (m_ia w a) i v), m_oa w, m_la w, m_nx w)
def m_sO (w : mW) (a i : Nat) (v : Option Nat) : mW := (m_kd w, m_fi w, m_fr w, m_ln w, m_ia w, va_up (m_oa w) a (va_up (m_oa w a) i v), m_la w, m_nx w)
def m_sL (w : mW) (a i : Nat) (v : Int64) : mW := (m_kd w, m_fi w, m_fr w, m_ln w, m_ia w, m_oa w, va_up (m_la w) a (vp_updL (m_la w a) i v), m_nx w)
def m_sF (w : mW) (a : Nat) (f : Nat → Int32) : mW := (m_kd w, m_fi w, m_fr w, m_ln w, va_up (m_ia w) a f, m_oa w, m_la w, m_nx w)
def m_sG (w : mW) (a : Nat) (f : Nat → Option Nat) : mW := (m_kd w, m_fi w, m_fr w, m_ln w, m_ia w, va_up (m_oa w) a f, m_la w, m_nx w)
def m_sX (w : mW) (n : Nat) : mW := (m_kd w, m_fi w, m_fr w, m_ln w, m_ia w, m_oa w, m_la w, n)
/-- a new object of the c-th class -/
def m_nO (w : mW) (c : Nat) : mW := (va_up (m_kd w) (m_nx w) (c + 1), m_ua (m_fi w) (m_nx w) 0, m_ua (m_fr w) (m_nx w) none, m_ln w, m_ia w, m_oa w, m_la w, m_nx w + 1)
/-- a new array of kind k and length n -/
def m_nA (w : mW) (k n : Nat) : mW := (va_up (m_kd w) (m_nx w) k, m_fi w, m_fr w, va_up (m_ln w) (m_nx w) n, va_up (m_ia w) (m_nx w) (fun _ => 0), va_up (m_oa w) (m_nx w) (fun _ => none), va_up (m_la w) (m_nx w) (fun _ => 0), m_nx w + 1)
def m_ty : Nat → Nat → FieldType
  | 0 => tyJ0 | 1 => tyJ4 | 2 => tyJx4a65c | 3 => tyX0 | 4 => tyX1 | 5 => tyX2 | 6 => tyX3 | 7 => tyX4 | 8 => tyX5 | 9 => tyX6 | _ => tyX7
def m_rt : FieldType → Bool
  | .object _ => true
  | .array _ => true
  | _ => false
def m_isR (c j : Nat) : Bool := m_rt (m_ty c j)
def m_nf (c : Nat) : Nat := ([4, 4, 3, 7, 4, 2, 7, 2, 4, 8, 32] : List Nat).getD c 0
def m_fv (w : mW) (c a j : Nat) : Value := if m_isR c j = true then va_rf (m_fr w c j a) else .int (m_fi w c j a)
def m_fs (w : mW) (c a : Nat) : List Value := (List.range (m_nf c)).map (m_fv w c a)
/-- what is given of a launch: where the law's own cells begin; classes and slots; the classes of arrays by kind; the empty array of ArrayList, the class object of Object[], the two rows of digits -/
abbrev m_G : Type := Nat × va_G × (Nat → ClassId) × Nat × Nat × Nat × Nat
def m_e (G : m_G) (w : mW) (a k : Nat) : va_E :=
  if k = 21 then .inl (G.2.2.1 21, m_ln w a, .inl (m_ia w a)) else if k = 22 then .inl (G.2.2.1 22, m_ln w a, .inl (m_ia w a)) else if k = 24 then .inl (G.2.2.1 24, m_ln w a, .inl (m_ia w a))
  else if k = 23 then .inl (G.2.2.1 23, m_ln w a, .inr (.inr (.inr (.inr (m_oa w a))))) else if k = 25 then .inl (G.2.2.1 25, m_ln w a, .inr (.inl (m_la w a))) else .inr (k - 1, m_fs w (k - 1) a)
/-- an empty row of objects that lay there before: no more is known of its cell -/
def m_dz (G : m_G) (a : Nat) (H : Heap) : Prop := ∃ ce : Cell, H[a]? = some ce ∧ ce.cls = G.2.2.1 23 ∧ ce.vm ≠ .unknown ∧ ce.vm.isStatics = false ∧ ce.slots = #[]
theorem m_dz.kept {G : m_G} {a : Nat} {H H1 : Heap} (h : m_dz G a H) (hq : H1[a]? = H[a]?) : m_dz G a H1 := by
  obtain ⟨ce, h1, h2⟩ := h
  exact ⟨ce, hq.trans h1, h2⟩
def m_ok (G : m_G) (w : mW) (a : Nat) (H : Heap) : Prop := (va_at G.2.1 vwCl (a, m_e G w a (m_kd w a)) H ∧ G.1 ≤ a) ∨ (m_kd w a = 23 ∧ m_ln w a = 0 ∧ m_dz G a H)
def mP (G : m_G) (w : mW) (H : Heap) : Prop := (∀ a, m_kd w a ≠ 0 → m_ok G w a H) ∧ H.size = m_nx w ∧ G.1 ≤ m_nx w
theorem m_ok.kept {G : m_G} {w : mW} {a : Nat} {H H1 : Heap} (h : m_ok G w a H) (hq : H1[a]? = H[a]?) : m_ok G w a H1 := by
  rcases h with ⟨h1, h2⟩ | ⟨h1, h2, h3⟩
  · exact Or.inl ⟨h1.kept hq, h2⟩
  · exact Or.inr ⟨h1, h2, h3.kept hq⟩
theorem m_ok.lt {G : m_G} {w : mW} {a : Nat} {H : Heap} (h : m_ok G w a H) : a < H.size := by
  rcases h with ⟨h1, h2⟩ | ⟨h1, h2, ce, h3, -⟩
  · exact h1.lt
  · exact (Array.getElem?_eq_some_iff.mp h3).1
theorem m_ok.at {G : m_G} {w : mW} {a : Nat} {H : Heap} (h : m_ok G w a H) (hn : m_kd w a ≠ 23 ∨ 0 < m_ln w a) : va_at G.2.1 vwCl (a, m_e G w a (m_kd w a)) H := by
  rcases h with ⟨h1, h2⟩ | ⟨h1, h2, -⟩
  · exact h1
  · rcases hn with h | h <;> omega
def m_tys (G : m_G) : List (ClassId × FieldType) := [(G.2.2.1 21, .int), (G.2.2.1 22, .boolean), (G.2.2.1 23, .object "java/lang/Object"), (G.2.2.1 24, .byte), (G.2.2.1 25, .long)]
theorem m_e_o {G : m_G} {w : mW} {a c : Nat} (h : c < 11) : m_e G w a (c + 1) = .inr (c, m_fs w c a) := by
  unfold m_e
  rw [if_neg (by omega), if_neg (by omega), if_neg (by omega), if_neg (by omega), if_neg (by omega), Nat.add_sub_cancel]
theorem m_lt {G : m_G} {w : mW} {H : Heap} {a : Nat} (hP : mP G w H) (h : m_kd w a ≠ 0) : a < H.size := (hP.1 a h).lt
theorem mP_up {G : m_G} {w w' : mW} {H H1 : Heap} {a : Nat} (hP : mP G w H) (hk : m_kd w a ≠ 0) (h1 : m_kd w' = m_kd w) (h2 : m_ln w' = m_ln w) (h3 : m_nx w' = m_nx w) (h4 : ∀ b, b ≠ a → m_e G w' b (m_kd w b) = m_e G w b (m_kd w b))
    (he : va_at G.2.1 vwCl (a, m_e G w' a (m_kd w a)) H1) (z : H1.size = H.size) (oq : ∀ q, q ≠ a → H1[q]? = H[q]?) : mP G w' H1 := by
  refine ⟨fun b hb => ?_, by rw [z, h3]; exact hP.2.1, by rw [h3]; exact hP.2.2⟩
  rw [h1] at hb
  have hz := hP.1 b hb
  unfold m_ok at hz ⊢
  rw [h1, h2]
  by_cases e : b = a
  · subst e
    rcases hz with ⟨-, z2⟩ | ⟨z1, z2, z3⟩
    · exact Or.inl ⟨he, z2⟩
    · refine Or.inr ⟨z1, z2, ?_⟩
      rw [z1] at he
      have he2 : H1[b]? = some (vp_cell (G.2.2.1 23) (m_ln w' b, .inr (.inr (.inr (.inr (m_oa w' b)))))) := he
      rw [h2, z2] at he2
      refine ⟨_, he2, rfl, (fun q => by cases q), rfl, ?_⟩
      apply Array.eq_empty_of_size_eq_zero
      show (arrV _ 0 (fun j => va_rf (m_oa w' b j))).slots.size = 0
      rw [arrV_size]
  · rw [h4 b e]
    rcases hz with ⟨y1, y2⟩ | ⟨y1, y2, y3⟩
    · exact Or.inl ⟨y1.kept (oq b e), y2⟩
    · exact Or.inr ⟨y1, y2, y3.kept (oq b e)⟩
theorem mP_new {G : m_G} {w w' : mW} {H H1 : Heap} {k : Nat} (hP : mP G w H) (h1 : m_kd w' = va_up (m_kd w) (m_nx w) k) (h2 : ∀ b, b ≠ m_nx w → m_ln w' b = m_ln w b) (h3 : m_nx w' = m_nx w + 1)
    (h4 : ∀ b, b ≠ m_nx w → m_e G w' b (m_kd w b) = m_e G w b (m_kd w b)) (he : va_at G.2.1 vwCl (m_nx w, m_e G w' (m_nx w) k) H1) (z : H1.size = H.size + 1) (oq : ∀ q, q < H.size → H1[q]? = H[q]?) : mP G w' H1 := by
  refine ⟨fun b hb => ?_, by rw [z, h3, hP.2.1], by rw [h3]; exact Nat.le_succ_of_le hP.2.2⟩
  by_cases e : b = m_nx w
  · subst e
    have hk : m_kd w' (m_nx w) = k := by rw [h1]; simp [va_up]
    unfold m_ok
    rw [hk]
    exact Or.inl ⟨he, hP.2.2⟩
  · have hk : m_kd w' b = m_kd w b := by rw [h1]; simp [va_up, e]
    rw [hk] at hb
    have hz := (hP.1 b hb).kept (oq b (m_lt hP hb))
    unfold m_ok at hz ⊢
    rw [hk, h2 b e, h4 b e]
    exact hz
theorem m_fs_get {w : mW} {c a j : Nat} (h : j < m_nf c) : (m_fs w c a)[j]? = some (m_fv w c a j) := by
  simp [m_fs, h]
theorem m_fs_len {w : mW} {c a : Nat} : (m_fs w c a).length = m_nf c := by simp [m_fs]
theorem m_fvI {w : mW} {c a j : Nat} (h : m_isR c j = false) : m_fv w c a j = .int (m_fi w c j a) := by simp [m_fv, h]
theorem m_fvR {w : mW} {c a j : Nat} (h : m_isR c j = true) : m_fv w c a j = va_rf (m_fr w c j a) := by simp [m_fv, h]
theorem m_fs_setI {w : mW} {c a j : Nat} {v : Int32} (hr : m_isR c j = false) (hj : j < m_nf c) : (m_fs w c a).set j (.int v) = m_fs (m_sI w c j a v) c a := by
  apply List.ext_getElem?
  intro k
  by_cases hk : k < m_nf c
  · rw [m_fs_get hk]
    by_cases e : k = j
    · subst e
      rw [List.getElem?_set_self (by rw [m_fs_len]; exact hk), m_fvI hr]
      simp [m_fi, m_sI, m_u3]
    · rw [List.getElem?_set_ne (Ne.symm e), m_fs_get hk]
      simp [m_fv, m_fi, m_fr, m_sI, m_u3, e]
  · rw [List.getElem?_eq_none (by rw [List.length_set, m_fs_len]; omega), List.getElem?_eq_none (by rw [m_fs_len]; omega)]
theorem m_fs_setR {w : mW} {c a j : Nat} {v : Option Nat} (hr : m_isR c j = true) (hj : j < m_nf c) : (m_fs w c a).set j (va_rf v) = m_fs (m_sR w c j a v) c a := by
  apply List.ext_getElem?
  intro k
  by_cases hk : k < m_nf c
  · rw [m_fs_get hk]
    by_cases e : k = j
    · subst e
      rw [List.getElem?_set_self (by rw [m_fs_len]; exact hk), m_fvR hr]
      simp [m_fr, m_sR, m_u3]
    · rw [List.getElem?_set_ne (Ne.symm e), m_fs_get hk]
      simp [m_fv, m_fi, m_fr, m_sR, m_u3, e]
  · rw [List.getElem?_eq_none (by rw [List.length_set, m_fs_len]; omega), List.getElem?_eq_none (by rw [m_fs_len]; omega)]
theorem m_fs_congr {w w' : mW} {c b : Nat} (h1 : ∀ c' j', m_fi w' c' j' b = m_fi w c' j' b) (h2 : ∀ c' j', m_fr w' c' j' b = m_fr w c' j' b) : m_fs w' c b = m_fs w c b := by
  simp only [m_fs]
  apply List.map_congr_left
  intro j _
  simp [m_fv, h1, h2]
theorem m_e_congr {G : m_G} {w w' : mW} {b : Nat} (k : Nat) (h1 : ∀ c' j', m_fi w' c' j' b = m_fi w c' j' b) (h2 : ∀ c' j', m_fr w' c' j' b = m_fr w c' j' b) (h3 : m_ln w' b = m_ln w b) (h4 : m_ia w' b = m_ia w b) (h5 : m_oa w' b = m_oa w b) (h6 : m_la w' b = m_la w b) : m_e G w' b k = m_e G w b k := by
  unfold m_e
  rw [h3, h4, h5, h6, m_fs_congr h1 h2]
theorem m_pos {n : Nat} (h : 0 < n) : n ≠ 0 := by omega
theorem m_pl {i : Int32} {n : Nat} (h : ¬ (i < 0 ∨ n ≤ i.toNatClampNeg)) : 0 < n := by
  have h2 : ¬ n ≤ i.toNatClampNeg := fun q => h (Or.inr q)
  omega
/-- an array's cell, as the base rows want it -/
theorem m_arrI {G : m_G} {w : mW} {H : Heap} {a k : Nat} (hP : mP G w H) (hk : m_kd w a = k) (h : k = 21 ∨ k = 22 ∨ k = 24) : H[a]? = some (vp_cell (G.2.2.1 k) (m_ln w a, .inl (m_ia w a))) := by
  have h1 := (hP.1 a (by omega)).at (Or.inl (by omega))
  rw [hk] at h1
  rcases h with rfl | rfl | rfl <;> exact h1
theorem m_arrQ {G : m_G} {w : mW} {H : Heap} {a : Nat} (hP : mP G w H) (hk : m_kd w a = 23) (hl : 0 < m_ln w a) : H[a]? = some (vp_cell (G.2.2.1 23) (m_ln w a, .inr (.inr (.inr (.inr (m_oa w a)))))) := by
  have h1 := (hP.1 a (by omega)).at (Or.inr hl)
  rw [hk] at h1
  exact h1
theorem m_arrW {G : m_G} {w : mW} {H : Heap} {a : Nat} (hP : mP G w H) (hk : m_kd w a = 23) : ∃ ce : Cell, H[a]? = some ce ∧ ce.cls = G.2.2.1 23 ∧ ce.vm ≠ .unknown ∧ ce.vm.isStatics = false ∧ ce.slots = (vp_cell (G.2.2.1 23) (m_ln w a, .inr (.inr (.inr (.inr (m_oa w a)))))).slots := by
  rcases hP.1 a (by omega) with ⟨h1, h2⟩ | ⟨h1, h2, ce, h3, h4, h5, h6, h7⟩
  · rw [hk] at h1
    exact ⟨_, h1, rfl, (fun q => by cases q), rfl, rfl⟩
  · refine ⟨ce, h3, h4, h5, h6, ?_⟩
    rw [h7, h2]
    symm
    apply Array.eq_empty_of_size_eq_zero
    show (arrV _ 0 (fun j => va_rf (m_oa w a j))).slots.size = 0
    rw [arrV_size]
theorem m_arrL {G : m_G} {w : mW} {H : Heap} {a : Nat} (hP : mP G w H) (hk : m_kd w a = 25) : H[a]? = some (vp_cell (G.2.2.1 25) (m_ln w a, .inr (.inl (m_la w a)))) := by
  have h1 := (hP.1 a (by omega)).at (Or.inl (by omega))
  rw [hk] at h1
  exact h1
theorem m_obj {G : m_G} {w : mW} {H : Heap} {a c : Nat} (hP : mP G w H) (hk : m_kd w a = c + 1) (h : c < 11) : va_P G.2.1 vwCl [(a, .inr (c, m_fs w c a))] H := by
  have h1 := (hP.1 a (by omega)).at (Or.inl (by omega))
  rw [hk, m_e_o h] at h1
  intro k q hq
  cases k with
  | zero => cases hq; exact h1
  | succ k => cases hq
theorem m_own {G : m_G} {w : mW} {H : Heap} {a : Nat} (hP : mP G w H) (hk : m_kd w a ≠ 0) (h : m_kd w a ≠ 23 ∨ 0 < m_ln w a) : G.1 ≤ a := by
  rcases hP.1 a hk with ⟨-, h1⟩ | ⟨h1, h2, -⟩
  · exact h1
  · rcases h with h | h <;> omega
theorem m_recv {G : m_G} {w : mW} {s : State} {H : Heap} {a c : Nat} {C : String} {T : u_T} {N : Nat} {tys : List (ClassId × FieldType)} (hK : va_K G.2.1 vwCl tys s) (hP : mP G w H) (hk : m_kd w a = c + 1) (h : c < 11) (hc : vwCl[c]? = some (C, T, N)) : ∃ cell : Cell, H[a]? = some cell ∧ cell.vm.isStatics = false ∧ s.vm.findClass C = some cell.cls :=
  va_recv hK (m_obj hP hk h) hc (q0 := 0) rfl
section MROWS
variable {p : Program} {l : Launch} {e : Env} {R : Room} {s : State} {m : MethodId} {args : Array Value} {below : List Frame} {meth : Method} {c : Code} {H : Heap} {locs : List Loc} {cells slots : Nat} {Q : State → Prop}
variable {cc : ByteArray} {pc : Nat} {ls : Array Slot} {rest : List Value} {G : m_G} {w : mW} {a : Nat} {H0 : Heap}
theorem m_getI (hexec : p.tables.exec = Jvm.exec) (hb : c.code = cc) {own ref C : String} {T : u_T} {N index : Nat} {Ts : List Cond} (hts : ∀ w ∈ Ts, w.before args s = true) (hin : ∀ w ∈ u_ws C T N, w ∈ Ts) (hown : s.vm.findClass own = some m.cls) (hK : va_K G.2.1 vwCl (m_tys G) s) (hP : mP G w H) (ci : Nat) (hc : vwCl[ci]? = some (C, T, N)) (j : Nat) (hk : m_kd w a = ci + 1) (hci : ci < 11 ∧ m_nf ci = N ∧ j < N ∧ m_isR ci j = false)
    (hlink : (Cond.fieldLink own index ref (T j).2.1 (T j).2.2.1).before args s = true) (hsame : ∀ x, s.fieldFound? (T j).1 (T j).2.1 (T j).2.2.1 = some x → s.fieldFound? ref (T j).2.1 (T j).2.2.1 = some x) (hdg : decode cc pc = .ok (.getfield index, 3))
    (kk : W p l e R s m args below meth c H locs cells slots Q (F0 m (pc + 3) ls (.int (m_fi w ci j a) :: rest))) : W p l e R s m args below meth c H locs cells slots Q (F0 m pc ls (.ref a :: rest)) := by
  obtain ⟨h1, h2, h3, h4⟩ := hci
  exact va_get hexec hb hts hin hown hK (m_obj hP hk h1) 0 rfl hc j h3 hlink hsame (by rw [m_fs_get (by omega), m_fvI h4]) hdg kk
theorem m_getR (hexec : p.tables.exec = Jvm.exec) (hb : c.code = cc) {own ref C : String} {T : u_T} {N index : Nat} {Ts : List Cond} (hts : ∀ w ∈ Ts, w.before args s = true) (hin : ∀ w ∈ u_ws C T N, w ∈ Ts) (hown : s.vm.findClass own = some m.cls) (hK : va_K G.2.1 vwCl (m_tys G) s) (hP : mP G w H) (ci : Nat) (hc : vwCl[ci]? = some (C, T, N)) (j : Nat) {r : Nat} (hk : m_kd w a = ci + 1 ∧ m_fr w ci j a = some r) (hci : ci < 11 ∧ m_nf ci = N ∧ j < N ∧ m_isR ci j = true)
    (hlink : (Cond.fieldLink own index ref (T j).2.1 (T j).2.2.1).before args s = true) (hsame : ∀ x, s.fieldFound? (T j).1 (T j).2.1 (T j).2.2.1 = some x → s.fieldFound? ref (T j).2.1 (T j).2.2.1 = some x) (hdg : decode cc pc = .ok (.getfield index, 3))
    (kk : W p l e R s m args below meth c H locs cells slots Q (F0 m (pc + 3) ls (.ref r :: rest))) : W p l e R s m args below meth c H locs cells slots Q (F0 m pc ls (.ref a :: rest)) := by
  obtain ⟨h1, h2, h3, h4⟩ := hci
  exact va_get hexec hb hts hin hown hK (m_obj hP hk.1 h1) 0 rfl hc j h3 hlink hsame (by rw [m_fs_get (by omega), m_fvR h4, hk.2]; rfl) hdg kk
/-- putfield, of any field that isn't final, or in a constructor -/
theorem m_putK (hexec : p.tables.exec = Jvm.exec) (hb : c.code = cc) {own ref C : String} {T : u_T} {N index : Nat} {Ts : List Cond} (hts : ∀ w ∈ Ts, w.before args s = true) (hin : ∀ w ∈ u_ws C T N, w ∈ Ts) (ty0 : Nat → FieldType) (hty : ∀ k, k < N → parseFieldDescriptor (T k).2.2.1 = some (ty0 k)) (hnm : ∀ a, a < N → ∀ b, b < N → a ≠ b → (T a).2.1 ≠ (T b).2.1) (hown : s.vm.findClass own = some m.cls) (hK : va_K G.2.1 vwCl (m_tys G) s) (hP : mP G w H) (hS : va_S (fun q => G.1 ≤ q) H0 H locs) (ci : Nat) (hc : vwCl[ci]? = some (C, T, N)) (j : Nat) (hk : m_kd w a = ci + 1) (hci : ci < 11 ∧ m_nf ci = N ∧ j < N)
    (hlink : (Cond.fieldLink own index ref (T j).2.1 (T j).2.2.1).before args s = true) (hsame : ∀ x, s.fieldFound? (T j).1 (T j).2.1 (T j).2.2.1 = some x → s.fieldFound? ref (T j).2.1 (T j).2.2.1 = some x) (hfin : (T j).2.2.2 = false ∨ ((T j).2.2.2 = true ∧ meth.name = "<init>" ∧ (T j).1 = own)) {ty : FieldType} {v : Value} (hd : parseFieldDescriptor (T j).2.2.1 = some ty) (hn : narrow ty v = v) (hfit : fits ty v = true) (hdg : decode cc pc = .ok (.putfield index, 3))
    {w' : mW} (hw : m_kd w' = m_kd w ∧ m_ln w' = m_ln w ∧ m_nx w' = m_nx w) (hw2 : ∀ b, b ≠ a → m_e G w' b (m_kd w b) = m_e G w b (m_kd w b)) (hw3 : (m_fs w ci a).set j v = m_fs w' ci a)
    (kk : ∀ (H1 : Heap) (locs1 : List Loc), mP G w' H1 → va_S (fun q => G.1 ≤ q) H0 H1 locs1 → W p l e R s m args below meth c H1 locs1 cells slots Q (F0 m (pc + 3) ls rest)) : W p l e R s m args below meth c H locs cells slots Q (F0 m pc ls (v :: .ref a :: rest)) := by
  obtain ⟨g1, g2, g3⟩ := hci
  have hap := va_apart (own := own) hts hin ty0 hty hnm hK hc
  obtain ⟨r, h1, cell, q1, q2, q3, q4⟩ := m_obj hP hk g1 0 _ rfl
  have hr : r = (C, T, N) := Option.some.inj (h1.symm.trans hc)
  subst hr
  obtain ⟨hS1, hfc, kC, hkC, hkind⟩ := hK.1 ci _ hc
  obtain ⟨cf, kf, fi, f, hi, hsl⟩ := hS1 j g3
  have hlay := hts _ (hin _ (u_in_lay g3))
  have hst := (u_facts hfc hkC (u_lays hts hin g3) hi).1
  have hlen : j < (m_fs w ci a).length := by rw [m_fs_len]; omega
  have key : ∀ H' : Heap, H'[a]? = some (cell.setSlot f.slot v) → H'.size = H.size → (∀ q, q ≠ a → H'[q]? = H[q]?) → mP G w' H' := by
    intro H' e1 e2 e3
    refine mP_up hP (by omega) hw.1 hw.2.1 hw.2.2 hw2 ?_ e2 e3
    rw [hk, m_e_o g1, ← hw3]
    rw [hsl] at e1
    exact ⟨_, hc, t_OB.to (V := updV (vp_V (m_fs w ci a)) j v) ⟨_, e1, q2, q3, t_set q4 hap g3 v⟩ (fun j _ => vp_updV_set hlen v j)⟩
  have hA : G.1 ≤ a := m_own hP (by omega) (Or.inl (by omega))
  rcases hfin with hfin | ⟨hfin, hin2, hdecl⟩
  · unfold u_lay at hlay
    rw [if_neg (by rw [hfin]; decide)] at hlay
    have h6 := u_store hfc hkC hkind hlay hi hd hn hfit
    refine W.putK hexec hb (f := f) ⟨hown, hlink, ⟨_, _, _, hsame _ hi⟩, hst⟩ (by rw [q2]; exact h6) q1 q3 (by rw [hsl]; exact k2_hasslot (q4 j g3)) rfl rfl hdg fun H' e1 e2 e3 => ?_
    exact kk H' _ (key H' e1 e2 e3) (hS.put e2 e3 hA)
  · unfold u_lay at hlay
    rw [if_pos hfin] at hlay
    have hcf : m.cls = cf := by
      obtain ⟨_, _, c', _, _, _, -, -, hf', -, -, -, hown2, -⟩ := Cond.laysFinal_spec hlay
      have e1 : c' = cf := by have := hi.symm.trans hf'; simp at this; exact this.1.symm
      rw [hdecl] at hown2
      rw [← e1]; exact Option.some.inj (hown.symm.trans hown2)
    have h6 := u_fits hfc hkC hkind (Or.inr hlay) hi hd hn hfit
    refine W.putFinK hexec hb hown hlink (hsame _ hi) hst hcf hin2 (by rw [q2]; exact h6) q1 q3 (by rw [hsl]; exact k2_hasslot (q4 j g3)) rfl rfl hdg fun H' e1 e2 e3 => ?_
    exact kk H' _ (key H' e1 e2 e3) (hS.put e2 e3 hA)
theorem m_putI (hexec : p.tables.exec = Jvm.exec) (hb : c.code = cc) {own ref C : String} {T : u_T} {N index : Nat} {Ts : List Cond} (hts : ∀ w ∈ Ts, w.before args s = true) (hin : ∀ w ∈ u_ws C T N, w ∈ Ts) (ty0 : Nat → FieldType) (hty : ∀ k, k < N → parseFieldDescriptor (T k).2.2.1 = some (ty0 k)) (hnm : ∀ a, a < N → ∀ b, b < N → a ≠ b → (T a).2.1 ≠ (T b).2.1) (hown : s.vm.findClass own = some m.cls) (hK : va_K G.2.1 vwCl (m_tys G) s) (hP : mP G w H) (hS : va_S (fun q => G.1 ≤ q) H0 H locs) (ci : Nat) (hc : vwCl[ci]? = some (C, T, N)) (j : Nat) (hk : m_kd w a = ci + 1) (hci : ci < 11 ∧ m_nf ci = N ∧ j < N ∧ m_isR ci j = false)
    (hlink : (Cond.fieldLink own index ref (T j).2.1 (T j).2.2.1).before args s = true) (hsame : ∀ x, s.fieldFound? (T j).1 (T j).2.1 (T j).2.2.1 = some x → s.fieldFound? ref (T j).2.1 (T j).2.2.1 = some x) (hfin : (T j).2.2.2 = false ∨ ((T j).2.2.2 = true ∧ meth.name = "<init>" ∧ (T j).1 = own)) {ty : FieldType} {x : Int32} (hd : parseFieldDescriptor (T j).2.2.1 = some ty) (hn : narrow ty (.int x) = .int x ∧ fits ty (.int x) = true) (hdg : decode cc pc = .ok (.putfield index, 3))
    (kk : ∀ (H1 : Heap) (locs1 : List Loc), mP G (m_sI w ci j a x) H1 → va_S (fun q => G.1 ≤ q) H0 H1 locs1 → W p l e R s m args below meth c H1 locs1 cells slots Q (F0 m (pc + 3) ls rest)) : W p l e R s m args below meth c H locs cells slots Q (F0 m pc ls (.int x :: .ref a :: rest)) := by
  obtain ⟨h1, h2, h3, h4⟩ := hci
  exact m_putK (w' := m_sI w ci j a x) hexec hb hts hin ty0 hty hnm hown hK hP hS ci hc j hk ⟨h1, h2, h3⟩ hlink hsame hfin hd hn.1 hn.2 hdg ⟨rfl, rfl, rfl⟩ (fun b e => m_e_congr _ (fun c' j' => by simp [m_fi, m_sI, m_u3, e]) (fun _ _ => rfl) rfl rfl rfl rfl) (m_fs_setI h4 (by omega)) kk
theorem m_putR (hexec : p.tables.exec = Jvm.exec) (hb : c.code = cc) {own ref C : String} {T : u_T} {N index : Nat} {Ts : List Cond} (hts : ∀ w ∈ Ts, w.before args s = true) (hin : ∀ w ∈ u_ws C T N, w ∈ Ts) (ty0 : Nat → FieldType) (hty : ∀ k, k < N → parseFieldDescriptor (T k).2.2.1 = some (ty0 k)) (hnm : ∀ a, a < N → ∀ b, b < N → a ≠ b → (T a).2.1 ≠ (T b).2.1) (hown : s.vm.findClass own = some m.cls) (hK : va_K G.2.1 vwCl (m_tys G) s) (hP : mP G w H) (hS : va_S (fun q => G.1 ≤ q) H0 H locs) (ci : Nat) (hc : vwCl[ci]? = some (C, T, N)) (j : Nat) (hk : m_kd w a = ci + 1) (hci : ci < 11 ∧ m_nf ci = N ∧ j < N ∧ m_isR ci j = true)
    (hlink : (Cond.fieldLink own index ref (T j).2.1 (T j).2.2.1).before args s = true) (hsame : ∀ x, s.fieldFound? (T j).1 (T j).2.1 (T j).2.2.1 = some x → s.fieldFound? ref (T j).2.1 (T j).2.2.1 = some x) (hfin : (T j).2.2.2 = false ∨ ((T j).2.2.2 = true ∧ meth.name = "<init>" ∧ (T j).1 = own)) {ty : FieldType} {x : Nat} (hd : parseFieldDescriptor (T j).2.2.1 = some ty) (hn : narrow ty (.ref x) = .ref x ∧ fits ty (.ref x) = true) (hdg : decode cc pc = .ok (.putfield index, 3))
    (kk : ∀ (H1 : Heap) (locs1 : List Loc), mP G (m_sR w ci j a (some x)) H1 → va_S (fun q => G.1 ≤ q) H0 H1 locs1 → W p l e R s m args below meth c H1 locs1 cells slots Q (F0 m (pc + 3) ls rest)) : W p l e R s m args below meth c H locs cells slots Q (F0 m pc ls (.ref x :: .ref a :: rest)) := by
  obtain ⟨h1, h2, h3, h4⟩ := hci
  exact m_putK (w' := m_sR w ci j a (some x)) hexec hb hts hin ty0 hty hnm hown hK hP hS ci hc j hk ⟨h1, h2, h3⟩ hlink hsame hfin hd hn.1 hn.2 hdg ⟨rfl, rfl, rfl⟩ (fun b e => m_e_congr _ (fun _ _ => rfl) (fun c' j' => by simp [m_fr, m_sR, m_u3, e]) rfl rfl rfl rfl) (m_fs_setR (v := some x) h4 (by omega)) kk
theorem m_tyI (k : Nat) {ty : FieldType} {i : Nat} {s : State} (hK : va_K G.2.1 vwCl (m_tys G) s) (h : (m_tys G)[i]? = some (G.2.2.1 k, ty)) : ArrOfT s (G.2.2.1 k) ty := (hK.2 i _ h).1
theorem m_iald (hexec : p.tables.exec = Jvm.exec) (hb : c.code = cc) (hK : va_K G.2.1 vwCl (m_tys G) s) (hP : mP G w H) {i : Int32} (hk : m_kd w a = 21 ∧ ¬ (i < 0 ∨ m_ln w a ≤ i.toNatClampNeg)) (hdg : decode cc pc = .ok (.iaload, 1))
    (kk : W p l e R s m args below meth c H locs cells slots Q (F0 m (pc + 1) ls (.int (m_ia w a i.toNatClampNeg) :: rest))) : W p l e R s m args below meth c H locs cells slots Q (F0 m pc ls (.int i :: .ref a :: rest)) :=
  va_iald (ws := [(a, .inl (G.2.2.1 21, m_ln w a, .inl (m_ia w a)))]) hexec hb hK (fun k q hq => by cases k with | zero => cases hq; exact m_arrI hP hk.1 (Or.inl rfl) | succ k => cases hq) 0 0 rfl rfl hk.2 hdg kk
theorem m_zald (hexec : p.tables.exec = Jvm.exec) (hb : c.code = cc) (hK : va_K G.2.1 vwCl (m_tys G) s) (hP : mP G w H) {i : Int32} (hk : m_kd w a = 22 ∧ ¬ (i < 0 ∨ m_ln w a ≤ i.toNatClampNeg)) (hdg : decode cc pc = .ok (.baload, 1))
    (kk : W p l e R s m args below meth c H locs cells slots Q (F0 m (pc + 1) ls (.int (m_ia w a i.toNatClampNeg) :: rest))) : W p l e R s m args below meth c H locs cells slots Q (F0 m pc ls (.int i :: .ref a :: rest)) :=
  va_zald (ws := [(a, .inl (G.2.2.1 22, m_ln w a, .inl (m_ia w a)))]) hexec hb hK (fun k q hq => by cases k with | zero => cases hq; exact m_arrI hP hk.1 (Or.inr (Or.inl rfl)) | succ k => cases hq) 0 1 rfl rfl hk.2 hdg kk
theorem m_bald (hexec : p.tables.exec = Jvm.exec) (hb : c.code = cc) (hK : va_K G.2.1 vwCl (m_tys G) s) (hP : mP G w H) {i : Int32} (hk : m_kd w a = 24 ∧ ¬ (i < 0 ∨ m_ln w a ≤ i.toNatClampNeg)) (hdg : decode cc pc = .ok (.baload, 1))
    (kk : W p l e R s m args below meth c H locs cells slots Q (F0 m (pc + 1) ls (.int (m_ia w a i.toNatClampNeg) :: rest))) : W p l e R s m args below meth c H locs cells slots Q (F0 m pc ls (.int i :: .ref a :: rest)) :=
  va_bald (ws := [(a, .inl (G.2.2.1 24, m_ln w a, .inl (m_ia w a)))]) hexec hb hK (fun k q hq => by cases k with | zero => cases hq; exact m_arrI hP hk.1 (Or.inr (Or.inr rfl)) | succ k => cases hq) 0 3 rfl rfl hk.2 hdg kk
theorem m_aald (hexec : p.tables.exec = Jvm.exec) (hb : c.code = cc) (hK : va_K G.2.1 vwCl (m_tys G) s) (hP : mP G w H) {i : Int32} {r : Nat} (hk : m_kd w a = 23 ∧ ¬ (i < 0 ∨ m_ln w a ≤ i.toNatClampNeg) ∧ m_oa w a i.toNatClampNeg = some r) (hdg : decode cc pc = .ok (.aaload, 1))
    (kk : W p l e R s m args below meth c H locs cells slots Q (F0 m (pc + 1) ls (.ref r :: rest))) : W p l e R s m args below meth c H locs cells slots Q (F0 m pc ls (.int i :: .ref a :: rest)) :=
  va_aldq (C := "java/lang/Object") (ws := [(a, .inl (G.2.2.1 23, m_ln w a, .inr (.inr (.inr (.inr (m_oa w a))))))]) hexec hb hK (fun k q hq => by cases k with | zero => cases hq; exact m_arrQ hP hk.1 (m_pl hk.2.1) | succ k => cases hq) 0 2 rfl rfl hk.2.1 hdg (by rw [hk.2.2]; exact kk)
theorem m_lald (hexec : p.tables.exec = Jvm.exec) (hb : c.code = cc) (hK : va_K G.2.1 vwCl (m_tys G) s) (hP : mP G w H) {i : Int32} (hk : m_kd w a = 25 ∧ ¬ (i < 0 ∨ m_ln w a ≤ i.toNatClampNeg)) (hdg : decode cc pc = .ok (.laload, 1))
    (kk : W p l e R s m args below meth c H locs cells slots Q (F0 m (pc + 1) ls (.long (m_la w a i.toNatClampNeg) :: rest))) : W p l e R s m args below meth c H locs cells slots Q (F0 m pc ls (.int i :: .ref a :: rest)) :=
  va_lald (ws := [(a, .inl (G.2.2.1 25, m_ln w a, .inr (.inl (m_la w a))))]) hexec hb hK (fun k q hq => by cases k with | zero => cases hq; exact m_arrL hP hk.1 | succ k => cases hq) 0 4 rfl rfl hk.2 hdg kk
theorem m_alen (hexec : p.tables.exec = Jvm.exec) (hb : c.code = cc) (hK : va_K G.2.1 vwCl (m_tys G) s) (hP : mP G w H) (hk : 21 ≤ m_kd w a ∧ m_kd w a ≤ 25) (hdg : decode cc pc = .ok (.arraylength, 1))
    (kk : W p l e R s m args below meth c H locs cells slots Q (F0 m (pc + 1) ls (.int (nI (m_ln w a)) :: rest))) : W p l e R s m args below meth c H locs cells slots Q (F0 m pc ls (.ref a :: rest)) := by
  have hc : m_kd w a = 21 ∨ m_kd w a = 22 ∨ m_kd w a = 23 ∨ m_kd w a = 24 ∨ m_kd w a = 25 := by omega
  rcases hc with h | h | h | h | h
  · exact va_alen (ws := [(a, .inl (G.2.2.1 21, m_ln w a, .inl (m_ia w a)))]) hexec hb hK (fun k q hq => by cases k with | zero => cases hq; exact m_arrI hP h (Or.inl rfl) | succ k => cases hq) 0 0 rfl rfl rfl hdg kk
  · exact va_alen (ws := [(a, .inl (G.2.2.1 22, m_ln w a, .inl (m_ia w a)))]) hexec hb hK (fun k q hq => by cases k with | zero => cases hq; exact m_arrI hP h (Or.inr (Or.inl rfl)) | succ k => cases hq) 0 1 rfl rfl rfl hdg kk
  · obtain ⟨ce, g1, g2, g3, g4, g5⟩ := m_arrW hP h
    obtain ⟨-, kA, k1, k2⟩ := (hK.2 2 _ rfl).1 (m_ln w a) (fun j => va_rf (m_oa w a j))
    exact W.alen (n := Int32.ofNat (m_ln w a)) hexec hb g1 ⟨(fun q z => by rw [z] at g4; cases g4), kA, (by rw [g2]; exact k1), k2⟩ (by rw [g5, vp_cell_q, arrV_size] <;> rfl) rfl rfl hdg kk
  · exact va_alen (ws := [(a, .inl (G.2.2.1 24, m_ln w a, .inl (m_ia w a)))]) hexec hb hK (fun k q hq => by cases k with | zero => cases hq; exact m_arrI hP h (Or.inr (Or.inr rfl)) | succ k => cases hq) 0 3 rfl rfl rfl hdg kk
  · exact va_alen (ws := [(a, .inl (G.2.2.1 25, m_ln w a, .inr (.inl (m_la w a))))]) hexec hb hK (fun k q hq => by cases k with | zero => cases hq; exact m_arrL hP h | succ k => cases hq) 0 4 rfl rfl rfl hdg kk
theorem m_iast (hexec : p.tables.exec = Jvm.exec) (hb : c.code = cc) (hK : va_K G.2.1 vwCl (m_tys G) s) (hP : mP G w H) (hS : va_S (fun q => G.1 ≤ q) H0 H locs) {i x : Int32} (hk : m_kd w a = 21 ∧ ¬ (i < 0 ∨ m_ln w a ≤ i.toNatClampNeg)) (hdg : decode cc pc = .ok (.iastore, 1))
    (kk : ∀ (H1 : Heap) (locs1 : List Loc), mP G (m_sA w a i.toNatClampNeg x) H1 → va_S (fun q => G.1 ≤ q) H0 H1 locs1 → W p l e R s m args below meth c H1 locs1 cells slots Q (F0 m (pc + 1) ls rest)) : W p l e R s m args below meth c H locs cells slots Q (F0 m pc ls (.int x :: .int i :: .ref a :: rest)) := by
  obtain ⟨h1, h2⟩ := hk
  refine W.iast hexec hb (m_arrI hP h1 (Or.inl rfl)) ((hK.2 0 _ rfl).1 (m_ln w a) (fun j => .int (m_ia w a j))) (fun q => by cases q) (by show ¬ (i < 0 ∨ (arrV _ _ _).slots.size ≤ _); rw [arrV_size]; exact h2) rfl rfl hdg fun H1 e z oq => ?_
  refine kk H1 _ (mP_up hP (by omega) rfl rfl rfl (fun b hb => m_e_congr _ (fun _ _ => rfl) (fun _ _ => rfl) rfl (by simp [m_ia, m_sA, va_up, hb]) rfl rfl) ?_ z oq) (hS.put z oq (m_own hP (by omega) (Or.inl (by omega))))
  rw [h1]
  show H1[a]? = some (vp_cell _ _)
  rw [e]
  rw [vp_cell_i, vp_cell_i, arrV_store]
  congr 2
  funext q
  by_cases hq : q = i.toNatClampNeg
  · subst hq
    simp [updV, upd, m_ia, m_sA, va_up]
  · simp [updV, upd, hq, m_ia, m_sA, va_up]
theorem m_zast (hexec : p.tables.exec = Jvm.exec) (hb : c.code = cc) (hK : va_K G.2.1 vwCl (m_tys G) s) (hP : mP G w H) (hS : va_S (fun q => G.1 ≤ q) H0 H locs) {i x : Int32} (hk : m_kd w a = 22 ∧ ¬ (i < 0 ∨ m_ln w a ≤ i.toNatClampNeg)) (hdg : decode cc pc = .ok (.bastore, 1))
    (kk : ∀ (H1 : Heap) (locs1 : List Loc), mP G (m_sA w a i.toNatClampNeg (vp_nar .boolean x)) H1 → va_S (fun q => G.1 ≤ q) H0 H1 locs1 → W p l e R s m args below meth c H1 locs1 cells slots Q (F0 m (pc + 1) ls rest)) : W p l e R s m args below meth c H locs cells slots Q (F0 m pc ls (.int x :: .int i :: .ref a :: rest)) := by
  obtain ⟨h1, h2⟩ := hk
  refine W.zast hexec hb (m_arrI hP h1 (Or.inr (Or.inl rfl))) ((hK.2 1 _ rfl).1 (m_ln w a) (fun j => .int (m_ia w a j))) (fun q => by cases q) (by show ¬ (i < 0 ∨ (arrV _ _ _).slots.size ≤ _); rw [arrV_size]; exact h2) rfl rfl hdg fun H1 e z oq => ?_
  refine kk H1 _ (mP_up hP (by omega) rfl rfl rfl (fun b hb => m_e_congr _ (fun _ _ => rfl) (fun _ _ => rfl) rfl (by simp [m_ia, m_sA, va_up, hb]) rfl rfl) ?_ z oq) (hS.put z oq (m_own hP (by omega) (Or.inl (by omega))))
  rw [h1]
  show H1[a]? = some (vp_cell _ _)
  rw [e]
  rw [vp_cell_i, vp_cell_i, arrV_store]
  congr 2
  funext q
  by_cases hq : q = i.toNatClampNeg
  · subst hq
    simp [updV, upd, m_ia, m_sA, va_up, vp_nar]
    try rfl
  · simp [updV, upd, hq, m_ia, m_sA, va_up]
theorem m_bast (hexec : p.tables.exec = Jvm.exec) (hb : c.code = cc) (hK : va_K G.2.1 vwCl (m_tys G) s) (hP : mP G w H) (hS : va_S (fun q => G.1 ≤ q) H0 H locs) {i x : Int32} (hk : m_kd w a = 24 ∧ ¬ (i < 0 ∨ m_ln w a ≤ i.toNatClampNeg)) (hdg : decode cc pc = .ok (.bastore, 1))
    (kk : ∀ (H1 : Heap) (locs1 : List Loc), mP G (m_sA w a i.toNatClampNeg (vp_nar .byte x)) H1 → va_S (fun q => G.1 ≤ q) H0 H1 locs1 → W p l e R s m args below meth c H1 locs1 cells slots Q (F0 m (pc + 1) ls rest)) : W p l e R s m args below meth c H locs cells slots Q (F0 m pc ls (.int x :: .int i :: .ref a :: rest)) := by
  obtain ⟨h1, h2⟩ := hk
  refine W.bast hexec hb (m_arrI hP h1 (Or.inr (Or.inr rfl))) ((hK.2 3 _ rfl).1 (m_ln w a) (fun j => .int (m_ia w a j))) (fun q => by cases q) (by show ¬ (i < 0 ∨ (arrV _ _ _).slots.size ≤ _); rw [arrV_size]; exact h2) rfl rfl hdg fun H1 e z oq => ?_
  refine kk H1 _ (mP_up hP (by omega) rfl rfl rfl (fun b hb => m_e_congr _ (fun _ _ => rfl) (fun _ _ => rfl) rfl (by simp [m_ia, m_sA, va_up, hb]) rfl rfl) ?_ z oq) (hS.put z oq (m_own hP (by omega) (Or.inl (by omega))))
  rw [h1]
  show H1[a]? = some (vp_cell _ _)
  rw [e]
  rw [vp_cell_i, vp_cell_i, arrV_store]
  congr 2
  funext q
  by_cases hq : q = i.toNatClampNeg
  · subst hq
    simp [updV, upd, m_ia, m_sA, va_up, vp_nar]
    try rfl
  · simp [updV, upd, hq, m_ia, m_sA, va_up]
theorem m_last (hexec : p.tables.exec = Jvm.exec) (hb : c.code = cc) (hK : va_K G.2.1 vwCl (m_tys G) s) (hP : mP G w H) (hS : va_S (fun q => G.1 ≤ q) H0 H locs) {i : Int32} {x : Int64} (hk : m_kd w a = 25 ∧ ¬ (i < 0 ∨ m_ln w a ≤ i.toNatClampNeg)) (hdg : decode cc pc = .ok (.lastore, 1))
    (kk : ∀ (H1 : Heap) (locs1 : List Loc), mP G (m_sL w a i.toNatClampNeg x) H1 → va_S (fun q => G.1 ≤ q) H0 H1 locs1 → W p l e R s m args below meth c H1 locs1 cells slots Q (F0 m (pc + 1) ls rest)) : W p l e R s m args below meth c H locs cells slots Q (F0 m pc ls (.long x :: .int i :: .ref a :: rest)) := by
  obtain ⟨h1, h2⟩ := hk
  refine W.last hexec hb (m_arrL hP h1) ((hK.2 4 _ rfl).1 (m_ln w a) (fun j => .long (m_la w a j))) (fun q => by cases q) (by show ¬ (i < 0 ∨ (arrV _ _ _).slots.size ≤ _); rw [arrV_size]; exact h2) rfl rfl hdg fun H1 e z oq => ?_
  refine kk H1 _ (mP_up hP (by omega) rfl rfl rfl (fun b hb => m_e_congr _ (fun _ _ => rfl) (fun _ _ => rfl) rfl rfl rfl (by simp [m_la, m_sL, va_up, hb])) ?_ z oq) (hS.put z oq (m_own hP (by omega) (Or.inl (by omega))))
  rw [h1]
  show H1[a]? = some (vp_cell _ _)
  rw [e]
  rw [vp_cell_l, vp_cell_l, arrV_store]
  congr 2
  funext q
  by_cases hq : q = i.toNatClampNeg
  · subst hq
    simp [updV, vp_updL, m_la, m_sL, va_up]
  · simp [updV, vp_updL, hq, m_la, m_sL, va_up]
theorem m_aastN (hexec : p.tables.exec = Jvm.exec) (hb : c.code = cc) (hK : va_K G.2.1 vwCl (m_tys G) s) (hP : mP G w H) (hS : va_S (fun q => G.1 ≤ q) H0 H locs) {i : Int32} (hk : m_kd w a = 23 ∧ ¬ (i < 0 ∨ m_ln w a ≤ i.toNatClampNeg)) (hdg : decode cc pc = .ok (.aastore, 1))
    (kk : ∀ (H1 : Heap) (locs1 : List Loc), mP G (m_sO w a i.toNatClampNeg none) H1 → va_S (fun q => G.1 ≤ q) H0 H1 locs1 → W p l e R s m args below meth c H1 locs1 cells slots Q (F0 m (pc + 1) ls rest)) : W p l e R s m args below meth c H locs cells slots Q (F0 m pc ls (.null :: .int i :: .ref a :: rest)) := by
  obtain ⟨h1, h2⟩ := hk
  refine va_WaastN (C := "java/lang/Object") hexec hb (m_arrQ hP h1 (m_pl h2)) ((hK.2 2 _ rfl).1 (m_ln w a) (fun j => va_rf (m_oa w a j))) (fun q => by cases q) (by show ¬ (i < 0 ∨ (arrV _ _ _).slots.size ≤ _); rw [arrV_size]; exact h2) rfl rfl hdg fun H1 e z oq => ?_
  refine kk H1 _ (mP_up hP (by omega) rfl rfl rfl (fun b hb => m_e_congr _ (fun _ _ => rfl) (fun _ _ => rfl) rfl rfl (by simp [m_oa, m_sO, va_up, hb]) rfl) ?_ z oq) (hS.put z oq (m_own hP (by omega) (Or.inr (by omega))))
  rw [h1]
  show H1[a]? = some (vp_cell _ _)
  rw [e]
  rw [vp_cell_q, vp_cell_q, arrV_store]
  congr 2
  funext q
  by_cases hq : q = i.toNatClampNeg
  · subst hq
    simp [updV, va_rf, m_oa, m_sO, va_up]
  · simp [updV, va_rf, hq, m_oa, m_sO, va_up]
theorem m_aast (hexec : p.tables.exec = Jvm.exec) (hb : c.code = cc) (hK : va_K G.2.1 vwCl (m_tys G) s) (hP : mP G w H) (hS : va_S (fun q => G.1 ≤ q) H0 H locs) {i : Int32} {v : Nat} (hr : va_Any "java/lang/Object" s H v) (hk : m_kd w a = 23 ∧ ¬ (i < 0 ∨ m_ln w a ≤ i.toNatClampNeg)) (hdg : decode cc pc = .ok (.aastore, 1))
    (kk : ∀ (H1 : Heap) (locs1 : List Loc), mP G (m_sO w a i.toNatClampNeg (some v)) H1 → va_S (fun q => G.1 ≤ q) H0 H1 locs1 → W p l e R s m args below meth c H1 locs1 cells slots Q (F0 m (pc + 1) ls rest)) : W p l e R s m args below meth c H locs cells slots Q (F0 m pc ls (.ref v :: .int i :: .ref a :: rest)) := by
  obtain ⟨h1, h2⟩ := hk
  have hlt : i.toNatClampNeg < m_ln w a := Nat.not_le.mp fun q => h2 (Or.inr q)
  have h0 : ¬ i < 0 := fun q => h2 (Or.inl q)
  obtain ⟨cellV, g1, g3, ⟨kC, hkC⟩, hasg⟩ := hr
  obtain ⟨kA, comp, k1, k2, k3, -⟩ := (hK.2 2 _ rfl).2
  obtain ⟨kE, hkE, -⟩ := Vm.findClass_spec k3
  refine W.aast hexec hb (m_arrQ hP h1 (m_pl h2)) (fun q h => by cases h) (fun h => by cases h) k1 k2 rfl hkE ⟨h0, by show _ < (arrV _ _ _).slots.size; rw [arrV_size]; exact hlt⟩ g1 (fun q h => by rw [h] at g3; cases g3) hkC (hasg _ k3) rfl rfl hdg fun H1 e z oq => ?_
  refine kk H1 _ (mP_up hP (by omega) rfl rfl rfl (fun b hb => m_e_congr _ (fun _ _ => rfl) (fun _ _ => rfl) rfl rfl (by simp [m_oa, m_sO, va_up, hb]) rfl) ?_ z oq) (hS.put z oq (m_own hP (by omega) (Or.inr (by omega))))
  rw [h1]
  show H1[a]? = some (vp_cell _ _)
  rw [e]
  rw [vp_cell_q, vp_cell_q, arrV_store]
  congr 2
  funext q
  by_cases hq : q = i.toNatClampNeg
  · subst hq
    simp [updV, va_rf, m_oa, m_sO, va_up]
  · simp [updV, va_rf, hq, m_oa, m_sO, va_up]
/-- an object of a class of ours may lie in a row of objects -/
theorem m_any {v ci : Nat} {C : String} {T : u_T} {N : Nat} (hK : va_K G.2.1 vwCl (m_tys G) s) (hP : mP G w H) (hk : m_kd w v = ci + 1) (h : ci < 11) (hc : vwCl[ci]? = some (C, T, N)) (hn : va_Nw (.castable C "java/lang/Object") s) : va_Any "java/lang/Object" s H v := by
  refine va_rAny (r := (C, T, N)) (q0 := 0) hK (m_obj hP hk h) rfl hc (fun comp c0 h1 h2 => ?_)
  obtain ⟨c1, t1, f1, f2, f3⟩ := Cond.castable_spec (va_Nw.use (A := #[]) rfl hn)
  cases h1.symm.trans f2
  cases h2.symm.trans f1
  exact f3
theorem m_new (hexec : p.tables.exec = Jvm.exec) (hb : c.code = cc) {own C : String} {T : u_T} {N index : Nat} {Ts : List Cond} (hts : ∀ w ∈ Ts, w.before args s = true) (hin : ∀ w ∈ u_ws C T N, w ∈ Ts) (ty : Nat → FieldType) (hty : ∀ k, k < N → parseFieldDescriptor (T k).2.2.1 = some (ty k)) (hown : s.vm.findClass own = some m.cls) (hcl : (Cond.classLink own index C).before args s = true) (hinst : (Cond.instantiable C N).before args s = true) (hini : (Cond.initialized C).before args s = true)
    (hK : va_K G.2.1 vwCl (m_tys G) s) (hP : mP G w H) (hS : va_S (fun q => G.1 ≤ q) H0 H locs) (ci : Nat) (hc : vwCl[ci]? = some (C, T, N)) (hci : ci < 11 ∧ m_nf ci = N ∧ ∀ j, j < N → defaultValue (ty j) = if m_isR ci j = true then .null else .int 0) (hcells : cells + 1 ≤ R.cells) (hslots : slots + N ≤ R.slots) (hdg : decode cc pc = .ok (.new index, 3))
    (kk : ∀ (H1 : Heap), mP G (m_nO w ci) H1 → va_S (fun q => G.1 ≤ q) H0 H1 locs →
      W p l e R s m args below meth c H1 locs (cells + 1) (slots + N) Q (F0 m (pc + 3) ls (.ref (m_nx w) :: rest))) : W p l e R s m args below meth c H locs cells slots Q (F0 m pc ls rest) := by
  have hKn := hK.1 ci _ hc
  refine W.newcK hexec hb hown hcl hinst hini rfl hdg hcells hslots hKn.2.1 hP.2.1 fun H1 kC hkC e1 z1 o1 => ?_
  refine kk H1 (mP_new hP rfl (fun _ _ => rfl) rfl (fun b hb => m_e_congr _ (fun _ _ => by simp [m_fi, m_nO, m_ua, hb]) (fun _ _ => by simp [m_fr, m_nO, m_ua, hb]) rfl rfl rfl rfl) ?_ (by rw [z1, hP.2.1]) (fun q hq => o1 q (by rw [← hP.2.1]; exact hq))) ⟨Nat.le_trans hS.1 (by rw [z1, hP.2.1]; exact Nat.le_succ _), fun x h1 h2 => (o1 x (by rw [← hP.2.1]; exact Nat.lt_of_lt_of_le h1 hS.1)).trans (hS.2.1 x h1 h2), hS.2.2⟩
  rw [m_e_o hci.1]
  refine ⟨_, hc, (u_born ty hts hin hKn hkC e1 hty).to (fun j hj => ?_)⟩
  rw [hci.2.2 j hj]
  simp only [vp_V, List.getD_eq_getElem?_getD, m_fs_get (show j < m_nf ci by rw [hci.2.1]; exact hj), Option.getD_some, m_fv, m_fi, m_fr, m_nO, m_ua, if_true]
  split <;> rfl
theorem m_newA (k : Nat) (hexec : p.tables.exec = Jvm.exec) (hb : c.code = cc) {atype : ArrayType} (harr : (Cond.arrayClass (newarray.typeOf atype)).before args s = true) {ty : FieldType} (hty : newarray.typeOf atype = ty) (hK : va_K G.2.1 vwCl (m_tys G) s) (hP : mP G w H) (hS : va_S (fun q => G.1 ≤ q) H0 H locs) {t0 : Nat} (ht : (m_tys G)[t0]? = some (G.2.2.1 k, ty)) (hk : (k = 21 ∨ k = 22 ∨ k = 24 ∨ k = 25) ∧ "[" ++ (newarray.typeOf atype).toString = "[" ++ ty.toString ∧ (∀ U : State, ∀ cA : ClassId, va_RA U cA ty → U.vm.findClass ("[" ++ ty.toString) = some cA) ∧ defaultValue ty = if k = 25 then .long 0 else .int 0)
    {n : Int32} {N : Nat} (hn : ¬ n < 0 ∧ n.toNatClampNeg ≤ N ∧ N ≤ 4000) (hcells : cells + 1 ≤ R.cells) (hslots : slots + N ≤ R.slots) (hdg : decode cc pc = .ok (.newarray atype, 2))
    (kk : ∀ (H1 : Heap), mP G (m_nA w k n.toNatClampNeg) H1 → va_S (fun q => G.1 ≤ q) H0 H1 locs →
      W p l e R s m args below meth c H1 locs (cells + 1) (slots + N) Q (F0 m (pc + 2) ls (.ref (m_nx w) :: rest))) : W p l e R s m args below meth c H locs cells slots Q (F0 m pc ls (.int n :: rest)) := by
  subst hty
  obtain ⟨hn, hN, hN2⟩ := hn
  have hcb : componentBytes (newarray.typeOf atype) ≤ 8 := by cases atype <;> decide
  refine va_newaK hexec hb harr rfl hdg rfl hn rfl (Nat.le_trans (Nat.mul_le_mul (Nat.le_trans hN hN2) hcb) (by decide)) hcells (by omega) hP.2.1 fun H1 cA e1 z1 o1 hAr hNm => ?_
  have hcA : cA = G.2.2.1 k := Option.some.inj (hNm.symm.trans (hk.2.2.1 _ _ (hK.2 t0 _ ht).2))
  subst hcA
  refine W.widen (Nat.le_refl _) (n := slots + N) (by omega) ?_
  refine kk H1 (mP_new hP rfl (fun b hb => by simp [m_ln, m_nA, va_up, hb]) rfl (fun b hb => m_e_congr _ (fun _ _ => rfl) (fun _ _ => rfl) (by simp [m_ln, m_nA, va_up, hb]) (by simp [m_ia, m_nA, va_up, hb]) (by simp [m_oa, m_nA, va_up, hb]) (by simp [m_la, m_nA, va_up, hb])) ?_ (by rw [z1, hP.2.1]) (fun q hq => o1 q (by rw [← hP.2.1]; exact hq))) ⟨Nat.le_trans hS.1 (by rw [z1, hP.2.1]; exact Nat.le_succ _), fun x h1 h2 => (o1 x (by rw [← hP.2.1]; exact Nat.lt_of_lt_of_le h1 hS.1)).trans (hS.2.1 x h1 h2), hS.2.2⟩
  have hd := hk.2.2.2
  rcases hk.1 with rfl | rfl | rfl | rfl <;> (show H1[m_nx w]? = some (vp_cell _ _); rw [e1, hd]; simp [vp_cell_i, vp_cell_l, m_ln, m_ia, m_la, m_nA, va_up])
theorem m_newQ (hexec : p.tables.exec = Jvm.exec) (hb : c.code = cc) {own : String} {index : Nat} (hown : s.vm.findClass own = some m.cls) (hclink : (Cond.classLink own index "java/lang/Object").before args s = true) (hover : va_AO "java/lang/Object" s) (hK : va_K G.2.1 vwCl (m_tys G) s) (hP : mP G w H) (hS : va_S (fun q => G.1 ≤ q) H0 H locs)
    {n : Int32} {N : Nat} (hn : ¬ n < 0 ∧ n.toNatClampNeg ≤ N ∧ N ≤ 4000) (hcells : cells + 1 ≤ R.cells) (hslots : slots + N ≤ R.slots) (hdg : decode cc pc = .ok (.anewarray index, 3))
    (kk : ∀ (H1 : Heap), mP G (m_nA w 23 n.toNatClampNeg) H1 → va_S (fun q => G.1 ≤ q) H0 H1 locs →
      W p l e R s m args below meth c H1 locs (cells + 1) (slots + N) Q (F0 m (pc + 3) ls (.ref (m_nx w) :: rest))) : W p l e R s m args below meth c H locs cells slots Q (F0 m pc ls (.int n :: rest)) := by
  obtain ⟨hn, hN, hN2⟩ := hn
  have hl : H.size = m_nx w := hP.2.1
  refine W.anew hexec hb hown hclink (va_AO.use hover) rfl hdg rfl hn (by omega) hcells (by omega) fun cA kA comp f1 f2 f3 f4 => ?_
  generalize hH1 : H.push ({ cls := cA, slots := Array.replicate n.toNatClampNeg .null, vm := .none } : Cell) = H1
  have z1 : H1.size = H.size + 1 := by rw [← hH1, Array.size_push]
  have e1 : H1[H.size]? = some (arrV cA n.toNatClampNeg (fun _ => .null)) := by rw [← hH1, Array.getElem?_push_size, ← arrV_new]
  have o1 : ∀ q : Nat, q < H.size → H1[q]? = H[q]? := fun q hq => by rw [← hH1, Array.getElem?_push, if_neg (Nat.ne_of_lt hq)]
  have hcA : cA = G.2.2.1 23 := by
    obtain ⟨-, -, -, -, -, h4⟩ := (hK.2 2 _ rfl).2
    exact Option.some.inj (f1.symm.trans h4)
  subst hcA
  refine W.widen (Nat.le_refl _) (n := slots + N) (by omega) ?_
  rw [hl]
  refine kk H1 (mP_new hP rfl (fun b hb => by simp [m_ln, m_nA, va_up, hb]) rfl (fun b hb => m_e_congr _ (fun _ _ => rfl) (fun _ _ => rfl) (by simp [m_ln, m_nA, va_up, hb]) (by simp [m_ia, m_nA, va_up, hb]) (by simp [m_oa, m_nA, va_up, hb]) (by simp [m_la, m_nA, va_up, hb])) ?_ z1 o1) ⟨Nat.le_trans hS.1 (by omega), fun x h1 h2 => (o1 x (Nat.lt_of_lt_of_le h1 hS.1)).trans (hS.2.1 x h1 h2), hS.2.2⟩
  show H1[m_nx w]? = some (vp_cell _ _)
  rw [← hl, e1]
  simp [vp_cell_q, m_ln, m_oa, m_nA, va_up, hl, va_rf]
end MROWS
/-! what stays given of every state: the tables, the statics that are read, the texts -/
def m_txt : List (Nat × String) := [(55, "there are 16 cells"), (255, "no such user"), (262, "no such cell"), (260, "no such name"), (81, "no such operation"), (88, "no operand"), (266, "the user may not do this"), (97, "the program has 6 statements"), (264, "no such place in the order"), (142, "no such place in the text"), (149, "the host is no guest"), (151, "no such right"), (161, "there were 400 runs"), (167, "there were more than 380 runs"), (268, "the name is unset"), (203, "there is no result"), (221, "there are 10 images"), (227, "no such image"), (241, "no such run in the log")]
def m_exc : List String := ["java/lang/IndexOutOfBoundsException", "java/lang/IllegalArgumentException", "java/lang/IllegalStateException"]
def m_nest : List (String × Nat × MethodName) := [(RX6, 30, yX4_init), (RX4, 11, yX2_init), (RX6, 37, yX2_init), (RX6, 44, yX0_init), (RX0, 11, yX2_init), (RX3, 45, yX6_isName), (RX2, 18, yX6_isName), (RX0, 52, yX6_isName), (RX5, 44, yX6_isName)]
def m_xn : List String := ["java/lang/RuntimeException", "java/lang/Exception", "java/lang/Throwable"]
def m_xw (U : State) : Prop := (∀ E ∈ m_exc, va_Nw (.castable E E) U) ∧ ∀ Y ∈ m_xn, va_Nw (.declares (Bundle.initS Y)) U
def mS1 (G : m_G) (U : State) : Prop := (∀ (ci : Nat) (q : vw_C), vwCl[ci]? = some q → va_Nw (.castable q.1 "java/lang/Object") U) ∧ m_xw U ∧ (∀ E ∈ m_exc, ∀ F ∈ m_exc, E ≠ F → va_Nc E F U) ∧ va_AO "java/lang/Object" U ∧ va_Mi "[Ljava/lang/Object;" G.2.2.2.2.1 U ∧ va_Dc U ∧ (∀ q ∈ m_txt, ∃ a : Nat, vk_R RX6 q.1 q.2 a U) ∧ ∀ q ∈ m_nest, va_Nw (.methodLinkNest q.1 q.2.1 q.2.2 RX6) U
def mS2 (G : m_G) (U : State) : Prop := va_Z "java/util/ArrayList" "DEFAULTCAPACITY_EMPTY_ELEMENTDATA" "[Ljava/lang/Object;" (.ref G.2.2.2.1) (fun q => G.1 ≤ q) U U.heap ∧ va_Z "java/lang/String" "COMPACT_STRINGS" "Z" (.int 1) (fun q => G.1 ≤ q) U U.heap ∧ vx_Zq Bundle.tN "UNASSIGNED_STACK" Bundle.steD (fun q => G.1 ≤ q) U U.heap ∧ vx_Zq Bundle.tN "SUPPRESSED_SENTINEL" Bundle.listD (fun q => G.1 ≤ q) U U.heap
  ∧ va_Z "java/lang/Integer" "DigitTens" "[B" (.ref G.2.2.2.2.2.1) (fun q => G.1 ≤ q) U U.heap ∧ va_T .byte G.2.2.2.2.2.1 100 (fun j => .int (nI (48 + j / 10))) (fun q => G.1 ≤ q) U U.heap ∧ va_Z "java/lang/Integer" "DigitOnes" "[B" (.ref G.2.2.2.2.2.2) (fun q => G.1 ≤ q) U U.heap ∧ va_T .byte G.2.2.2.2.2.2 100 (fun j => .int (nI (48 + j % 10))) (fun q => G.1 ≤ q) U U.heap
  ∧ va_Zq "jdk/internal/util/Preconditions" "SIOOBE_FORMATTER" "Ljava/util/function/BiFunction;" (fun q => G.1 ≤ q) U U.heap
def mS (G : m_G) (U : State) : Prop := va_K G.2.1 vwCl (m_tys G) U ∧ mS1 G U ∧ mS2 G U
theorem mS_mv {G : m_G} {u U : State} (hW : u.WarmedH U.vm) (hk : ∀ q : Nat, q < u.heap.size → ¬ G.1 ≤ q → U.heap[q]? = u.heap[q]?) (h : mS G u) : mS G U := by
  obtain ⟨h1, ⟨a1, a2, a3, a4, a5, a6, a7, a8⟩, b1, b2, b3, b4, b5, b6, b7, b8, b9⟩ := h
  have hvm := hW.alike
  exact ⟨h1.moved hvm, ⟨fun ci q hq => va_Nw.warmC hW (a1 ci q hq), ⟨fun E hE => va_Nw.warmC hW (a2.1 E hE), fun Y hY => va_Nw.warmD hW (a2.2 Y hY)⟩, fun E hE F hF hn => (a3 E hE F hF hn).moved hvm, a4.moved hvm, a5.moved hvm, a6.moved hvm, fun q hq => (a7 q hq).imp fun a ha => ha.warm hW, fun q hq => va_Nw.warmM hW (a8 q hq)⟩,
    (b1.moved hvm).kept hk, (b2.moved hvm).kept hk, (b3.moved hvm).kept hk, (b4.moved hvm).kept hk, (b5.moved hvm).kept hk, (b6.moved hvm).kept hk, (b7.moved hvm).kept hk, (b8.moved hvm).kept hk, (b9.moved hvm).kept hk⟩
/-- a method's start and its ends, over my worlds -/
def m_Pc (G : m_G) (w : mW) (av : List Value) : Array Value → State → Prop := va_Pc av (fun U => mS G U ∧ mP G w U.heap)
def m_A (G : m_G) : Nat → Prop := fun q => G.1 ≤ q
def m_Qi (G : m_G) (r : Int32) (w' : mW) : Array Value → State → Outcome → State → Prop := va_Qi (S := mW) (fun r2 u => r2 = r ∧ u = w') (fun u t => mP G u t.heap) (fun q => G.1 ≤ q)
def m_Ql (G : m_G) (r : Int64) (w' : mW) : Array Value → State → Outcome → State → Prop := va_Ql (S := mW) (fun r2 u => r2 = r ∧ u = w') (fun u t => mP G u t.heap) (fun q => G.1 ≤ q)
def m_Qv (G : m_G) (_ : Unit) (w' : mW) : Array Value → State → Outcome → State → Prop := va_Qv (S := mW) (fun u => u = w') (fun u t => mP G u t.heap) (fun q => G.1 ≤ q)
def m_Qq (G : m_G) (r : Option Nat) (w' : mW) : Array Value → State → Outcome → State → Prop := va_Qq (S := mW) (fun r2 u => r2 = r ∧ u = w') (fun u t => mP G u t.heap) (fun q => G.1 ≤ q)
def m_Xi (G : m_G) (o : Int32 ⊕ String) (w' : mW) : Array Value → State → Outcome → State → Prop := va_Qi (S := mW) (fun r2 u => .inl r2 = o ∧ u = w') (fun u t => mP G u t.heap) (fun q => G.1 ≤ q)
def m_Xv (G : m_G) (o : Unit ⊕ String) (w' : mW) : Array Value → State → Outcome → State → Prop := va_Qv (S := mW) (fun u => .inl () = o ∧ u = w') (fun u t => mP G u t.heap) (fun q => G.1 ≤ q)
def m_Xq (G : m_G) (o : Nat ⊕ String) (w' : mW) : Array Value → State → Outcome → State → Prop := va_Qq (S := mW) (fun r2 u => (∃ r, r2 = some r ∧ .inl r = o) ∧ u = w') (fun u t => mP G u t.heap) (fun q => G.1 ≤ q)
def m_XC {α : Type} (G : m_G) (o : α ⊕ String) (w' : mW) : String → State → State → Prop := vx_X (S := mW) (fun u => u = w') (fun E u t => .inr E = o ∧ E ∈ m_exc ∧ ∃ n, m_nx u ≤ n ∧ mP G (m_sX u n) t.heap) (fun q => G.1 ≤ q)
theorem m_blind (G : m_G) (w : mW) (av : List Value) : FrameBlind (m_Pc G w av) := fun _ U _ _ h => ⟨h.1, mS_mv (u := U) (State.WarmedH.refl U) (fun _ _ _ => rfl) h.2.1, h.2.2⟩
theorem m_preV {G : m_G} {w : mW} {s : State} {H : Heap} {locs : List Loc} {b ci : Nat} {C : String} {T : u_T} {N : Nat} {As : List Value} (hM : mS G s) (hP : mP G w H) (hS : va_S (fun q => G.1 ≤ q) s.heap H locs) (hc : vwCl[ci]? = some (C, T, N)) (h : ci < 11) (hk : m_kd w b = ci + 1) : PreV s H C b (m_Pc G w (.ref b :: As)) As :=
  ⟨m_blind G w _, m_recv hM.1 hP hk h hc, fun U hU hW => ⟨rfl, mS_mv hW (fun q h1 h2 => by rw [hU]; exact hS.2.1 q h1 h2) hM, by rw [hU]; exact hP⟩⟩
theorem m_preS {G : m_G} {w : mW} {s : State} {H : Heap} {locs : List Loc} {As : List Value} (hM : mS G s) (hP : mP G w H) (hS : va_S (fun q => G.1 ≤ q) s.heap H locs) : PreS s H (m_Pc G w As) As :=
  ⟨m_blind G w _, fun U hU hW => ⟨rfl, mS_mv hW (fun q h1 h2 => by rw [hU]; exact hS.2.1 q h1 h2) hM, by rw [hU]; exact hP⟩⟩
section VXQ
variable {p : Program} {l : Launch} {e : Env} {R : Room} {s : State} {m : MethodId} {args : Array Value} {below : List Frame} {meth : Method} {c : Code} {H : Heap} {locs : List Loc} {cells slots : Nat} {Q : State → Prop}
variable {pc : Nat} {ls : Array Slot} {rest st0 : List Value} {a : Array Value} {A0 A1 : Nat → Prop} {H0 : Heap} {mc ms : Nat} {free : Addr → Prop}
theorem vx_callq {S SX : Type} {post : Option Nat → S → Prop} {px : SX → Prop} {B : S → State → Prop} {BX : String → SX → State → Prop} {AX : Nat → Prop} (hr : vx_Run p l e R s m args below meth c H locs cells slots mc ms (F0 m pc ls st0) rest (va_Qq post B A1 a) (vx_X px BX AX) free) (hS : va_S A0 H0 H locs) (hA : ∀ q, q < H.size → A1 q → A0 q) (hf : ∀ q, free q → A0 q) (hAX : ∀ q, q < H.size → AX q → A0 q)
    (kx : ∀ (E : String) (ce : Cell) (q9 : Addr) (u : SX) (t : State) (H1 : Heap) (locs1 : List Loc), t.heap = H1 → s.vm.Alike t.vm → px u → BX E u t → H.size ≤ H1.size → (∀ q : Nat, q < H.size → ¬ AX q → H1[q]? = H[q]?) → va_S A0 H0 H1 locs1 → H1[q9]? = some ce → ce.vm = .none → s.vm.findClass E = some ce.cls → vx_W p l e R s m args below meth c H1 locs1 (cells + mc) (slots + ms) Q (F0 m pc ls rest) q9)
    (kk : ∀ (r : Option Nat) (u : S) (t : State) (H1 : Heap) (locs1 : List Loc), t.heap = H1 → s.vm.Alike t.vm → post r u → B u t → H.size ≤ H1.size → (∀ q : Nat, q < H.size → ¬ A1 q → H1[q]? = H[q]?) → va_S A0 H0 H1 locs1 → W p l e R s m args below meth c H1 locs1 (cells + mc) (slots + ms) Q (F0 m (pc + 3) ls (va_rf r :: rest))) : W p l e R s m args below meth c H locs cells slots Q (F0 m pc ls st0) := by
  intro T hT X
  rcases hr T hT X with ⟨v, st₀, t, T', L, h0, X', hL, e1, e2, ⟨⟨r, u, hv, hp, hb⟩, hF⟩, st⟩ | ⟨q, st₀, t, T', L, E, ce, h0, X', hL, e1, e2, ⟨u, hp, hb, hF⟩, hce, hcv, hcl, st⟩
  · cases hv
    obtain ⟨k1, k2, k3⟩ := vx_keep h0 e1 hS hA hf hL hF
    obtain ⟨t2, a1, b1⟩ := kk r u t T'.heap (locs ++ L) e1.symm (by rw [← e2]; exact X'.warmed.alike) hp hb k1 k2 k3 T' rfl X'
    exact ⟨t2, st t2 a1, b1⟩
  · obtain ⟨k1, k2, k3⟩ := vx_keep h0 e1 hS hAX hf hL hF
    obtain ⟨t2, a1, b1⟩ := kx E ce q u t T'.heap (locs ++ L) e1.symm (by rw [← e2]; exact X'.warmed.alike) hp hb k1 k2 k3 (by rw [e1]; exact hce) hcv hcl T' rfl X'
    exact ⟨t2, st.trans a1, b1⟩
end VXQ
section MCALL
variable {p : Program} {l : Launch} {e : Env} {R : Room} {s : State} {m : MethodId} {args : Array Value} {below : List Frame} {meth : Method} {c : Code} {H : Heap} {locs : List Loc} {cells slots : Nat} {Q : State → Prop}
variable {pc : Nat} {ls : Array Slot} {rest st0 : List Value} {a : Array Value} {H0 : Heap} {mc ms : Nat} {G : m_G} {w' : mW} {k n : Nat}
theorem m_calli {r : Int32} (hr : va_Run p l e R s m args below meth c H locs cells slots mc ms (F0 m pc ls st0) rest (m_Qi G r w' a) (fun q => G.1 ≤ q)) (hS : va_S (fun q => G.1 ≤ q) H0 H locs) (hk : cells + mc ≤ k ∧ slots + ms ≤ n)
    (kk : ∀ (H1 : Heap) (locs1 : List Loc), mP G w' H1 → va_S (fun q => G.1 ≤ q) H0 H1 locs1 → W p l e R s m args below meth c H1 locs1 k n Q (F0 m (pc + 3) ls (.int r :: rest))) : W p l e R s m args below meth c H locs cells slots Q (F0 m pc ls st0) :=
  va_calli hr hS (fun _ _ h => h) (fun _ h => h) (fun r2 u t H1 locs1 ht _ hw hB _ _ hS1 => by obtain ⟨rfl, rfl⟩ := hw; exact W.widen hk.1 hk.2 (kk H1 locs1 (by rw [← ht]; exact hB) hS1))
theorem m_calll {r : Int64} (hr : va_Run p l e R s m args below meth c H locs cells slots mc ms (F0 m pc ls st0) rest (m_Ql G r w' a) (fun q => G.1 ≤ q)) (hS : va_S (fun q => G.1 ≤ q) H0 H locs) (hk : cells + mc ≤ k ∧ slots + ms ≤ n)
    (kk : ∀ (H1 : Heap) (locs1 : List Loc), mP G w' H1 → va_S (fun q => G.1 ≤ q) H0 H1 locs1 → W p l e R s m args below meth c H1 locs1 k n Q (F0 m (pc + 3) ls (.long r :: rest))) : W p l e R s m args below meth c H locs cells slots Q (F0 m pc ls st0) :=
  va_calll hr hS (fun _ _ h => h) (fun _ h => h) (fun r2 u t H1 locs1 ht _ hw hB _ _ hS1 => by obtain ⟨rfl, rfl⟩ := hw; exact W.widen hk.1 hk.2 (kk H1 locs1 (by rw [← ht]; exact hB) hS1))
theorem m_callv {r : Unit} (hr : va_Run p l e R s m args below meth c H locs cells slots mc ms (F0 m pc ls st0) rest (m_Qv G r w' a) (fun q => G.1 ≤ q)) (hS : va_S (fun q => G.1 ≤ q) H0 H locs) (hk : cells + mc ≤ k ∧ slots + ms ≤ n)
    (kk : ∀ (H1 : Heap) (locs1 : List Loc), mP G w' H1 → va_S (fun q => G.1 ≤ q) H0 H1 locs1 → W p l e R s m args below meth c H1 locs1 k n Q (F0 m (pc + 3) ls rest)) : W p l e R s m args below meth c H locs cells slots Q (F0 m pc ls st0) :=
  va_callv hr hS (fun _ _ h => h) (fun _ h => h) (fun u t H1 locs1 ht _ hw hB _ _ hS1 => by subst hw; exact W.widen hk.1 hk.2 (kk H1 locs1 (by rw [← ht]; exact hB) hS1))
theorem m_callq {r : Option Nat} (hr : va_Run p l e R s m args below meth c H locs cells slots mc ms (F0 m pc ls st0) rest (m_Qq G r w' a) (fun q => G.1 ≤ q)) (hS : va_S (fun q => G.1 ≤ q) H0 H locs) (hk : cells + mc ≤ k ∧ slots + ms ≤ n)
    (kk : ∀ (H1 : Heap) (locs1 : List Loc), mP G w' H1 → va_S (fun q => G.1 ≤ q) H0 H1 locs1 → W p l e R s m args below meth c H1 locs1 k n Q (F0 m (pc + 3) ls (va_rf r :: rest))) : W p l e R s m args below meth c H locs cells slots Q (F0 m pc ls st0) :=
  va_callq hr hS (fun _ _ h => h) (fun _ h => h) (fun r2 u t H1 locs1 ht _ hw hB _ _ hS1 => by obtain ⟨rfl, rfl⟩ := hw; exact W.widen hk.1 hk.2 (kk H1 locs1 (by rw [← ht]; exact hB) hS1))
/-- calls of methods that return or throw; what is thrown goes on to the caller -/
theorem m_callxi {o : Int32 ⊕ String} {β : Type} {Qc : Array Value → State → Outcome → State → Prop} {o2 : β ⊕ String} {w2 : mW} {mc2 ms2 : Nat} (hr : vx_Run p l e R s m args below meth c H locs cells slots mc ms (F0 m pc ls st0) rest (m_Xi G o w' a) (m_XC G o w') (fun q => G.1 ≤ q)) (hS : va_S (fun q => G.1 ≤ q) s.heap H locs) (hk : (cells + mc ≤ k ∧ slots + ms ≤ n) ∧ k ≤ mc2 ∧ n ≤ ms2)
    (hout : ∀ x ∈ c.exceptionTable.toList, False) (hlocks : meth.locks = false) (hx : ∀ E, o = .inr E → o2 = .inr E ∧ w2 = w')
    (kk : ∀ r, o = .inl r → ∀ (H1 : Heap) (locs1 : List Loc), mP G w' H1 → va_S (fun q => G.1 ≤ q) s.heap H1 locs1 → W p l e R s m args below meth c H1 locs1 k n (vx_MQ below Qc (m_XC G o2 w2) args s mc2 ms2 (fun q => G.1 ≤ q)) (F0 m (pc + 3) ls (.int r :: rest))) : W p l e R s m args below meth c H locs cells slots (vx_MQ below Qc (m_XC G o2 w2) args s mc2 ms2 (fun q => G.1 ≤ q)) (F0 m pc ls st0) := by
  refine vx_calli hr hS (fun _ _ h => h) (fun _ h => h) (fun _ _ h => h) (fun E ce q9 u t H1 locs1 ht hvm hu hB hz hkp hS1 hc9 hv9 hf9 => ?_) (fun r2 u t H1 locs1 ht _ hw hB _ _ hS1 => ?_)
  · obtain ⟨e1, e2, n1, hn, hP1⟩ := hB
    obtain ⟨f1, f2⟩ := hx E e1.symm
    refine vx_out (fun x hx => absurd (hout x hx) id) hlocks hc9 hv9 hf9 (fun t2 ht2 hal => ?_) (fun z hz2 => hS1.2.2 z hz2) (Nat.le_trans hk.1.1 hk.2.1) (Nat.le_trans hk.1.2 hk.2.2)
    refine ⟨w2, rfl, ⟨f1.symm, e2, n1, by rw [f2, ← hu]; exact hn, by rw [f2, ← hu, ht2, ← ht]; exact hP1⟩, ⟨by rw [ht2]; exact hS1.1, fun q h1 h2 => by rw [ht2]; exact hS1.2.1 q h1 h2⟩⟩
  · exact W.widen hk.1.1 hk.1.2 (by obtain ⟨h1, rfl⟩ := hw; exact kk r2 h1.symm H1 locs1 (by rw [← ht]; exact hB) hS1)
theorem m_callxv {o : Unit ⊕ String} {β : Type} {Qc : Array Value → State → Outcome → State → Prop} {o2 : β ⊕ String} {w2 : mW} {mc2 ms2 : Nat} (hr : vx_Run p l e R s m args below meth c H locs cells slots mc ms (F0 m pc ls st0) rest (m_Xv G o w' a) (m_XC G o w') (fun q => G.1 ≤ q)) (hS : va_S (fun q => G.1 ≤ q) s.heap H locs) (hk : (cells + mc ≤ k ∧ slots + ms ≤ n) ∧ k ≤ mc2 ∧ n ≤ ms2)
    (hout : ∀ x ∈ c.exceptionTable.toList, False) (hlocks : meth.locks = false) (hx : ∀ E, o = .inr E → o2 = .inr E ∧ w2 = w')
    (kk : ∀ r, o = .inl r → ∀ (H1 : Heap) (locs1 : List Loc), mP G w' H1 → va_S (fun q => G.1 ≤ q) s.heap H1 locs1 → W p l e R s m args below meth c H1 locs1 k n (vx_MQ below Qc (m_XC G o2 w2) args s mc2 ms2 (fun q => G.1 ≤ q)) (F0 m (pc + 3) ls rest)) : W p l e R s m args below meth c H locs cells slots (vx_MQ below Qc (m_XC G o2 w2) args s mc2 ms2 (fun q => G.1 ≤ q)) (F0 m pc ls st0) := by
  refine vx_callv hr hS (fun _ _ h => h) (fun _ h => h) (fun _ _ h => h) (fun E ce q9 u t H1 locs1 ht hvm hu hB hz hkp hS1 hc9 hv9 hf9 => ?_) (fun u t H1 locs1 ht _ hw hB _ _ hS1 => ?_)
  · obtain ⟨e1, e2, n1, hn, hP1⟩ := hB
    obtain ⟨f1, f2⟩ := hx E e1.symm
    refine vx_out (fun x hx => absurd (hout x hx) id) hlocks hc9 hv9 hf9 (fun t2 ht2 hal => ?_) (fun z hz2 => hS1.2.2 z hz2) (Nat.le_trans hk.1.1 hk.2.1) (Nat.le_trans hk.1.2 hk.2.2)
    refine ⟨w2, rfl, ⟨f1.symm, e2, n1, by rw [f2, ← hu]; exact hn, by rw [f2, ← hu, ht2, ← ht]; exact hP1⟩, ⟨by rw [ht2]; exact hS1.1, fun q h1 h2 => by rw [ht2]; exact hS1.2.1 q h1 h2⟩⟩
  · exact W.widen hk.1.1 hk.1.2 (by obtain ⟨h1, rfl⟩ := hw; exact kk () h1.symm H1 locs1 (by rw [← ht]; exact hB) hS1)
theorem m_callxq {o : Nat ⊕ String} {β : Type} {Qc : Array Value → State → Outcome → State → Prop} {o2 : β ⊕ String} {w2 : mW} {mc2 ms2 : Nat} (hr : vx_Run p l e R s m args below meth c H locs cells slots mc ms (F0 m pc ls st0) rest (m_Xq G o w' a) (m_XC G o w') (fun q => G.1 ≤ q)) (hS : va_S (fun q => G.1 ≤ q) s.heap H locs) (hk : (cells + mc ≤ k ∧ slots + ms ≤ n) ∧ k ≤ mc2 ∧ n ≤ ms2)
    (hout : ∀ x ∈ c.exceptionTable.toList, False) (hlocks : meth.locks = false) (hx : ∀ E, o = .inr E → o2 = .inr E ∧ w2 = w')
    (kk : ∀ r, o = .inl r → ∀ (H1 : Heap) (locs1 : List Loc), mP G w' H1 → va_S (fun q => G.1 ≤ q) s.heap H1 locs1 → W p l e R s m args below meth c H1 locs1 k n (vx_MQ below Qc (m_XC G o2 w2) args s mc2 ms2 (fun q => G.1 ≤ q)) (F0 m (pc + 3) ls (.ref r :: rest))) : W p l e R s m args below meth c H locs cells slots (vx_MQ below Qc (m_XC G o2 w2) args s mc2 ms2 (fun q => G.1 ≤ q)) (F0 m pc ls st0) := by
  refine vx_callq hr hS (fun _ _ h => h) (fun _ h => h) (fun _ _ h => h) (fun E ce q9 u t H1 locs1 ht hvm hu hB hz hkp hS1 hc9 hv9 hf9 => ?_) (fun r2 u t H1 locs1 ht _ hw hB _ _ hS1 => ?_)
  · obtain ⟨e1, e2, n1, hn, hP1⟩ := hB
    obtain ⟨f1, f2⟩ := hx E e1.symm
    refine vx_out (fun x hx => absurd (hout x hx) id) hlocks hc9 hv9 hf9 (fun t2 ht2 hal => ?_) (fun z hz2 => hS1.2.2 z hz2) (Nat.le_trans hk.1.1 hk.2.1) (Nat.le_trans hk.1.2 hk.2.2)
    refine ⟨w2, rfl, ⟨f1.symm, e2, n1, by rw [f2, ← hu]; exact hn, by rw [f2, ← hu, ht2, ← ht]; exact hP1⟩, ⟨by rw [ht2]; exact hS1.1, fun q h1 h2 => by rw [ht2]; exact hS1.2.1 q h1 h2⟩⟩
  · exact W.widen hk.1.1 hk.1.2 (by obtain ⟨⟨r, rfl, h1⟩, rfl⟩ := hw; exact kk r h1.symm H1 locs1 (by rw [← ht]; exact hB) hS1)
end MCALL
section MCALL2
variable {p : Program} {l : Launch} {e : Env} {R : Room} {s : State} {m : MethodId} {args : Array Value} {below : List Frame} {meth : Method} {c : Code} {H : Heap} {locs : List Loc} {cells slots : Nat} {Q : State → Prop}
variable {pc : Nat} {ls : Array Slot} {rest st0 : List Value} {a : Array Value} {H0 : Heap} {mc ms : Nat} {G : m_G} {w w' : mW} {k n : Nat} {cc : ByteArray}
theorem m_callr {r : Nat} (hr : va_Run p l e R s m args below meth c H locs cells slots mc ms (F0 m pc ls st0) rest (m_Qq G (some r) w' a) (fun q => G.1 ≤ q)) (hS : va_S (fun q => G.1 ≤ q) H0 H locs) (hk : cells + mc ≤ k ∧ slots + ms ≤ n)
    (kk : ∀ (H1 : Heap) (locs1 : List Loc), mP G w' H1 → va_S (fun q => G.1 ≤ q) H0 H1 locs1 → W p l e R s m args below meth c H1 locs1 k n Q (F0 m (pc + 3) ls (.ref r :: rest))) : W p l e R s m args below meth c H locs cells slots Q (F0 m pc ls st0) := m_callq hr hS hk kk
/-- throw new E(text) -/
theorem m_throwS (hexec : p.tables.exec = Jvm.exec) (hb : c.code = cc) (hl : l.stackTraces = false) {own E text : String} {ik is ic : Nat}
    (hown : s.vm.findClass own = some m.cls) (hk : (Cond.classLink own ik E).before args s = true) (hini : (Cond.initialized E).before args s = true) (hat : ∀ w ∈ vx_atS own ic E ["java/lang/RuntimeException", "java/lang/Exception"], w.before args s = true)
    (hcls : Bundle.fit E = true) (hnames : ∀ n ∈ (["java/lang/RuntimeException", "java/lang/Exception"] : List String), Bundle.fit n = true) (hE : E ∈ m_exc) (hgood : ∀ w ∈ Cond.classLink own ik E :: Cond.initialized E :: vx_atS own ic E ["java/lang/RuntimeException", "java/lang/Exception"], vx_ot w = true) (htxt : own = RX6 ∧ (is, text) ∈ m_txt)
    (hM : mS G s) (hP : mP G w H) (hS : va_S (fun q => G.1 ≤ q) s.heap H locs) (hsize : ls.size = c.maxLocals)
    (d0 : decode cc pc = .ok (.new ik, 3)) (d3 : decode cc (pc + 3) = .ok (.dup, 1)) (d4 : decode cc (pc + 4) = .ok (.ldc is, 2)) (d6 : decode cc (pc + 6) = .ok (.invokespecial ic, 3)) (d9 : decode cc (pc + 9) = .ok (.athrow, 1))
    (hout : ∀ x ∈ c.exceptionTable.toList, False) (hRframes : 6 ≤ R.frames) (hRlocals : (rest.map fun v => v.category).sum + 82 ≤ R.locals) (hRcells : cells + 1 ≤ R.cells) (hRslots : slots + 6 ≤ R.slots) (hlocks : meth.locks = false)
    {β : Type} {Qc : Array Value → State → Outcome → State → Prop} {o2 : β ⊕ String} {w2 : mW} (e1 : .inr E = o2) (e2 : w = w2) {mc ms : Nat} (hc : cells + 1 ≤ mc) (hs : slots + 6 ≤ ms) :
    W p l e R s m args below meth c H locs cells slots (vx_MQ below Qc (m_XC G o2 w2) args s mc ms (fun q => G.1 ≤ q)) (F0 m pc ls rest) := by
  obtain ⟨sa, hstr⟩ := hM.2.1.2.2.2.2.2.2.1 _ htxt.2
  have hstr : vk_R own is text sa s := by rw [htxt.1]; exact hstr
  refine vx_throwS (names := ["java/lang/RuntimeException", "java/lang/Exception"]) hexec hb hl hown hcls hnames hk hini hstr hat hgood hM.2.2.2.2.1 hM.2.2.2.2.2.1 hS hsize d0 d3 d4 d6 d9 (fun x hx => absurd (hout x hx) id) (by show 2 + 3 < _; omega) (by show _ + (13 * (2 + 1) + 43) ≤ _; omega) hRcells hRslots hlocks (fun t ha hz hq => ?_) (fun z hz => hS.2.2 z hz) hc hs
  refine ⟨w2, rfl, ⟨e1, hE, t.heap.size, by rw [← e2, ← hP.2.1]; exact hz, ?_⟩, ⟨Nat.le_trans hS.1 hz, fun q h1 h2 => (hq q (Nat.lt_of_lt_of_le h1 hS.1)).trans (hS.2.1 q h1 h2)⟩⟩
  rw [← e2]
  exact ⟨fun a ha2 => m_ok.kept (w := w) (hP.1 a ha2) (hq a (m_lt hP ha2)), rfl, Nat.le_trans hP.2.2 (by rw [← hP.2.1]; exact hz)⟩
theorem m_throwW (hexec : p.tables.exec = Jvm.exec) (hb : c.code = cc) (hl : l.stackTraces = false) {own E text : String} {ik is ic : Nat}
    (hown : s.vm.findClass own = some m.cls) (hk : (Cond.classLink own ik E).before args s = true) (hini : (Cond.initialized E).before args s = true) (hat : ∀ w ∈ vx_atS own ic E ["java/lang/RuntimeException", "java/lang/Exception"], w.before args s = true)
    (hcls : Bundle.fit E = true) (hnames : ∀ n ∈ (["java/lang/RuntimeException", "java/lang/Exception"] : List String), Bundle.fit n = true) (hE : E ∈ m_exc) (hgood : ∀ w ∈ Cond.classLink own ik E :: Cond.initialized E :: vx_atS own ic E ["java/lang/RuntimeException", "java/lang/Exception"], vx_ot w = true) (htxt : own = RX6 ∧ (is, text) ∈ m_txt)
    (hM : mS G s) (hP : mP G w H) (hS : va_S (fun q => G.1 ≤ q) s.heap H locs) (hsize : ls.size = c.maxLocals)
    (d0 : decode cc pc = .ok (.new ik, 3)) (d3 : decode cc (pc + 3) = .ok (.dup, 1)) (d4 : decode cc (pc + 4) = .ok (.ldc_w is, 3)) (d7 : decode cc (pc + 7) = .ok (.invokespecial ic, 3)) (d10 : decode cc (pc + 10) = .ok (.athrow, 1))
    (hout : ∀ x ∈ c.exceptionTable.toList, False) (hRframes : 6 ≤ R.frames) (hRlocals : (rest.map fun v => v.category).sum + 82 ≤ R.locals) (hRcells : cells + 1 ≤ R.cells) (hRslots : slots + 6 ≤ R.slots) (hlocks : meth.locks = false)
    {β : Type} {Qc : Array Value → State → Outcome → State → Prop} {o2 : β ⊕ String} {w2 : mW} (e1 : .inr E = o2) (e2 : w = w2) {mc ms : Nat} (hc : cells + 1 ≤ mc) (hs : slots + 6 ≤ ms) :
    W p l e R s m args below meth c H locs cells slots (vx_MQ below Qc (m_XC G o2 w2) args s mc ms (fun q => G.1 ≤ q)) (F0 m pc ls rest) := by
  obtain ⟨sa, hstr⟩ := hM.2.1.2.2.2.2.2.2.1 _ htxt.2
  have hstr : vk_R own is text sa s := by rw [htxt.1]; exact hstr
  refine vx_throwSW (names := ["java/lang/RuntimeException", "java/lang/Exception"]) hexec hb hl hown hcls hnames hk hini hstr hat hgood hM.2.2.2.2.1 hM.2.2.2.2.2.1 hS hsize d0 d3 d4 d7 d10 (fun x hx => absurd (hout x hx) id) (by show 2 + 3 < _; omega) (by show _ + (13 * (2 + 1) + 43) ≤ _; omega) hRcells hRslots hlocks (fun t ha hz hq => ?_) (fun z hz => hS.2.2 z hz) hc hs
  refine ⟨w2, rfl, ⟨e1, hE, t.heap.size, by rw [← e2, ← hP.2.1]; exact hz, ?_⟩, ⟨Nat.le_trans hS.1 hz, fun q h1 h2 => (hq q (Nat.lt_of_lt_of_le h1 hS.1)).trans (hS.2.1 q h1 h2)⟩⟩
  rw [← e2]
  exact ⟨fun a ha2 => m_ok.kept (w := w) (hP.1 a ha2) (hq a (m_lt hP ha2)), rfl, Nat.le_trans hP.2.2 (by rw [← hP.2.1]; exact hz)⟩
theorem m_anyK {v : Nat} (hM : mS G s) (hP : mP G w H) (hk : 1 ≤ m_kd w v ∧ m_kd w v ≤ 11) : va_Any "java/lang/Object" s H v := by
  obtain ⟨ci, hci⟩ : ∃ ci, m_kd w v = ci + 1 := ⟨m_kd w v - 1, by omega⟩
  have h : ci < vwCl.length := by show ci < 11; omega
  have hc : vwCl[ci]? = some vwCl[ci] := List.getElem?_eq_getElem h
  exact m_any (C := vwCl[ci].1) (T := vwCl[ci].2.1) (N := vwCl[ci].2.2) hM.1 hP hci (by omega) hc (hM.2.1.1 ci _ hc)
end MCALL2
theorem m_hat {args : Array Value} {s : State} {L : List Cond} {E : String} (h1 : ∀ w ∈ L.filter goodWord, w.before args s = true) (h2 : ∀ w ∈ L.filter (fun w => !goodWord w), w ∈ [Cond.castable E E, .declares (Bundle.initS "java/lang/RuntimeException"), .declares (Bundle.initS "java/lang/Exception"), .declares (Bundle.initS "java/lang/Throwable")]) (h3 : m_xw s) (hE : E ∈ m_exc) : ∀ w ∈ L, w.before args s = true :=
  vx_hat h1 h2 (vx_c (va_Nw.use rfl (h3.1 E hE)) (vx_c (va_Nw.use rfl (h3.2 _ (by decide))) (vx_c (va_Nw.use rfl (h3.2 _ (by decide))) (vx_c (va_Nw.use rfl (h3.2 _ (by decide))) vx_n))))
theorem m_ne {G : m_G} {w : mW} {H : Heap} {a k : Nat} (hP : mP G w H) (hk : m_kd w a = k) (h : k ≠ 0) : a ≠ m_nx w := fun e => by
  have h1 := m_lt hP (a := a) (by rw [hk]; exact h)
  rw [hP.2.1, ← e] at h1
  exact Nat.lt_irrefl _ h1
theorem m_nO_new {w : mW} {c : Nat} : m_kd (m_nO w c) (m_nx w) = c + 1 := by simp [m_kd, m_nO, va_up]
theorem m_nO_old {w : mW} {c b k : Nat} (h : m_kd w b = k) (hn : b ≠ m_nx w) : m_kd (m_nO w c) b = k := by
  rw [← h]
  simp only [m_kd, m_nO, va_up]
  exact if_neg hn
theorem m_nA_new {w : mW} {k n : Nat} : m_kd (m_nA w k n) (m_nx w) = k := by simp [m_kd, m_nA, va_up]
theorem m_nA_old {w : mW} {c n b k : Nat} (h : m_kd w b = k) (hn : b ≠ m_nx w) : m_kd (m_nA w c n) b = k := by
  rw [← h]
  simp only [m_kd, m_nA, va_up]
  exact if_neg hn
theorem m_narZ {x : Int32} (h : vp_nar .boolean x = x) : narrow .boolean (.int x) = .int x ∧ fits .boolean (.int x) = true := by
  have e : narrow .boolean (.int x) = .int (vp_nar .boolean x) := rfl
  refine ⟨by rw [e, h], ?_⟩
  rw [← h]
  have hx : x &&& 1 = x := h
  have h0 : x = 0 ∨ x = 1 := by
    have hb : x.toBitVec &&& 1#32 = x.toBitVec := congrArg Int32.toBitVec hx
    have hn : x.toBitVec.toNat % 2 = x.toBitVec.toNat := by
      have h2 := congrArg BitVec.toNat hb
      rw [BitVec.toNat_and] at h2
      rw [← Nat.and_one_is_mod]
      exact h2
    have h3 : x.toBitVec.toNat = 0 ∨ x.toBitVec.toNat = 1 := by omega
    rcases h3 with q | q
    · exact Or.inl (Int32.toBitVec_inj.mp (BitVec.eq_of_toNat_eq q))
    · exact Or.inr (Int32.toBitVec_inj.mp (BitVec.eq_of_toNat_eq q))
  rcases h0 with rfl | rfl <;> rfl
theorem m_narC {x : Int32} (h : vp_nar .char x = x) : narrow .char (.int x) = .int x ∧ fits .char (.int x) = true := by
  have e : narrow .char (.int x) = .int (vp_nar .char x) := rfl
  refine ⟨by rw [e, h], ?_⟩
  rw [← h, vp_nar_char]
  have k := pk_fc x
  rw [show (x.toUInt32 % 65536).toInt32 = x.toUInt32.toUInt16.toUInt32.toInt32 from by congr 1] at k
  exact k
theorem m_narB {x : Int32} (h : vp_nar .byte x = x) : narrow .byte (.int x) = .int x ∧ fits .byte (.int x) = true := by
  have e : narrow .byte (.int x) = .int (vp_nar .byte x) := rfl
  refine ⟨by rw [e, h], ?_⟩
  rw [← h, vp_nar_byte]
  exact pk_fb x
theorem m_dfX0 : ∀ j, j < 7 → defaultValue (tyX0 j) = if m_isR 3 j = true then .null else .int 0 := by
  intro j hj
  rcases (show j = 0 ∨ j = 1 ∨ j = 2 ∨ j = 3 ∨ j = 4 ∨ j = 5 ∨ j = 6 by omega) with rfl | rfl | rfl | rfl | rfl | rfl | rfl <;> rfl
theorem m_dfX1 : ∀ j, j < 4 → defaultValue (tyX1 j) = if m_isR 4 j = true then .null else .int 0 := by
  intro j hj
  rcases (show j = 0 ∨ j = 1 ∨ j = 2 ∨ j = 3 by omega) with rfl | rfl | rfl | rfl <;> rfl
theorem m_dfX2 : ∀ j, j < 2 → defaultValue (tyX2 j) = if m_isR 5 j = true then .null else .int 0 := by
  intro j hj
  rcases (show j = 0 ∨ j = 1 by omega) with rfl | rfl <;> rfl
theorem m_dfX3 : ∀ j, j < 7 → defaultValue (tyX3 j) = if m_isR 6 j = true then .null else .int 0 := by
  intro j hj
  rcases (show j = 0 ∨ j = 1 ∨ j = 2 ∨ j = 3 ∨ j = 4 ∨ j = 5 ∨ j = 6 by omega) with rfl | rfl | rfl | rfl | rfl | rfl | rfl <;> rfl
theorem m_dfX4 : ∀ j, j < 2 → defaultValue (tyX4 j) = if m_isR 7 j = true then .null else .int 0 := by
  intro j hj
  rcases (show j = 0 ∨ j = 1 by omega) with rfl | rfl <;> rfl
theorem m_dfX5 : ∀ j, j < 4 → defaultValue (tyX5 j) = if m_isR 8 j = true then .null else .int 0 := by
  intro j hj
  rcases (show j = 0 ∨ j = 1 ∨ j = 2 ∨ j = 3 by omega) with rfl | rfl | rfl | rfl <;> rfl
theorem m_dfX6 : ∀ j, j < 8 → defaultValue (tyX6 j) = if m_isR 9 j = true then .null else .int 0 := by
  intro j hj
  rcases (show j = 0 ∨ j = 1 ∨ j = 2 ∨ j = 3 ∨ j = 4 ∨ j = 5 ∨ j = 6 ∨ j = 7 by omega) with rfl | rfl | rfl | rfl | rfl | rfl | rfl | rfl <;> rfl
theorem m_dfX7 : ∀ j, j < 32 → defaultValue (tyX7 j) = if m_isR 10 j = true then .null else .int 0 := by
  intro j hj
  rcases (show j = 0 ∨ j = 1 ∨ j = 2 ∨ j = 3 ∨ j = 4 ∨ j = 5 ∨ j = 6 ∨ j = 7 ∨ j = 8 ∨ j = 9 ∨ j = 10 ∨ j = 11 ∨ j = 12 ∨ j = 13 ∨ j = 14 ∨ j = 15 ∨ j = 16 ∨ j = 17 ∨ j = 18 ∨ j = 19 ∨ j = 20 ∨ j = 21 ∨ j = 22 ∨ j = 23 ∨ j = 24 ∨ j = 25 ∨ j = 26 ∨ j = 27 ∨ j = 28 ∨ j = 29 ∨ j = 30 ∨ j = 31 by omega) with rfl | rfl | rfl | rfl | rfl | rfl | rfl | rfl | rfl | rfl | rfl | rfl | rfl | rfl | rfl | rfl | rfl | rfl | rfl | rfl | rfl | rfl | rfl | rfl | rfl | rfl | rfl | rfl | rfl | rfl | rfl | rfl <;> rfl
theorem m_dfJx4a65c : ∀ j, j < 3 → defaultValue (tyJx4a65c j) = if m_isR 2 j = true then .null else .int 0 := by
  intro j hj
  rcases (show j = 0 ∨ j = 1 ∨ j = 2 by omega) with rfl | rfl | rfl <;> rfl
theorem m_dfJ4 : ∀ j, j < 4 → defaultValue (tyJ4 j) = if m_isR 1 j = true then .null else .int 0 := by
  intro j hj
  rcases (show j = 0 ∨ j = 1 ∨ j = 2 ∨ j = 3 by omega) with rfl | rfl | rfl | rfl <;> rfl
theorem m_naint : (21 = 21 ∨ 21 = 22 ∨ 21 = 24 ∨ 21 = 25) ∧ "[" ++ (newarray.typeOf .int).toString = "[" ++ FieldType.int.toString ∧ (∀ U : State, ∀ cA : ClassId, va_RA U cA .int → U.vm.findClass ("[" ++ FieldType.int.toString) = some cA) ∧ defaultValue .int = if 21 = 25 then .long 0 else .int 0 := ⟨by decide, rfl, fun _ _ h => h, rfl⟩
theorem m_naboolean : (22 = 21 ∨ 22 = 22 ∨ 22 = 24 ∨ 22 = 25) ∧ "[" ++ (newarray.typeOf .boolean).toString = "[" ++ FieldType.boolean.toString ∧ (∀ U : State, ∀ cA : ClassId, va_RA U cA .boolean → U.vm.findClass ("[" ++ FieldType.boolean.toString) = some cA) ∧ defaultValue .boolean = if 22 = 25 then .long 0 else .int 0 := ⟨by decide, rfl, fun _ _ h => h, rfl⟩
theorem m_nabyte : (24 = 21 ∨ 24 = 22 ∨ 24 = 24 ∨ 24 = 25) ∧ "[" ++ (newarray.typeOf .byte).toString = "[" ++ FieldType.byte.toString ∧ (∀ U : State, ∀ cA : ClassId, va_RA U cA .byte → U.vm.findClass ("[" ++ FieldType.byte.toString) = some cA) ∧ defaultValue .byte = if 24 = 25 then .long 0 else .int 0 := ⟨by decide, rfl, fun _ _ h => h, rfl⟩
theorem m_nalong : (25 = 21 ∨ 25 = 22 ∨ 25 = 24 ∨ 25 = 25) ∧ "[" ++ (newarray.typeOf .long).toString = "[" ++ FieldType.long.toString ∧ (∀ U : State, ∀ cA : ClassId, va_RA U cA .long → U.vm.findClass ("[" ++ FieldType.long.toString) = some cA) ∧ defaultValue .long = if 25 = 25 then .long 0 else .int 0 := ⟨by decide, rfl, fun _ _ h => h, rfl⟩
/-! functions that may find no answer: their words -/
theorem m_i_t {α : Type} {c : Prop} {inst : Decidable c} {a b y : α} (h : c) (e : @ite α c inst a b = y) : a = y := (if_pos h).symm.trans e
theorem m_i_f {α : Type} {c : Prop} {inst : Decidable c} {a b y : α} (h : ¬ c) (e : @ite α c inst a b = y) : b = y := (if_neg h).symm.trans e
theorem m_sw3 {x : Int32} (h0 : ¬ x = 0) (h1 : ¬ x = 1) (h2 : ¬ x = 2) : x.toInt < 0 ∨ (2 : Int) < x.toInt := by
  have e0 : x.toInt ≠ 0 := fun q => h0 (Int32.toInt_inj.mp q)
  have e1 : x.toInt ≠ 1 := fun q => h1 (Int32.toInt_inj.mp q)
  have e2 : x.toInt ≠ 2 := fun q => h2 (Int32.toInt_inj.mp q)
  omega
def m_g {α : Type} (c : Prop) [Decidable c] (k : Option α) : Option α := if c then k else none
theorem m_g_e {α : Type} {c : Prop} {_ : Decidable c} {k : Option α} {y : α} (h : m_g c k = some y) : c ∧ k = some y := by
  unfold m_g at h
  split at h
  · exact ⟨by assumption, h⟩
  · cases h
theorem m_g_t {α : Type} {c : Prop} [Decidable c] {k : Option α} (h : c) : m_g c k = k := if_pos h
def m_o {α β : Type} (x : Option α) (f : α → Option β) : Option β := match x with
  | none => none
  | some a => f a
theorem m_o_e {α β : Type} {x : Option α} {f : α → Option β} {y : β} (h : m_o x f = some y) : ∃ a, x = some a ∧ f a = some y := by
  cases x with
  | none => cases h
  | some a => exact ⟨a, rfl, h⟩
def m_b {α β ω : Type} (x : Option (α × ω)) (f : α → ω → Option β) : Option β := match x with
  | none => none
  | some q => f q.1 q.2
theorem m_b_e {α β ω : Type} {x : Option (α × ω)} {f : α → ω → Option β} {y : β} (h : m_b x f = some y) : ∃ r w1, x = some (r, w1) ∧ f r w1 = some y := by
  cases x with
  | none => cases h
  | some q => exact ⟨q.1, q.2, rfl, h⟩
def m_t {α β : Type} (x : Option ((α ⊕ String) × mW)) (f : α → mW → Option ((β ⊕ String) × mW)) : Option ((β ⊕ String) × mW) := match x with
  | none => none
  | some (.inl r, w1) => f r w1
  | some (.inr E, w1) => some (.inr E, w1)
theorem m_t_e {α β : Type} {x : Option ((α ⊕ String) × mW)} {f : α → mW → Option ((β ⊕ String) × mW)} {y : β ⊕ String} {w2 : mW} (h : m_t x f = some (y, w2)) : ∃ o w1, x = some (o, w1) ∧ (∀ E, o = .inr E → y = .inr E ∧ w2 = w1) ∧ ∀ r, o = .inl r → f r w1 = some (y, w2) := by
  match x, h with
  | none, h => cases h
  | some (.inl r, w1), h => exact ⟨.inl r, w1, rfl, fun E hE => (nomatch hE), fun r2 hr => by cases hr; exact h⟩
  | some (.inr E, w1), h => exact ⟨.inr E, w1, rfl, fun E2 hE => by cases hE; cases h; exact ⟨rfl, rfl⟩, fun r2 hr => (nomatch hr)⟩
def m_l {α β : Type} (v : α) (f : α → β) : β := f v
theorem m_l_e {α β : Type} {v : α} {f : α → β} {y : β} (h : m_l v f = y) : ∃ x, x = v ∧ f x = y := ⟨v, rfl, h⟩
def m_n {β : Type} (x : Option Nat) (a : β) (f : Nat → β) : β := match x with
  | none => a
  | some q => f q
theorem m_n_e {β : Type} {a : β} {f : Nat → β} {y : β} (h : m_n none a f = y) : a = y := h
theorem m_n_s {β : Type} {q : Nat} {a : β} {f : Nat → β} {y : β} (h : m_n (some q) a f = y) : f q = y := h
theorem m_s_e {α ω : Type} {r r2 : α} {w w2 : ω} (h : (some (r, w) : Option (α × ω)) = some (r2, w2)) : r = r2 ∧ w = w2 := by
  cases h
  exact ⟨rfl, rfl⟩
/-- how often a loop may go round: far more than any run needs -/
def m_N : Nat := 5000
