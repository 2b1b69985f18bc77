/-! the law's entry: what the Statement gives of the start, as my worlds want it -/
def n_W : Cond := Jvm.Cond.and given_1 narrow_1
def w_E (t n : Nat) : mW := (fun a => if a = t then 23 else 0, fun _ _ _ => 0, fun _ _ _ => none, fun _ => 0, fun _ _ => 0, fun _ _ => none, fun _ _ => 0, n)
theorem n_arr {s : State} {cA comp : ClassId} {ty : FieldType} {k : Class} (h2 : s.vm.classes[cA]? = some k) (h3 : k.kind = .array comp ty) : ArrOfT s cA ty := fun n z => ⟨(fun k h => by cases h), k, h2, comp, h3⟩
theorem n_cls {s : State} {args : Array Value} (hts : ∀ w ∈ lw_tbl, w.before args s = true) : ∃ (dC : Nat → ClassId) (dI : Nat → Nat → Nat), ∀ (k : Nat) (q : vw_C), vwCl[k]? = some q → u_Kn s q.1 q.2.1 q.2.2 (dC k) (dI k) := by
  obtain ⟨c0, i0, h0⟩ := u_known (C := RJ0) (T := TJ0) (N := 4) (n := 4) hts (by decide +kernel) (hts _ (by decide +kernel))
  obtain ⟨c1, i1, h1⟩ := u_known (C := RJ4) (T := TJ4) (N := 4) (n := 4) hts (by decide +kernel) (hts _ (by decide +kernel))
  obtain ⟨c2, i2, h2⟩ := u_known (C := RJx4a65c) (T := TJx4a65c) (N := 3) (n := 3) hts (by decide +kernel) (hts _ (by decide +kernel))
  obtain ⟨c3, i3, h3⟩ := u_known (C := RX0) (T := TX0) (N := 7) (n := 7) hts (by decide +kernel) (hts _ (by decide +kernel))
  obtain ⟨c4, i4, h4⟩ := u_known (C := RX1) (T := TX1) (N := 4) (n := 4) hts (by decide +kernel) (hts _ (by decide +kernel))
  obtain ⟨c5, i5, h5⟩ := u_known (C := RX2) (T := TX2) (N := 2) (n := 2) hts (by decide +kernel) (hts _ (by decide +kernel))
  obtain ⟨c6, i6, h6⟩ := u_known (C := RX3) (T := TX3) (N := 7) (n := 7) hts (by decide +kernel) (hts _ (by decide +kernel))
  obtain ⟨c7, i7, h7⟩ := u_known (C := RX4) (T := TX4) (N := 2) (n := 2) hts (by decide +kernel) (hts _ (by decide +kernel))
  obtain ⟨c8, i8, h8⟩ := u_known (C := RX5) (T := TX5) (N := 4) (n := 4) hts (by decide +kernel) (hts _ (by decide +kernel))
  obtain ⟨c9, i9, h9⟩ := u_known (C := RX6) (T := TX6) (N := 8) (n := 8) hts (by decide +kernel) (hts _ (by decide +kernel))
  obtain ⟨c10, i10, h10⟩ := u_known (C := RX7) (T := TX7) (N := 32) (n := 32) hts (by decide +kernel) (hts _ (by decide +kernel))
  have key : ∀ k : Nat, ∃ (c : ClassId) (i : Nat → Nat), ∀ q : vw_C, vwCl[k]? = some q → u_Kn s q.1 q.2.1 q.2.2 c i := by
    intro k
    match k with
    | 0 => exact ⟨c0, i0, fun q hq => by cases hq; exact h0⟩
    | 1 => exact ⟨c1, i1, fun q hq => by cases hq; exact h1⟩
    | 2 => exact ⟨c2, i2, fun q hq => by cases hq; exact h2⟩
    | 3 => exact ⟨c3, i3, fun q hq => by cases hq; exact h3⟩
    | 4 => exact ⟨c4, i4, fun q hq => by cases hq; exact h4⟩
    | 5 => exact ⟨c5, i5, fun q hq => by cases hq; exact h5⟩
    | 6 => exact ⟨c6, i6, fun q hq => by cases hq; exact h6⟩
    | 7 => exact ⟨c7, i7, fun q hq => by cases hq; exact h7⟩
    | 8 => exact ⟨c8, i8, fun q hq => by cases hq; exact h8⟩
    | 9 => exact ⟨c9, i9, fun q hq => by cases hq; exact h9⟩
    | 10 => exact ⟨c10, i10, fun q hq => by cases hq; exact h10⟩
    | k + 11 => exact ⟨c0, i0, fun q hq => by rw [List.getElem?_eq_none (by show 11 ≤ k + 11; omega)] at hq; cases hq⟩
  exact ⟨fun k => (key k).choose, fun k => (key k).choose_spec.choose, fun k q hq => (key k).choose_spec.choose_spec q hq⟩
def n_T (C : String) : Term := .static "java/lang/Integer" C "[B"
theorem n_tens : ((flatC n_W).drop 121).take 100 = (List.range 100).map (fun j => Cond.eq (.elem (n_T "DigitTens") (.int (Int32.ofNat j))) (.int (nI (48 + j / 10)))) := by decide +kernel
theorem n_ones : ((flatC n_W).drop 18).take 100 = (List.range 100).map (fun j => Cond.eq (.elem (n_T "DigitOnes") (.int (Int32.ofNat j))) (.int (nI (48 + j % 10)))) := by decide +kernel
theorem n_in {k : Nat} {f : Nat → Cond} (e : ((flatC n_W).drop k).take 100 = (List.range 100).map f) (j : Nat) (hj : j < 100) : f j ∈ flatC n_W := by
  have h : f j ∈ ((flatC n_W).drop k).take 100 := by
    rw [e]
    exact List.mem_map.mpr ⟨j, List.mem_range.mpr hj, rfl⟩
  exact List.mem_of_mem_drop (List.mem_of_mem_take h)
theorem n_txt : ∀ q ∈ m_txt, Cond.stringRef RX6 q.1 q.2 ∈ lw_tbl ∧ Cond.exactly (.string RX6 q.1) "java/lang/String" ∈ flatC n_W := by decide +kernel
theorem n_nc : ∀ E ∈ m_exc, ∀ F ∈ m_exc, E ≠ F → Cond.not (.castable E F) ∈ flatC n_W := by decide +kernel
theorem n_xw : (∀ E ∈ m_exc, Cond.castable E E ∈ lw_tbl) ∧ ∀ Y ∈ m_xn, Cond.declares (Bundle.initS Y) ∈ lw_tbl := by decide +kernel
theorem n_nest : ∀ q ∈ m_nest, Cond.methodLinkNest q.1 q.2.1 q.2.2 RX6 ∈ lw_tbl := by decide +kernel
theorem n_obj : ∀ q ∈ vwCl, Cond.castable q.1 "java/lang/Object" ∈ lw_tbl := by
  have h : ∀ C ∈ vwCl.map (fun q => q.1), Cond.castable C "java/lang/Object" ∈ lw_tbl := by decide +kernel
  exact fun q hq => h _ (List.mem_map.mpr ⟨q, hq, rfl⟩)
def n_D : Term := .static "java/util/ArrayList" "DEFAULTCAPACITY_EMPTY_ELEMENTDATA" "[Ljava/lang/Object;"
theorem n_start {s : State} {args : Array Value} (hts : ∀ w ∈ lw_tbl, w.before args s = true) (hgv : n_W.before args s = true) :
    ∃ G : m_G, G.1 = s.heap.size ∧ mS G s ∧ mP G (w_E G.2.2.2.1 s.heap.size) s.heap ∧ G.2.2.2.1 < s.heap.size := by
  have hs := flat_of_before _ hgv
  obtain ⟨dC, dI, hC⟩ := n_cls hts
  obtain ⟨c1, k1, p1, a1, a2, a3⟩ := Cond.arrayClass_spec (hts (.arrayClass .int) (by decide +kernel))
  obtain ⟨c2, k2, p2, b1, b2, b3⟩ := Cond.arrayClass_spec (hts (.arrayClass .boolean) (by decide +kernel))
  obtain ⟨c4, k4, p4, d1, d2, d3⟩ := Cond.arrayClass_spec (hts (.arrayClass .byte) (by decide +kernel))
  obtain ⟨c5, k5, p5, e1, e2, e3⟩ := Cond.arrayClass_spec (hts (.arrayClass .long) (by decide +kernel))
  have hao : (Cond.arrayOver (.object "java/lang/Object")).before args s = true := hts _ (by decide +kernel)
  obtain ⟨p3, c3, k3, o1, o2, o3, o4, o5⟩ := Cond.arrayOver_spec hao
  obtain ⟨mi, hmi⟩ := va_Mi.of (hs (.isRef (.mirror "[Ljava/lang/Object;")) (by decide +kernel))
  obtain ⟨t0, ct, ce, kt, f1, f2, f3, f4, f5, f6, -⟩ := Cond.exactly_spec (hs (.exactly n_D "[Ljava/lang/Object;") (by decide +kernel))
  obtain ⟨-, f7⟩ := Cond.arrayOf_spec (hs (.arrayOf n_D (.object "java/lang/Object")) (by decide +kernel)) f1 f3
  have hlen := va_eqt (hs (.eq (.length n_D) (.int 0)) (by decide +kernel))
  have f8 : ce.slots = #[] := by
    obtain ⟨b, cell, g1, g2, g3⟩ := Term.length_spec hlen
    have hsz : cell.slots.size < 2 ^ 31 := by
      simp only [Term.eval, g1, g2, Option.bind_eq_bind, Option.bind_some] at hlen
      by_cases hlt : cell.slots.size < 2147483648
      · exact hlt
      · simp [hlt] at hlen
    obtain ⟨g4, -, -, -⟩ := State.arrayAt?_spec g2
    cases f1.symm.trans g1
    cases f3.symm.trans g4
    apply Array.eq_empty_of_size_eq_zero
    have g5 : (0 : Int32) = Int32.ofNat ce.slots.size := Value.int.inj g3
    have g6 := congrArg Int32.toInt g5
    rw [Int32.toInt_ofNat_small hsz] at g6
    have g7 : (0 : Int32).toInt = 0 := by decide
    omega
  have hA : ∀ a : Nat, a < s.heap.size → ¬ (fun q : Nat => s.heap.size ≤ q) a := fun a ha => Nat.not_le.mpr ha
  obtain ⟨tt, t1, t2⟩ := va_Tof (tm := n_T "DigitTens") (ty := .byte) (N := 100) (f := fun j => .int (nI (48 + j / 10))) (A := fun q : Nat => s.heap.size ≤ q) (by decide) (hs _ (by decide +kernel)) (va_eqt (hs (.eq (.length (n_T "DigitTens")) (.int 100)) (by decide +kernel))) (fun j hj => va_eqt (hs _ (n_in n_tens j hj))) hA
  obtain ⟨to_, u1, u2⟩ := va_Tof (tm := n_T "DigitOnes") (ty := .byte) (N := 100) (f := fun j => .int (nI (48 + j % 10))) (A := fun q : Nat => s.heap.size ≤ q) (by decide) (hs _ (by decide +kernel)) (va_eqt (hs (.eq (.length (n_T "DigitOnes")) (.int 100)) (by decide +kernel))) (fun j hj => va_eqt (hs _ (n_in n_ones j hj))) hA
  have hlt : t0 < s.heap.size := (Array.getElem?_eq_some_iff.mp f3).1
  have hcc : ct = c3 := Option.some.inj (f2.symm.trans o5)
  refine ⟨(s.heap.size, (dC, dI), (fun k => if k = 21 then c1 else if k = 22 then c2 else if k = 23 then c3 else if k = 24 then c4 else c5), t0, mi, tt, to_), rfl, ⟨⟨hC, ?_⟩, ⟨?_, ?_, ?_, ?_, hmi, ?_, ?_, ?_⟩, ⟨?_, ?_, ?_, ?_, ?_, t2, ?_, u2, ?_⟩⟩, ⟨?_, rfl, Nat.le_refl _⟩, hlt⟩
  · intro k q hk
    match k, hk with
    | 0, hk =>
      have hk : some (c1, FieldType.int) = some q := hk
      cases hk
      exact ⟨n_arr a2 a3, a1⟩
    | 1, hk =>
      have hk : some (c2, FieldType.boolean) = some q := hk
      cases hk
      exact ⟨n_arr b2 b3, b1⟩
    | 2, hk =>
      have hk : some (c3, FieldType.object "java/lang/Object") = some q := hk
      cases hk
      exact ⟨n_arr o3 o4, k3, p3, o3, o4, o1, o5⟩
    | 3, hk =>
      have hk : some (c4, FieldType.byte) = some q := hk
      cases hk
      exact ⟨n_arr d2 d3, d1⟩
    | 4, hk =>
      have hk : some (c5, FieldType.long) = some q := hk
      cases hk
      exact ⟨n_arr e2 e3, e1⟩
    | k + 5, hk => exact absurd hk (by rw [List.getElem?_eq_none (by show 5 ≤ k + 5; omega)]; exact fun h => by cases h)
  · exact fun ci q hq => va_Nw.of rfl (hts _ (n_obj q (List.mem_of_getElem? hq)))
  · exact ⟨fun E hE => va_Nw.of rfl (hts _ (n_xw.1 E hE)), fun Y hY => va_Nw.of rfl (hts _ (n_xw.2 Y hY))⟩
  · exact fun E hE F hF hn => va_Nc.of (hs _ (n_nc E hE F hF hn))
  · exact va_AO.of hao
  · exact va_Dc.of (hts _ (by decide +kernel))
  · intro q hq
    obtain ⟨z1, z2⟩ := n_txt q hq
    obtain ⟨a, -, -, -, y1, -⟩ := Cond.exactly_spec (hs _ z2)
    exact ⟨a, vk_R.of (hts _ z1) y1⟩
  · exact fun q hq => va_Nw.of rfl (hts _ (n_nest q hq))
  · exact va_Zref (hts _ (by decide +kernel)) (hts _ (by decide +kernel)) f1 hA
  · exact va_Zof (hts _ (by decide +kernel)) (hts _ (by decide +kernel)) (va_eqt (hs _ (by decide +kernel))) hA
  · exact vx_Zqof (hts _ (by decide +kernel)) (hts _ (by decide +kernel)) (hs _ (by decide +kernel)) hA
  · exact vx_Zqof (hts _ (by decide +kernel)) (hts _ (by decide +kernel)) (hs _ (by decide +kernel)) hA
  · exact va_Zref (hts _ (by decide +kernel)) (hts _ (by decide +kernel)) t1 hA
  · exact va_Zref (hts _ (by decide +kernel)) (hts _ (by decide +kernel)) u1 hA
  · exact va_Zqof (hts _ (by decide +kernel)) (hts _ (by decide +kernel)) (hs _ (by decide +kernel)) hA
  · intro a ha
    have e : a = t0 := by
      by_cases h : a = t0
      · exact h
      · exact absurd (show m_kd (w_E t0 s.heap.size) a = 0 from if_neg h) ha
    subst e
    exact Or.inr ⟨(show (if a = a then 23 else 0) = 23 from if_pos rfl), rfl, ce, f3, f6.trans hcc, f7, f5, f8⟩
theorem n_DF {t n : Nat} (h : t < n) : DF (w_E t n) (fun _ => 0) t := ⟨rfl, (show (if t = t then 23 else 0) = 23 from if_pos rfl), rfl, h, fun _ => rfl⟩
