/-! THE CLAIM OUT OF ONE WALK OF THE LAW'S BODY. Your part is whole_start (and what it stands on); all else here is the same for every law, but numbers. -/
def R_law : String := "CellNotebookLaw"
def lw_P (b : Addr) (xs : List Int32) (args : Array Value) (s : State) : Prop := args = #[.ref b] ∧ s.IntsAt b xs ∧ xs.length ≤ 3584 ∧ (Jvm.Cond.and given_1 narrow_1).before args s = true
def lw_Q (_ : Array Value) (s : State) (o : Outcome) (t : State) : Prop := o = .returned (some (.int 1)) ∧ Framed s o t [] 601024 7293034
def lw_Z (below : List Frame) (a : Array Value) (s : State) : State → Prop := fun t => ∃ o, t.status = .running ∧ Ended t below o ∧ lw_Q a s o t
/-- the law's own end, with 1 on the stack, nothing written that was there before, its room as the claim has it -/
theorem lw_ret {p : Program} {l : Launch} {e : Env} {s : State} {m : MethodId} {below : List Frame} {meth : Method} {c : Code} {b : Nat} (hx : p.tables.exec = Jvm.exec) (hb : c.code = code) (hr : meth.sig.returnType = ret) (hlocks : meth.locks = false) {pc : Nat} {H : Heap} {ls : Array Slot} (hdg : decode code pc = .ok (.ireturn, 1)) : W p l e room_1 s m #[Value.ref b] below meth c H [] 601024 7293034 (lw_Z below #[Value.ref b] s) (F0 m pc ls [.int 1]) := by
  intro T hT X
  obtain ⟨fs, hret, hrun, hended, hW, hframe⟩ := X.leave (v := some (.int 1)) (hlocks := hlocks) (fun h => by rw [hr] at h; cases h)
  have hmeth' : T.vm.method? m = some meth := X.method'
  refine ⟨T.setFrames fs, ?_, .returned (some (.int 1)), hrun, hended, rfl, ⟨_, rfl⟩, hW, hframe⟩
  jvm_step X.here [X.here.top, hx, hb, hdg, hmeth', hr, ret, narrow_b1]
  (try refine ⟨rfl, ?_⟩); (try refine ⟨rfl, ?_⟩)
  first | (intro acts; rw [hret _ acts rfl rfl rfl]) | rw [hret _ _ rfl rfl rfl]
  exact Steps.refl _
/-- what holds at the law's entry: the machine, the code, the tables' words (any of lw_tbl by 'hts w (by decide +kernel)'), the script of L ints xs at the cell b, what the Statement gives of the start (any of its parts by flat_of_before) -/
def lw_At (p : Program) (s : State) (m : MethodId) (meth : Method) (c : Code) (b L : Nat) (xs : Nat → Int32) : Prop :=
  p.tables.exec = Jvm.exec ∧ c.code = code ∧ meth.sig.returnType = ret ∧ c.maxLocals = 7 ∧ s.vm.findClass R_law = some m.cls ∧ (∀ w ∈ lw_tbl, w.before #[Value.ref b] s = true) ∧ va_X b L xs s s.heap ∧ b < s.heap.size ∧ meth.locks = false ∧ (Jvm.Cond.and given_1 narrow_1).before #[Value.ref b] s = true
/-! the law's world between two calls -/
def lw_E (l : Launch) (G : m_G) (s : State) (x4 : Int32) (j L : Nat) : Prop := l.stackTraces = false ∧ mS G s ∧ G.1 = s.heap.size ∧ j < 512 ∧ vp_in x4 L ∧ ∀ q : Nat, q < 7 → vp_in (x4 + nI q) L
def lw_J (G : m_G) (s : State) (b h o : Nat) (x4 : Int32) (j : Nat) (Z : xB) (ρ : Nat → Nat) (σ : qS) (u : xS) (H : Heap) (locs : List Loc) (ls : Array Slot) (k n : Nat) : Prop :=
  LZ Z ρ G.2.2.2.1 h o σ u ∧ mP G (x_ov Z u) H ∧ va_S (fun q => G.1 ≤ q) s.heap H locs ∧ lv_has ls 7 [(0, .ref b), (1, .ref h), (2, .ref Z.2.1), (3, .ref o), (4, .int x4)] ∧ k ≤ 100 + 50 * j + 4 * q_n σ ∧ n ≤ 7000 + 6332 * j + 1215 * q_n σ
def lw_Go (p : Program) (l : Launch) (e : Env) (s : State) (m : MethodId) (below : List Frame) (meth : Method) (c : Code) (b : Nat) (G : m_G) (h o : Nat) (x4 : Int32) (j pc : Nat) : Prop :=
  ∀ (Z : xB) (ρ : Nat → Nat) (σ : qS) (u : xS) (H : Heap) (locs : List Loc) (ls : Array Slot) (k n : Nat), lw_J G s b h o x4 j Z ρ σ u H locs ls k n → W p l e room_1 s m #[Value.ref b] below meth c H locs k n (lw_Z below #[Value.ref b] s) (F0 m pc ls [])
theorem LZ_q {Z : xB} {ρ : Nat → Nat} {t0 h o : Nat} {σ : qS} {u : xS} (H : LZ Z ρ t0 h o σ u) : q_n σ ≤ 400 := H.2.2.2.2.1.2.2.2.1
theorem LZ_o {Z : xB} {ρ : Nat → Nat} {t0 h o : Nat} {σ : qS} {u : xS} (H : LZ Z ρ t0 h o σ u) (v : xS) : m_kd (x_ov Z v) o = 25 ∧ ¬ ((0 : Int32) < 0 ∨ m_ln (x_ov Z v) o ≤ (0 : Int32).toNatClampNeg) := by
  refine ⟨H.2.2.2.1.1.1, ?_⟩
  rw [show m_ln (x_ov Z v) o = 1 from H.2.2.2.1.2]
  decide +kernel
theorem lg_cmp_self (x : Int64) : lg_cmp x x = 0 := by
  unfold lg_cmp
  rw [if_neg (fun q => Int64.lt_irrefl q), if_pos rfl]
section MCALLN
variable {p : Program} {l : Launch} {e : Env} {R : Room} {s : State} {m : MethodId} {args : Array Value} {below : List Frame} {meth : Method} {c : Code} {H : Heap} {locs : List Loc} {cells slots : Nat} {Q : State → Prop}
variable {pc : Nat} {ls : Array Slot} {rest st0 : List Value} {a : Array Value} {H0 : Heap} {mc ms : Nat} {G : m_G} {w' : mW} {k n : Nat}
theorem m_calln {r : Int32} (hr : va_Run p l e R s m args below meth c H locs cells slots mc ms (F0 m pc ls st0) rest (m_Qn G r w' a) (fun q => G.1 ≤ q)) (hS : va_S (fun q => G.1 ≤ q) H0 H locs) (hk : cells + mc ≤ k ∧ slots + ms ≤ n)
    (kk : ∀ (nn : Nat) (H1 : Heap) (locs1 : List Loc), m_nx w' ≤ nn → mP G (m_sX w' nn) H1 → va_S (fun q => G.1 ≤ q) H0 H1 locs1 → W p l e R s m args below meth c H1 locs1 k n Q (F0 m (pc + 3) ls (.int r :: rest))) : W p l e R s m args below meth c H locs cells slots Q (F0 m pc ls st0) :=
  va_calli hr hS (fun _ _ h => h) (fun _ h => h) (fun r2 u t H1 locs1 ht _ hw hB _ _ hS1 => by obtain ⟨rfl, nn, hnn, rfl⟩ := hw; exact W.widen hk.1 hk.2 (kk nn H1 locs1 hnn (by rw [← ht]; exact hB) hS1))
end MCALLN
/-- the choice of the call: none of the 33 -/
theorem lw_sw {x : Int32} (h : ∀ k : Nat, k < 33 → ¬ x = nI k) : x.toInt < 0 ∨ (32 : Int) < x.toInt := by
  by_cases h1 : x.toInt < 0
  · exact Or.inl h1
  · by_cases h2 : (32 : Int) < x.toInt
    · exact Or.inr h2
    · exfalso
      have h3 : x.toInt.toNat < 33 := by omega
      apply h x.toInt.toNat h3
      apply Int32.toInt_inj.mp
      show x.toInt = (Int32.ofNat x.toInt.toNat).toInt
      rw [Int32.toInt_ofNat_small (by omega)]
      omega
theorem lw_add (a q : Nat) : nI a + nI q = nI (a + q) := (Int32.ofNat_add a q).symm
theorem lw_ends {i L : Nat} (hL : L ≤ 3584) (hi : i ≤ 3584) (h : ¬ Int32.ofNat L - 7 < nI i) : i + 7 ≤ L := by
  have h1 : (Int32.ofNat L - 7).toInt = (L : Int) - 7 := by
    rw [Int32.toInt_sub, Int32.toInt_ofNat_small (by omega)]
    rw [show (7 : Int32).toInt = 7 from by decide]
    simp only [Int.bmod_def]
    split <;> omega
  have h2 : (nI i).toInt = (i : Int) := Int32.toInt_ofNat_small (by omega)
  have h3 : ¬ (Int32.ofNat L - 7).toInt < (nI i).toInt := fun q => h (Int32.lt_iff_toInt_lt.mpr q)
  rw [h1, h2] at h3
  omega
