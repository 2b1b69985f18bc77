/-! the wrappers of the law: what is thrown is caught; the world is as it was, but for more cells -/
theorem m_sX_self {w : mW} : m_sX w (m_nx w) = w := rfl
def m_Qn (G : m_G) (r : Int32) (w' : mW) : Array Value → State → Outcome → State → Prop := va_Qi (S := mW) (fun r2 u => r2 = r ∧ ∃ n, m_nx w' ≤ n ∧ u = m_sX w' n) (fun u t => mP G u t.heap) (fun q => G.1 ≤ q)
def m_hw {α β : Type} (x : Option ((α ⊕ String) × mW)) (g : String → mW → Option β) (f : α → mW → Option β) : Option β := match x with
  | none => none
  | some (.inl r, w1) => f r w1
  | some (.inr E, w1) => g E w1
theorem m_h_e {α β : Type} {x : Option ((α ⊕ String) × mW)} {g : String → mW → Option β} {f : α → mW → Option β} {y : β} (h : m_hw x g f = some y) : ∃ o w1, x = some (o, w1) ∧ (∀ E, o = .inr E → g E w1 = some y) ∧ ∀ r, o = .inl r → f r w1 = some y := by
  match x, h with
  | none, h => cases h
  | some (.inl r, w1), h => exact ⟨.inl r, w1, rfl, fun E hE => (nomatch hE), fun r2 hr => by cases hr; exact h⟩
  | some (.inr E, w1), h => exact ⟨.inr E, w1, rfl, fun E2 hE => by cases hE; exact h, fun r2 hr => (nomatch hr)⟩
section MCATCH
variable {p : Program} {l : Launch} {e : Env} {R : Room} {s : State} {m : MethodId} {args : Array Value} {below : List Frame} {meth : Method} {c : Code} {H : Heap} {locs : List Loc} {cells slots : Nat} {Q : State → Prop}
variable {pc : Nat} {ls : Array Slot} {rest st0 : List Value} {a : Array Value} {H0 : Heap} {mc ms : Nat} {G : m_G} {w w' : mW} {k n : Nat}
theorem m_callhi {o : Int32 ⊕ String} (hr : vx_Run p l e R s m args below meth c H locs cells slots mc ms (F0 m pc ls st0) rest (m_Xi G o w' a) (m_XC G o w') (fun q => G.1 ≤ q)) (hS : va_S (fun q => G.1 ≤ q) H0 H locs) (hk : cells + mc ≤ k ∧ slots + ms ≤ n)
    (kx : ∀ E, o = .inr E → E ∈ m_exc → ∀ (ce : Cell) (q9 : Addr) (n1 : Nat) (H1 : Heap) (locs1 : List Loc), m_nx w' ≤ n1 → mP G (m_sX w' n1) H1 → va_S (fun q => G.1 ≤ q) H0 H1 locs1 → H1[q9]? = some ce → ce.vm = .none → s.vm.findClass E = some ce.cls → vx_W p l e R s m args below meth c H1 locs1 k n Q (F0 m pc ls rest) q9)
    (kk : ∀ r, o = .inl r → ∀ (H1 : Heap) (locs1 : List Loc), mP G w' H1 → va_S (fun q => G.1 ≤ q) H0 H1 locs1 → W p l e R s m args below meth c H1 locs1 k n Q (F0 m (pc + 3) ls (.int r :: rest))) : W p l e R s m args below meth c H locs cells slots Q (F0 m pc ls st0) := by
  refine vx_calli hr hS (fun _ _ h => h) (fun _ h => h) (fun _ _ h => h) (fun E ce q9 u t H1 locs1 ht hvm hu hB hz hkp hS1 hc9 hv9 hf9 => ?_) (fun r2 u t H1 locs1 ht _ hw hB _ _ hS1 => ?_)
  · obtain ⟨e1, e2, n1, hn, hP1⟩ := hB
    exact vx_widen hk.1 hk.2 (kx E e1.symm e2 ce q9 n1 H1 locs1 (by rw [← hu]; exact hn) (by rw [← hu, ← ht]; exact hP1) hS1 hc9 hv9 hf9)
  · exact W.widen hk.1 hk.2 (by obtain ⟨h1, rfl⟩ := hw; exact kk r2 h1.symm H1 locs1 (by rw [← ht]; exact hB) hS1)
theorem m_catch {own E : String} {ce : Cell} {q : Addr} (hown : s.vm.findClass own = some m.cls) (hM : mS G s) (hE : E ∈ m_exc) (pre : List ExceptionTableEntry) (x : ExceptionTableEntry) (suf : List ExceptionTableEntry) (hsplit : c.exceptionTable.toList = pre ++ x :: suf)
    (hpass : ∀ z ∈ pre, z.catchType ≠ 0 ∧ ∃ nm, nm ∈ m_exc ∧ (Cond.classLink own z.catchType nm).before args s = true ∧ E ≠ nm) (hx : covers x pc = true) (h0 : x.catchType ≠ 0)
    (hlink : (Cond.classLink own x.catchType E).before args s = true) (hcell : H[q]? = some ce) (hv : ce.vm = .none) (hcl : s.vm.findClass E = some ce.cls)
    (kk : W p l e R s m args below meth c H locs cells slots Q (F0 m x.handlerPc ls [.ref q])) : vx_W p l e R s m args below meth c H locs cells slots Q (F0 m pc ls rest) q :=
  vx_catch hown pre x suf hsplit (fun z hz => Or.inr ⟨(hpass z hz).1, by
    obtain ⟨-, nm, h1, h2, h3⟩ := hpass z hz
    exact ⟨nm, h2, hM.2.1.2.2.1 E hE nm h1 h3⟩⟩) hx h0 hlink (va_Nw.use rfl (hM.2.1.2.1.1 E hE)) hcell hv hcl kk
end MCATCH
