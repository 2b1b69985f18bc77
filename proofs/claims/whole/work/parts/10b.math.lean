/-! class and reference, call by call: what both answer, and that they go on alike -/
def JI (w : mW) (ρ : Nat → Nat) (t0 h : Nat) (σ : qS) (u : xS) : Prop := qG σ ∧ HX u σ ∧ ∃ ca ra ia ad, HC w ρ t0 h σ ca ra ia ad
def qA (cs : List (String × Int32)) (o : Int32 ⊕ String) (b t : Int32) : Prop := (∀ r, o = .inl r → t = 0 ∧ r = b) ∧ ∀ E, o = .inr E → (E, t) ∈ cs
/-- a call that may throw -/
def JG (w : mW) (ρ : Nat → Nat) (t0 h n : Nat) (cs : List (String × Int32)) (e : Option ((Int32 ⊕ String) × mW)) (f : Option (Int32 × xS)) : Prop :=
  ∃ o w' ρ' b u' σ', e = some (o, w') ∧ f = some (b, u') ∧ qA cs o b (u'.1 31) ∧ JI w' ρ' t0 h σ' u' ∧ n ≤ q_n σ' ∧ ch SC w ρ w' ρ'
/-- a call that throws nothing -/
def JN (w : mW) (ρ : Nat → Nat) (t0 h n : Nat) (e : Option (Int32 × mW)) (f : Option (Int32 × xS)) : Prop :=
  ∃ w' ρ' b u' σ', e = some (b, w') ∧ f = some (b, u') ∧ JI w' ρ' t0 h σ' u' ∧ n ≤ q_n σ' ∧ ch SC w ρ w' ρ'
def IOB : String := "java/lang/IndexOutOfBoundsException"
def IAE : String := "java/lang/IllegalArgumentException"
def ISE : String := "java/lang/IllegalStateException"
section JQ
variable {w : mW} {ρ : Nat → Nat} {t0 : Nat × Nat × Nat × Nat} {h : Nat} {σ : qS} {u : xS} {ca ra ia ad : Nat → Nat}
theorem JI_xs {t h : Nat} {u' : xS} (J : JI w ρ t h σ u) (g : xs u u') : JI w ρ t h σ u' := ⟨J.1, HX_xs J.2.1 g, J.2.2⟩
theorem JG_err {t h : Nat} {cs : List (String × Int32)} {e : Option ((Int32 ⊕ String) × mW)} {f : Option (Int32 × xS)} {E : String} {b x : Int32} {u1 : xS} (J : JI w ρ t h σ u) (he : e = some (.inr E, w)) (hf : f = some (b, x_sI u1 31 x)) (hx : xs u u1) (hm : (E, x) ∈ cs) : JG w ρ t h (q_n σ) cs e f :=
  ⟨.inr E, w, ρ, b, x_sI u1 31 x, σ, he, hf, ⟨fun r hr => (nomatch hr), fun F hF => by cases hF; rw [xI_s]; exact hm⟩, JI_xs J (xs_trans hx (xs_sI (by decide))), Nat.le_refl _, ch_rfl⟩
theorem JG_ok {t h : Nat} {cs : List (String × Int32)} {e : Option ((Int32 ⊕ String) × mW)} {f : Option (Int32 × xS)} {b : Int32} {u1 : xS} (J : JI w ρ t h σ u) (he : e = some (.inl b, w)) (hf : f = some (b, u1)) (hx : xs u u1) (h0 : u1.1 31 = 0) : JG w ρ t h (q_n σ) cs e f :=
  ⟨.inl b, w, ρ, b, u1, σ, he, hf, ⟨fun r hr => by cases hr; exact ⟨h0, rfl⟩, fun F hF => (nomatch hF)⟩, JI_xs J hx, Nat.le_refl _, ch_rfl⟩
theorem JN_ok {t h : Nat} {e : Option (Int32 × mW)} {f : Option (Int32 × xS)} {b : Int32} {u1 : xS} (J : JI w ρ t h σ u) (he : e = some (b, w)) (hf : f = some (b, u1)) (hx : xs u u1) : JN w ρ t h (q_n σ) e f :=
  ⟨w, ρ, b, u1, σ, he, hf, JI_xs J hx, Nat.le_refl _, ch_rfl⟩
/-! the class's tests -/
theorem C_userY {k : Nat} (hk : k < 5) : e_X6_requireUser w (nI k) = some (.inl (), w) := by
  unfold e_X6_requireUser
  rw [if_neg (nI_pos (by omega)), if_pos (show nI k < 5 from nI_lt (b := 5) hk (by decide))]
theorem C_userN {p : Int32} (hp : p < 0 ∨ nI 5 ≤ p) : e_X6_requireUser w p = some (.inr IOB, w) := by
  unfold e_X6_requireUser e_X6_requireUser_9
  by_cases c : p < 0
  · rw [if_pos c]; rfl
  · rw [if_neg c, if_neg (show ¬ p < 5 from fun q => Int32.not_le.mpr q (hp.resolve_left c))]; rfl
theorem C_nameY {k : Nat} (hk : k < 8) : e_X6_requireName w (nI k) = some (.inl (), w) := by
  unfold e_X6_requireName
  rw [nb_isName hk, m_b_s, if_neg nb_10]
theorem C_nameN {p : Int32} (hp : p < 0 ∨ nI 8 ≤ p) : e_X6_requireName w p = some (.inr IOB, w) := by
  unfold e_X6_requireName
  rw [nb_isNameN hp, m_b_s, if_pos rfl]; rfl
theorem HC_a0 (H : HC w ρ t0.1 h σ ca ra ia ad) : AL w ρ t0.1 (ad 0) 10 ((List.range (q_N σ)).map ca) := H.2.1
theorem HC_a1 (H : HC w ρ t0.1 h σ ca ra ia ad) : AL w ρ t0.1 (ad 1) 12 ((q_O σ).map ca) := H.2.2.1
theorem HC_a2 (H : HC w ρ t0.1 h σ ca ra ia ad) : AL w ρ t0.1 (ad 2) 14 ((List.range (q_n σ)).map ra) := H.2.2.2.1
theorem HC_a3 (H : HC w ρ t0.1 h σ ca ra ia ad) : AL w ρ t0.1 (ad 3) 16 ((q_G σ).map ra) := H.2.2.2.2.1
theorem HC_a4 (H : HC w ρ t0.1 h σ ca ra ia ad) : AL w ρ t0.1 (ad 4) 18 ((List.range (q_m σ)).map ia) := H.2.2.2.2.2.1
theorem C_cellY (H : HC w ρ t0.1 h σ ca ra ia ad) (hG : qG σ) {k : Nat} (hk : k < q_N σ) : e_X6_requireCell w h (nI k) = some (.inl (ca k), w) := by
  have hN := hG.1
  have hA := HC_a0 H
  unfold e_X6_requireCell
  rw [if_neg (nI_pos (by omega)), m_g_t (HC_kd H), HC_fr H (by decide), m_o_s, m_g_t (AL_k3 hA), AL_size2 hA, m_b_s, if_pos (nI_lt hk (by omega)), m_g_t (HC_kd H), HC_fr H (by decide), m_o_s, m_g_t (AL_k3 hA), AL_get2 hA hk, m_b_s, m_g_t (HC_ck H hk)]
theorem C_cellN (H : HC w ρ t0.1 h σ ca ra ia ad) {p : Int32} (hp : p < 0 ∨ nI (q_N σ) ≤ p) : e_X6_requireCell w h p = some (.inr IOB, w) := by
  have hA := HC_a0 H
  unfold e_X6_requireCell e_X6_requireCell_15
  by_cases c : p < 0
  · rw [if_pos c]; rfl
  · rw [if_neg c, m_g_t (HC_kd H), HC_fr H (by decide), m_o_s, m_g_t (AL_k3 hA), AL_size2 hA, m_b_s, if_neg (fun q => Int32.not_le.mpr q (hp.resolve_left c))]; rfl
theorem C_placeY (H : HC w ρ t0.1 h σ ca ra ia ad) (hG : qG σ) {k : Nat} (hk : k < q_N σ) : e_X6_requirePlace w h (nI k) = some (.inl (), w) := by
  have hN := hG.1
  have hA := HC_a1 H
  unfold e_X6_requirePlace
  rw [if_neg (nI_pos (by omega)), m_g_t (HC_kd H), HC_fr H (by decide), m_o_s, m_g_t (AL_k3 hA), AL_size3 hA, m_b_s, hG.2.1.1, if_pos (nI_lt hk (by omega))]
theorem C_placeN (H : HC w ρ t0.1 h σ ca ra ia ad) (hG : qG σ) {p : Int32} (hp : p < 0 ∨ nI (q_N σ) ≤ p) : e_X6_requirePlace w h p = some (.inr IOB, w) := by
  have hA := HC_a1 H
  unfold e_X6_requirePlace e_X6_requirePlace_15
  by_cases c : p < 0
  · rw [if_pos c]; rfl
  · rw [if_neg c, m_g_t (HC_kd H), HC_fr H (by decide), m_o_s, m_g_t (AL_k3 hA), AL_size3 hA, m_b_s, hG.2.1.1, if_neg (fun q => Int32.not_le.mpr q (hp.resolve_left c))]; rfl
theorem C_rightOf (H : HC w ρ t0.1 h σ ca ra ia ad) {i k : Nat} (hi : i < 5) (hk : k < q_N σ) : e_X1_rightOf w (ca k) (nI i) = some (nI (q_R σ k i), w) := by
  obtain ⟨Lp, b, -⟩ := HC_ce H hk
  exact CE_rightOf b hi
theorem C_allows (H : HC w ρ t0.1 h σ ca ra ia ad) (hG : qG σ) {i k x : Nat} (hi : i < 5) (hk : k < q_N σ) (hx : x < 10) : e_X1_allows w (ca k) (nI i) (nI x) = some (if q_R σ k i < x then 0 else 1, w) := by
  obtain ⟨Lp, b, -⟩ := HC_ce H hk
  have hR := (hG.2.2.1 k hk).2.2.2.2 i hi
  rw [CE_allows b hi]
  by_cases c : q_R σ k i < x
  · rw [if_pos (nI_lt c (by omega)), if_pos c]
  · rw [if_neg (nI_nlt (by omega) (by omega)), if_neg c]
theorem C_right (H : HC w ρ t0.1 h σ ca ra ia ad) (hG : qG σ) {i k x : Nat} (hi : i < 5) (hk : k < q_N σ) (hx : x < 10) : e_X6_requireRight w (ca k) (nI i) (nI x) = some (if q_R σ k i < x then .inr ISE else .inl (), w) := by
  unfold e_X6_requireRight
  rw [m_g_t (HC_ck H hk), C_allows H hG hi hk hx, m_b_s]
  by_cases c : q_R σ k i < x
  · rw [if_pos c, if_pos rfl, if_pos c]; rfl
  · rw [if_neg c, if_neg nb_10, if_neg c]
theorem C_last (H : HC w ρ t0.1 h σ ca ra ia ad) (hG : qG σ) {k : Nat} (hk : k < q_N σ) : e_X6_lastRunMadeOf w h (ca k) = some (if q_L σ k = 0 then none else some (ra (q_L σ k - 1)), w) := by
  have hN := hG.1
  have hn := hG.2.2.2.1
  have hL : q_L σ k ≤ q_n σ := (hG.2.2.2.2.1.2 k).1
  unfold e_X6_lastRunMadeOf
  rw [m_g_t (HC_kd H), HC_fr H (by decide), m_o_s, m_g_t (HC_ck H hk), m_g_t (SE_kd (HC_now H)).1, HC_cn H hk, HC_L H (by omega), m_b_s, m_g_t (HC_kd H), HC_runN H hG (by omega), m_b_s]
  by_cases c : q_L σ k = 0
  · rw [if_neg (fun q => by omega), if_pos c, m_n_0]
  · rw [if_pos ⟨by omega, hL⟩, if_neg c, m_n_1]
theorem pos_le {n : Nat} (hn : n < 2 ^ 31) : (nI n ≤ (0 : Int32)) ↔ n = 0 := by
  constructor
  · intro q
    by_cases c : n = 0
    · exact c
    · exact absurd q (nI_nle (by omega) hn)
  · intro q
    rw [q]
    decide
/-! the calls that only ask -/
theorem J_cellCount (J : JI w ρ t0.1 h σ u) : JN w ρ t0.1 h (q_n σ) (e_X6_cellCount w h) (f_X7_cellCount u) := by
  obtain ⟨hG, HXu, ca, ra, ia, ad, H⟩ := id J
  refine JN_ok J (b := nI (q_N σ)) (u1 := x_sI u 31 0) ?_ ?_ (xs_sI (by decide))
  · unfold e_X6_cellCount
    rw [m_g_t (HC_kd H), HC_fr H (by decide), m_o_s, m_g_t (AL_k3 (HC_a0 H)), AL_size2 (HC_a0 H), m_b_s]
  · unfold f_X7_cellCount
    rw [X_told, m_b_s, HXu.1.1]
theorem J_runs (J : JI w ρ t0.1 h σ u) : JN w ρ t0.1 h (q_n σ) (e_X6_runs w h) (f_X7_runs_ u) := by
  obtain ⟨hG, HXu, ca, ra, ia, ad, H⟩ := id J
  refine JN_ok J (b := nI (q_n σ)) (u1 := x_sI u 31 0) ?_ ?_ (xs_sI (by decide))
  · unfold e_X6_runs
    rw [m_g_t (HC_kd H), HC_fr H (by decide), m_o_s, m_g_t (AL_k3 (HC_a2 H)), AL_size2 (HC_a2 H), m_b_s]
  · unfold f_X7_runs_
    rw [X_told, m_b_s, HXu.1.2.1]
theorem J_cellAt (J : JI w ρ t0.1 h σ u) (p : Int32) : JG w ρ t0.1 h (q_n σ) [(IOB, 1)] (e_X6_cellAt w h p) (f_X7_cellAt u p) := by
  obtain ⟨hG, HXu, ca, ra, ia, ad, H⟩ := id J
  have hN := hG.1
  have hA := HC_a1 H
  unfold e_X6_cellAt f_X7_cellAt
  rw [m_g_t (HC_kd H), HXu.1.1]
  rcases X_ix (p := p) (n := q_N σ) (by omega) with hp | ⟨k, hk, rfl⟩
  · rw [C_placeN H hG hp, m_t_x, X_inN (by omega) hp, m_b_s, X_goes0, m_b_s, if_pos rfl]
    exact JG_err J rfl rfl xs_rfl (List.mem_cons_self ..)
  · have hl : k < (q_O σ).length := by rw [hG.2.1.1]; exact hk
    have hO := (hG.2.1.2.2 _).mp (List.getElem_mem hl)
    rw [C_placeY H hG hk, m_t_s, m_g_t (HC_kd H), HC_fr H (by decide), m_o_s, m_g_t (AL_k3 hA), AL_get3 hA hl, m_b_s, m_g_t (HC_ck H hO), HC_cn H hO, X_inY hk (by omega), m_b_s, X_goes1, m_b_s, if_neg nb_10, m_g_t (nI_in (by omega) (by decide)), nI_clamp (by omega)]
    refine JG_ok J rfl ?_ (u1 := x_sI u 31 0) (xs_sI (by decide)) xI_s
    unfold f_X7_cellAt_30
    have e : (x_sI u 31 0).2 1 k = nI (q_O σ)[k] := by
      show u.2 1 k = _
      rw [HXu.2.1 k hk]
      simp [hl]
    rw [e]
theorem J_right (J : JI w ρ t0.1 h σ u) (p0 p1 : Int32) : JG w ρ t0.1 h (q_n σ) [(IOB, 1)] (e_X6_right w h p0 p1) (f_X7_right u p0 p1) := by
  obtain ⟨hG, HXu, ca, ra, ia, ad, H⟩ := id J
  have hN := hG.1
  unfold e_X6_right f_X7_right f_X7_right_20 f_X7_right_21 f_X7_right_39
  rcases X_ix (p := p0) (n := 5) (by decide) with hp | ⟨i, hi, rfl⟩
  · rw [C_userN hp, m_t_x, X_userN hp, m_b_s, if_pos rfl, X_goes0, m_b_s, if_pos rfl]
    exact JG_err J rfl rfl xs_rfl (List.mem_cons_self ..)
  · rw [C_userY hi, m_t_s, m_g_t (HC_kd H), X_userY hi, m_b_s, if_neg nb_10]
    rcases X_ix (p := p1) (n := q_N σ) (by omega) with hp | ⟨k, hk, rfl⟩
    · rw [C_cellN H hp, m_t_x, X_cellN HXu.1.1 hN hp, m_b_s, if_pos rfl, X_goes0, m_b_s, if_pos rfl]
      exact JG_err J rfl rfl xs_rfl (List.mem_cons_self ..)
    · have g : xs u (x_sI u 31 0) := xs_sI (by decide)
      rw [C_cellY H hG hk, m_t_s, m_g_t (HC_ck H hk), C_rightOf H hi hk, m_b_s, X_cellY HXu.1.1 hk hN, m_b_s, if_neg nb_10, X_goes1, m_b_s, if_neg nb_10, X_rightOf (HX_xs HXu g) hG hi hk, m_b_s]
      exact JG_ok J rfl rfl g xI_s
theorem J_isSet (J : JI w ρ t0.1 h σ u) (p : Int32) : JG w ρ t0.1 h (q_n σ) [(IOB, 1)] (e_X6_isSet w h p) (f_X7_isSet u p) := by
  obtain ⟨hG, HXu, ca, ra, ia, ad, H⟩ := id J
  have hn := hG.2.2.2.1
  unfold e_X6_isSet f_X7_isSet f_X7_isSet_26 f_X7_isSet_27
  rcases X_ix (p := p) (n := 8) (by decide) with hp | ⟨k, hk, rfl⟩
  · rw [C_nameN hp, m_t_x, X_nameN hp, m_b_s, X_goes0, m_b_s, if_pos rfl, m_g_t vb0]
    exact JG_err J rfl rfl xs_rfl (List.mem_cons_self ..)
  · obtain ⟨na, n1, n2, n3⟩ := HC_nm H
    have hS : q_S σ k ≤ q_n σ := (hG.2.2.2.2.1.1 k hk).1
    have e : (x_sI u 31 0).2 11 k = nI (q_S σ k) := (HXu.2.2.2.2.2.1 k hk).1
    rw [C_nameY hk, m_t_s, m_g_t (HC_kd H), HC_fr H (by decide), m_o_s, m_g_t n1, n2, m_o_s, m_g_t (NM_kd n3).1, NM_hold n3 hk, m_b_s, X_nameY hk, m_b_s, X_goes1, m_b_s, if_neg nb_10, m_g_t (nI_in hk (by decide)), nI_clamp (by omega), e]
    by_cases c : q_S σ k = 0
    · rw [if_pos (by rw [c]; exact nI_0), m_g_t vb0, if_pos ((pos_le (by omega)).mpr c), m_g_t vb0]
      exact JG_ok J rfl rfl (xs_sI (by decide)) xI_s
    · rw [if_neg (nI_ne0 (by omega) (by omega)), m_g_t vb1, if_neg (fun q => c ((pos_le (by omega)).mp q)), m_g_t vb1]
      exact JG_ok J rfl rfl (xs_sI (by decide)) xI_s
theorem J_value (J : JI w ρ t0.1 h σ u) (p : Int32) : JG w ρ t0.1 h (q_n σ) [(IOB, 1), (ISE, 2)] (e_X6_value w h p) (f_X7_value u p) := by
  obtain ⟨hG, HXu, ca, ra, ia, ad, H⟩ := id J
  have hn := hG.2.2.2.1
  unfold e_X6_value f_X7_value f_X7_value_24 f_X7_value_25 f_X7_value_42 e_X6_requireValue
  rcases X_ix (p := p) (n := 8) (by decide) with hp | ⟨k, hk, rfl⟩
  · rw [C_nameN hp, m_t_x, X_nameN hp, m_b_s, if_pos rfl, X_goes0, m_b_s, if_pos rfl]
    exact JG_err J rfl rfl xs_rfl (List.mem_cons_self ..)
  · obtain ⟨na, n1, n2, n3⟩ := HC_nm H
    have hS : q_S σ k ≤ q_n σ := (hG.2.2.2.2.1.1 k hk).1
    obtain ⟨e1, e2, -⟩ := HXu.2.2.2.2.2.1 k hk
    rw [C_nameY hk, m_t_s, m_g_t (HC_kd H), HC_fr H (by decide), m_o_s, m_g_t n1, n2, m_o_s, m_g_t (NM_kd n3).1, NM_hold n3 hk, m_b_s, X_nameY hk, m_b_s, if_neg nb_10, m_g_t (nI_in hk (by decide)), nI_clamp (by omega), e1]
    by_cases c : q_S σ k = 0
    · rw [if_pos (by rw [c]; exact nI_0), m_t_x, if_pos ((pos_le (by omega)).mpr c), X_goes10, m_b_s, if_pos rfl]
      exact JG_err J rfl rfl xs_rfl (List.mem_cons_of_mem _ (List.mem_cons_self ..))
    · rw [if_neg (nI_ne0 (by omega) (by omega)), if_neg nb_10, m_g_t (NM_kd n3).1, NM_valueOf n3 hk, m_b_s, m_t_s, if_neg (fun q => c ((pos_le (by omega)).mp q)), X_goes1, m_b_s, if_neg nb_10, m_g_t (nI_in2 hk (by decide))]
      have e : (x_sI u 31 0).2 10 k = q_V σ k := e2 c
      rw [e]
      exact JG_ok J rfl rfl (xs_sI (by decide)) xI_s
theorem J_stamp (J : JI w ρ t0.1 h σ u) (p : Int32) : JG w ρ t0.1 h (q_n σ) [(IOB, 1)] (e_X6_stamp w h p) (f_X7_stamp u p) := by
  obtain ⟨hG, HXu, ca, ra, ia, ad, H⟩ := id J
  unfold e_X6_stamp f_X7_stamp f_X7_stamp_23
  rcases X_ix (p := p) (n := 8) (by decide) with hp | ⟨k, hk, rfl⟩
  · rw [C_nameN hp, m_t_x, X_nameN hp, m_b_s, X_goes0, m_b_s, if_pos rfl]
    exact JG_err J rfl rfl xs_rfl (List.mem_cons_self ..)
  · obtain ⟨na, n1, n2, n3⟩ := HC_nm H
    have e : (x_sI u 31 0).2 11 k = nI (q_S σ k) := (HXu.2.2.2.2.2.1 k hk).1
    rw [C_nameY hk, m_t_s, m_g_t (HC_kd H), HC_fr H (by decide), m_o_s, m_g_t n1, n2, m_o_s, m_g_t (NM_kd n3).1, NM_stampOf n3 hk, m_b_s, X_nameY hk, m_b_s, X_goes1, m_b_s, if_neg nb_10, m_g_t (nI_in hk (by decide)), nI_clamp (by omega), e]
    exact JG_ok J rfl rfl (xs_sI (by decide)) xI_s
theorem J_lastRun (J : JI w ρ t0.1 h σ u) (p : Int32) : JG w ρ t0.1 h (q_n σ) [(IOB, 1)] (e_X6_lastRun w h p) (f_X7_lastRun u p) := by
  obtain ⟨hG, HXu, ca, ra, ia, ad, H⟩ := id J
  have hN := hG.1
  unfold e_X6_lastRun f_X7_lastRun f_X7_lastRun_24
  rw [m_g_t (HC_kd H), HC_fr H (by decide), m_o_s]
  rcases X_ix (p := p) (n := q_N σ) (by omega) with hp | ⟨k, hk, rfl⟩
  · rw [C_cellN H hp, m_t_x, X_cellN HXu.1.1 hN hp, m_b_s, X_goes0, m_b_s, if_pos rfl]
    exact JG_err J rfl rfl xs_rfl (List.mem_cons_self ..)
  · have e : (x_sI u 31 0).2 8 k = nI (q_L σ k) := HXu.2.2.2.2.1 k (by omega)
    rw [C_cellY H hG hk, m_t_s, m_g_t (HC_ck H hk), m_g_t (SE_kd (HC_now H)).1, HC_cn H hk, HC_L H (by omega), m_b_s, X_cellY HXu.1.1 hk hN, m_b_s, X_goes1, m_b_s, if_neg nb_10, m_g_t (nI_in (by omega) (by decide)), nI_clamp (by omega), e]
    exact JG_ok J rfl rfl (xs_sI (by decide)) xI_s
/-- what the reference's rows say of a last run -/
theorem X_lastOf (hG : qG σ) (HXu : HX u σ) {k : Nat} (h0 : q_L σ k ≠ 0) : u.2 16 (q_L σ k) = nI (q_r σ (q_L σ k - 1)).2.2.2.1 ∧ u.2 18 (q_L σ k) = (if (q_r σ (q_L σ k - 1)).2.2.1 = none then 0 else 1) ∧ ∀ z, (q_r σ (q_L σ k - 1)).2.2.1 = some z → u.2 17 (q_L σ k) = z := by
  have hL : q_L σ k ≤ q_n σ := (hG.2.2.2.2.1.2 k).1
  obtain ⟨x1, x2, x3, x4, x5, x6, x7⟩ := HXu.2.2.2.2.2.2.1 (q_L σ k - 1) (by omega)
  have e1 : q_L σ k - 1 + 1 = q_L σ k := by omega
  rw [e1] at x3 x4 x5
  exact ⟨x3, x4, x5⟩
theorem J_hasResult (J : JI w ρ t0.1 h σ u) (p : Int32) : JG w ρ t0.1 h (q_n σ) [(IOB, 1)] (e_X6_hasResult w h p) (f_X7_hasResult u p) := by
  obtain ⟨hG, HXu, ca, ra, ia, ad, H⟩ := id J
  have hN := hG.1
  have hn := hG.2.2.2.1
  unfold e_X6_hasResult f_X7_hasResult f_X7_hasResult_32 f_X7_hasResult_33 e_X6_hasResult_25 e_X6_hasResult_26
  rw [m_g_t (HC_kd H)]
  rcases X_ix (p := p) (n := q_N σ) (by omega) with hp | ⟨k, hk, rfl⟩
  · rw [C_cellN H hp, m_t_x, X_cellN HXu.1.1 hN hp, m_b_s, X_goes0, m_b_s, if_pos rfl, m_g_t vb0]
    exact JG_err J rfl rfl xs_rfl (List.mem_cons_self ..)
  · have e : (x_sI u 31 0).2 8 k = nI (q_L σ k) := HXu.2.2.2.2.1 k (by omega)
    have hL : q_L σ k ≤ q_n σ := (hG.2.2.2.2.1.2 k).1
    rw [C_cellY H hG hk, m_t_s, m_g_t (HC_kd H), C_last H hG hk, m_b_s, X_cellY HXu.1.1 hk hN, m_b_s, X_goes1, m_b_s, if_neg nb_10, m_g_t (nI_in (by omega) (by decide)), nI_clamp (by omega), e, m_g_t (nI_in (by omega) (by decide)), nI_clamp (by omega)]
    by_cases c : q_L σ k = 0
    · rw [if_pos c, m_n_0, m_g_t vb0, c, show (x_sI u 31 0).2 18 0 = 0 from HXu.2.2.2.2.2.2.2.2.1.2, if_pos rfl, m_g_t vb0]
      exact JG_ok J rfl rfl (xs_sI (by decide)) xI_s
    · obtain ⟨d1, d2, d3, d4, d5, d6, d7⟩ := HC_rn H (i := q_L σ k - 1) (by omega)
      obtain ⟨y1, y2, y3⟩ := X_lastOf hG HXu c
      rw [if_neg c, m_n_1, m_g_t d1, d5, show (x_sI u 31 0).2 18 (q_L σ k) = _ from y2]
      by_cases c2 : (q_r σ (q_L σ k - 1)).2.2.1 = none
      · rw [if_pos c2, if_pos rfl, m_g_t vb0]
        exact JG_ok J rfl rfl (xs_sI (by decide)) xI_s
      · rw [if_neg c2, if_neg nb_10, m_g_t vb1]
        exact JG_ok J rfl rfl (xs_sI (by decide)) xI_s
theorem J_seen (J : JI w ρ t0.1 h σ u) (p : Int32) : JG w ρ t0.1 h (q_n σ) [(IOB, 1)] (e_X6_seen w h p) (f_X7_seen u p) := by
  obtain ⟨hG, HXu, ca, ra, ia, ad, H⟩ := id J
  have hN := hG.1
  have hn := hG.2.2.2.1
  unfold e_X6_seen f_X7_seen f_X7_seen_29 e_X6_seen_22
  rw [m_g_t (HC_kd H)]
  rcases X_ix (p := p) (n := q_N σ) (by omega) with hp | ⟨k, hk, rfl⟩
  · rw [C_cellN H hp, m_t_x, X_cellN HXu.1.1 hN hp, m_b_s, X_goes0, m_b_s, if_pos rfl]
    exact JG_err J rfl rfl xs_rfl (List.mem_cons_self ..)
  · have e : (x_sI u 31 0).2 8 k = nI (q_L σ k) := HXu.2.2.2.2.1 k (by omega)
    have hL : q_L σ k ≤ q_n σ := (hG.2.2.2.2.1.2 k).1
    rw [C_cellY H hG hk, m_t_s, m_g_t (HC_kd H), C_last H hG hk, m_b_s, X_cellY HXu.1.1 hk hN, m_b_s, X_goes1, m_b_s, if_neg nb_10, m_g_t (nI_in (by omega) (by decide)), nI_clamp (by omega), e, m_g_t (nI_in (by omega) (by decide)), nI_clamp (by omega)]
    by_cases c : q_L σ k = 0
    · rw [if_pos c, m_n_0, c, show (x_sI u 31 0).2 16 0 = 0 from HXu.2.2.2.2.2.2.2.2.1.1]
      exact JG_ok J rfl rfl (xs_sI (by decide)) xI_s
    · obtain ⟨d1, d2, d3, d4, d5, d6, d7⟩ := HC_rn H (i := q_L σ k - 1) (by omega)
      obtain ⟨y1, y2, y3⟩ := X_lastOf hG HXu c
      rw [if_neg c, m_n_1, m_g_t d1, d7, show (x_sI u 31 0).2 16 (q_L σ k) = _ from y1]
      exact JG_ok J rfl rfl (xs_sI (by decide)) xI_s
theorem J_result (J : JI w ρ t0.1 h σ u) (p0 p1 : Int32) : JG w ρ t0.1 h (q_n σ) [(IOB, 1), (ISE, 2)] (e_X6_result w h p0 p1) (f_X7_result u p0 p1) := by
  obtain ⟨hG, HXu, ca, ra, ia, ad, H⟩ := id J
  have hN := hG.1
  have hn := hG.2.2.2.1
  unfold e_X6_result f_X7_result f_X7_result_19 f_X7_result_20 f_X7_result_55 f_X7_result_56 f_X7_result_78 e_X6_result_36
  rcases X_ix (p := p0) (n := 5) (by decide) with hp | ⟨i, hi, rfl⟩
  · rw [C_userN hp, m_t_x, X_userN hp, m_b_s, if_pos rfl, if_pos rfl, X_goes0, m_b_s, if_pos rfl]
    exact JG_err J rfl rfl xs_rfl (List.mem_cons_self ..)
  · rw [C_userY hi, m_t_s, m_g_t (HC_kd H), X_userY hi, m_b_s, if_neg nb_10]
    rcases X_ix (p := p1) (n := q_N σ) (by omega) with hp | ⟨k, hk, rfl⟩
    · rw [C_cellN H hp, m_t_x, X_cellN HXu.1.1 hN hp, m_b_s, if_pos rfl, if_pos rfl, X_goes0, m_b_s, if_pos rfl]
      exact JG_err J rfl rfl xs_rfl (List.mem_cons_self ..)
    · have hR := (hG.2.2.1 k hk).2.2.2.2 i hi
      have hL : q_L σ k ≤ q_n σ := (hG.2.2.2.2.1.2 k).1
      rw [C_cellY H hG hk, m_t_s, show (1 : Int32) = nI 1 from rfl, C_right H hG hi hk (by decide), X_cellY HXu.1.1 hk hN, m_b_s, show nI 1 = (1 : Int32) from rfl, if_neg nb_10, if_neg nb_10, X_rightOf HXu hG hi hk, m_b_s]
      by_cases c : q_R σ k i < 1
      · rw [if_pos c, m_t_x, if_pos (show nI (q_R σ k i) < 1 from nI_lt (b := 1) c (by decide)), X_goes10, m_b_s, if_pos rfl]
        exact JG_err J rfl rfl xs_rfl (List.mem_cons_of_mem _ (List.mem_cons_self ..))
      · rw [if_neg c, m_t_s, m_g_t (HC_kd H), C_last H hG hk, m_b_s, if_neg (show ¬ nI (q_R σ k i) < 1 from nI_nlt (b := 1) (by omega) (by omega)), m_g_t (nI_in (by omega) (by decide)), nI_clamp (by omega), HXu.2.2.2.2.1 k (by omega), m_g_t (nI_in (by omega) (by decide)), nI_clamp (by omega)]
        by_cases c1 : q_L σ k = 0
        · rw [if_pos c1, m_n_0, c1, HXu.2.2.2.2.2.2.2.2.1.2, if_pos rfl, X_goes10, m_b_s, if_pos rfl]
          exact JG_err J rfl rfl xs_rfl (List.mem_cons_of_mem _ (List.mem_cons_self ..))
        · obtain ⟨d1, d2, d3, d4, d5, d6, d7⟩ := HC_rn H (i := q_L σ k - 1) (by omega)
          obtain ⟨y1, y2, y3⟩ := X_lastOf hG HXu c1
          rw [if_neg c1, m_n_1, m_g_t d1, d5, y2]
          by_cases c2 : (q_r σ (q_L σ k - 1)).2.2.1 = none
          · rw [if_pos c2, if_pos rfl, if_pos rfl, X_goes10, m_b_s, if_pos rfl]
            exact JG_err J rfl rfl xs_rfl (List.mem_cons_of_mem _ (List.mem_cons_self ..))
          · obtain ⟨z, hz⟩ := Option.ne_none_iff_exists'.mp c2
            have e : (x_sI u 31 0).2 8 k = nI (q_L σ k) := HXu.2.2.2.2.1 k (by omega)
            have e17 : (x_sI u 31 0).2 17 (q_L σ k) = z := y3 z hz
            rw [if_neg c2, if_neg nb_10, if_neg nb_10, d6 z hz, X_goes1, m_b_s, if_neg nb_10, m_g_t (nI_in2 (c := k) (by omega) (by decide)), e, m_g_t (nI_in (by omega) (by decide)), nI_clamp (by omega), e17]
            exact JG_ok J rfl rfl (xs_sI (by decide)) xI_s
theorem C_times_loop (H : HC w ρ t0.1 h σ ca ra ia ad) (hG : qG σ) {j : Nat} (hj : j < 8) : ∀ (d f i : Nat), d < f → i + d = q_n σ → e_X6_timesSeen_8 f w h (nI j) (nI (nb_cnt (fun k => (q_r σ k).2.2.2.1.testBit j) i)) (nI i) = some (.inl (nI (nb_cnt (fun k => (q_r σ k).2.2.2.1.testBit j) (q_n σ))), w) := by
  have hn := hG.2.2.2.1
  have hA := HC_a2 H
  intro d
  induction d with
  | zero =>
    intro f i hf hi
    obtain ⟨f, rfl⟩ : ∃ q, f = q + 1 := ⟨f - 1, by omega⟩
    have hi2 : i = q_n σ := by omega
    subst hi2
    show e_X6_timesSeen_8_b (e_X6_timesSeen_8 f) _ _ _ _ _ = _
    unfold e_X6_timesSeen_8_b
    rw [m_g_t (HC_kd H), HC_fr H (by decide), m_o_s, m_g_t (AL_k3 hA), AL_size2 hA, m_b_s, if_pos (nI_le (Nat.le_refl _) (by omega))]
  | succ d ih =>
    intro f i hf hi
    obtain ⟨f, rfl⟩ : ∃ q, f = q + 1 := ⟨f - 1, by omega⟩
    have hi2 : i < q_n σ := by omega
    have IH := ih f (i + 1) (by omega) (by omega)
    have e : nb_cnt (fun k => (q_r σ k).2.2.2.1.testBit j) (i + 1) = nb_cnt (fun k => (q_r σ k).2.2.2.1.testBit j) i + (if (q_r σ i).2.2.2.1.testBit j = true then 1 else 0) := rfl
    rw [e] at IH
    show e_X6_timesSeen_8_b (e_X6_timesSeen_8 f) _ _ _ _ _ = _
    unfold e_X6_timesSeen_8_b e_X6_timesSeen_40
    rw [m_g_t (HC_kd H), HC_fr H (by decide), m_o_s, m_g_t (AL_k3 hA), AL_size2 hA, m_b_s, if_neg (nI_ge hi2 (by omega)), m_g_t (HC_kd H), HC_fr H (by decide), m_o_s, m_g_t (AL_k3 hA), AL_get2 hA hi2, m_b_s, m_g_t (HC_rn H hi2).1, RU_saw (HC_ru H hi2) hj, m_b_s, nI_1]
    by_cases c : (q_r σ i).2.2.2.1.testBit j = true
    · rw [if_pos c] at IH
      rw [if_pos c, if_neg nb_10, nI_1]
      exact IH
    · rw [if_neg c] at IH
      rw [if_neg c, if_pos rfl]
      exact IH
theorem J_timesSeen (J : JI w ρ t0.1 h σ u) (p : Int32) : JG w ρ t0.1 h (q_n σ) [(IOB, 1)] (e_X6_timesSeen w h p) (f_X7_timesSeen u p) := by
  obtain ⟨hG, HXu, ca, ra, ia, ad, H⟩ := id J
  have hn := hG.2.2.2.1
  unfold e_X6_timesSeen f_X7_timesSeen f_X7_timesSeen_23
  rcases X_ix (p := p) (n := 8) (by decide) with hp | ⟨k, hk, rfl⟩
  · rw [C_nameN hp, m_t_x, X_nameN hp, m_b_s, X_goes0, m_b_s, if_pos rfl]
    exact JG_err J rfl rfl xs_rfl (List.mem_cons_self ..)
  · have e : (x_sI u 31 0).2 12 k = nI (nb_cnt (fun i => (q_r σ i).2.2.2.1.testBit k) (q_n σ)) := (HXu.2.2.2.2.2.1 k hk).2.2
    have LP := C_times_loop H hG hk (q_n σ) m_N 0 (by show _ < 5000; omega) (Nat.zero_add _)
    rw [C_nameY hk, m_t_s, X_nameY hk, m_b_s, X_goes1, m_b_s, if_neg nb_10, m_g_t (nI_in hk (by decide)), nI_clamp (by omega), e]
    exact JG_ok J LP rfl (xs_sI (by decide)) xI_s
theorem J_why (J : JI w ρ t0.1 h σ u) (p : Int32) : JG w ρ t0.1 h (q_n σ) [(IOB, 1)] (e_X6_why w h p) (f_X7_why u p) := by
  obtain ⟨hG, HXu, ca, ra, ia, ad, H⟩ := id J
  have hN := hG.1
  have hn := hG.2.2.2.1
  obtain ⟨u1, q1, q2, q3⟩ := X_reasons hG (HX_HY hG HXu)
  have HX1 := HX_xs HXu q2.1
  unfold e_X6_why f_X7_why f_X7_why_28 e_X6_why_29
  rw [m_g_t (HC_kd H), q1, m_b_s]
  rcases X_ix (p := p) (n := q_N σ) (by omega) with hp | ⟨k, hk, rfl⟩
  · rw [C_cellN H hp, m_t_x, X_cellN HX1.1.1 hN hp, m_b_s, X_goes0, m_b_s, if_pos rfl]
    exact JG_err J rfl rfl q2.1 (List.mem_cons_self ..)
  · have e : (x_sI u1 31 0).2 30 k = nI (z_fr (q_S σ) (q_L σ) (q_C σ) (q_r σ) (q_n σ) k) := q3 k hk
    have hL : q_L σ k ≤ q_n σ := (hG.2.2.2.2.1.2 k).1
    rw [C_cellY H hG hk, m_t_s, m_g_t (HC_kd H), C_last H hG hk, m_b_s, X_cellY HX1.1.1 hk hN, m_b_s, X_goes1, m_b_s, if_neg nb_10, m_g_t (nI_in (by omega) (by decide)), nI_clamp (by omega), e]
    unfold z_fr
    by_cases c : q_L σ k = 0
    · rw [if_pos c, m_n_0, if_pos c]
      exact JG_ok J rfl rfl (xs_trans q2.1 (xs_sI (by decide))) xI_s
    · rw [if_neg c, m_n_1, if_neg c, m_g_t (HC_kd H), HC_staleNow H hG, m_b_s, m_g_t (HC_kd H), HC_reasons H hG (S := q_S σ) (by omega) _ (fun j hj hb => ⟨fun q => by
        rcases q with q | q
        · exact absurd q ((by decide +kernel : ∀ j, j < 8 → ¬ nI j = -1) j hj)
        · exact q, fun q => Or.inr q⟩), m_b_s]
      exact JG_ok J rfl rfl (xs_trans q2.1 (xs_sI (by decide))) xI_s
theorem J_stale (J : JI w ρ t0.1 h σ u) : JN w ρ t0.1 h (q_n σ) (e_X6_stale w h) (f_X7_stale u) := by
  obtain ⟨hG, HXu, ca, ra, ia, ad, H⟩ := id J
  obtain ⟨u1, q1, q2⟩ := X_staleOnes hG (HX_HY hG HXu)
  unfold e_X6_stale f_X7_stale
  rw [m_g_t (HC_kd H), HC_staleNow H hG, m_b_s, q1, m_b_s, X_told, m_b_s]
  exact JN_ok J rfl rfl (xs_trans q2.1 (xs_sI (by decide)))
theorem J_wouldBeStale (J : JI w ρ t0.1 h σ u) (p : Int32) : JG w ρ t0.1 h (q_n σ) [(IOB, 1)] (e_X6_wouldBeStale w h p) (f_X7_wouldBeStale u p) := by
  obtain ⟨hG, HXu, ca, ra, ia, ad, H⟩ := id J
  have hn := hG.2.2.2.1
  unfold e_X6_wouldBeStale f_X7_wouldBeStale
  rcases X_ix (p := p) (n := 8) (by decide) with hp | ⟨k, hk, rfl⟩
  · rw [C_nameN hp, m_t_x, X_nameN hp, m_b_s, X_goes0, m_b_s, if_pos rfl]
    exact JG_err J rfl rfl xs_rfl (List.mem_cons_self ..)
  · have g0 : xs u (x_sI u 31 0) := xs_sI (by decide)
    obtain ⟨u1, q1, q2⟩ := X_staleOnes hG (HY_xs (HX_HY hG HXu) g0)
    have G1 := xs_trans g0 q2.1
    have HX1 := HX_xs HXu G1
    have Y1 := HX_HY hG HX1
    have s11 := (HX1.2.2.2.2.2.1 k hk).1
    -- the stamp is laid for a while
    have Y2 : HY (x_sA u1 11 k 401) σ (va_up (q_S σ) k 401) := by
      obtain ⟨b1, b2, b3, b4, b5⟩ := Y1
      refine ⟨b1, fun c hc => ?_, fun c hc => ?_, fun i hi => ?_, fun i hi => ?_⟩
      · rw [xA_n (by decide)]; exact b2 c hc
      · rw [xA_n (by decide)]; exact b3 c hc
      · rw [xA_s]
        by_cases e : i = k
        · subst e
          rw [pk_us, va_up_s]
          exact ⟨rfl, by decide⟩
        · rw [pk_un e, va_up_n e]
          exact b4 i hi
      · rw [xA_n (by decide), xA_n (by decide), xA_n (by decide)]; exact b5 i hi
    obtain ⟨u2, r1, r2⟩ := X_staleOnes hG Y2
    rw [C_nameY hk, m_t_s, m_g_t (HC_kd H), HC_stale H hG (S := va_up (q_S σ) k 401) (fun i hi j hj hb => ?_), m_b_s, m_g_t (HC_kd H), HC_staleNow H hG, m_b_s, X_nameY hk, m_b_s, X_goes1, m_b_s, if_neg nb_10, q1, m_b_s, m_g_t (nI_in hk (by decide)), m_g_t (nI_in hk (by decide)), m_l_s, nI_clamp (by omega), r1, m_b_s, m_g_t (nI_in2 hk (by decide)), m_l_s, s11]
    · have h31 : (x_sA u2 11 k (nI (q_S σ k))).1 31 = 0 := by
        show u2.1 31 = 0
        rw [r2.2]
        show u1.1 31 = 0
        rw [q2.2]
        exact xI_s
      refine ⟨_, w, ρ, _, _, σ, rfl, rfl, ⟨fun r hr => by cases hr; exact ⟨h31, rfl⟩, fun F hF => (nomatch hF)⟩, ⟨hG, ?_, ca, ra, ia, ad, H⟩, Nat.le_refl _, ch_rfl⟩
      · refine HX_xs HX1 ⟨fun j hj => ⟨?_, fun hj2 => ?_⟩, fun i hi => ?_⟩
        · exact (r2.1.1 j hj).1
        · by_cases e : j = 11
          · subst e
            funext i
            rw [xA_s]
            by_cases e2 : i = k
            · subst e2
              rw [pk_us, s11]
            · rw [pk_un e2, (r2.1.1 11 (by decide)).2 (by decide), xA_s, pk_un e2]
          · rw [xA_n e, (r2.1.1 j hj).2 hj2, xA_n e]
        · rw [xA_n (by decide), r2.1.2 i hi, xA_n (by decide)]
    · have h4 := (hG.2.2.2.2.2.1 i hi).2.2.2 j hj
      by_cases e : j = k
      · subst e
        rw [va_up_s]
        exact ⟨fun _ => by omega, fun _ => Or.inl rfl⟩
      · rw [va_up_n e]
        constructor
        · rintro (q | q)
          · exact absurd ((nI_eq (by omega) (by omega)).mp q) e
          · exact q
        · exact fun q => Or.inr q
end JQ
