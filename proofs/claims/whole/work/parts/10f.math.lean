/-! the log, and cells moved -/
theorem nb_cnt_zero {p : Nat → Bool} : ∀ {n : Nat}, (∀ k, k < n → p k = false) → nb_cnt p n = 0
  | 0, _ => rfl
  | n + 1, h => by
    unfold nb_cnt
    rw [nb_cnt_zero (fun k hk => h k (by omega)), h n (Nat.lt_succ_self n)]
    rfl
theorem nb_cnt_ins {q : Nat → Bool} {a : Nat} (hq : q a = false) : ∀ {n : Nat}, a < n → nb_cnt (fun i => decide (i = a) || q i) n = nb_cnt q n + 1
  | 0, h => absurd h (by omega)
  | n + 1, h => by
    by_cases c : a = n
    · subst c
      have e : nb_cnt (fun i => decide (i = a) || q i) a = nb_cnt q a := nb_cnt_cong (fun k hk => by
        show (decide (k = a) || q k) = q k
        rw [decide_eq_false (by omega), Bool.false_or])
      show nb_cnt (fun i => decide (i = a) || q i) a + (if (decide (a = a) || q a) = true then 1 else 0) = nb_cnt q a + (if q a = true then 1 else 0) + 1
      rw [e, decide_eq_true rfl, Bool.true_or, if_pos rfl, hq, if_neg (by decide)]
    · have ih := nb_cnt_ins hq (n := n) (by omega)
      show nb_cnt (fun i => decide (i = a) || q i) n + (if (decide (n = a) || q n) = true then 1 else 0) = nb_cnt q n + (if q n = true then 1 else 0) + 1
      rw [ih, decide_eq_false (fun e => c e.symm), Bool.false_or]
      omega
theorem nb_cnt_up2 {p : Nat → Bool} {n m : Nat} (h : n ≤ m) : nb_cnt p n ≤ nb_cnt p m := by
  induction m with
  | zero => rw [Nat.le_zero.mp h]; exact Nat.le_refl _
  | succ m ih =>
    by_cases c : n = m + 1
    · rw [c]; exact Nat.le_refl _
    · have := ih (by omega)
      show _ ≤ nb_cnt p m + _
      omega
theorem cnt_len {n : Nat} : ∀ {l : List Nat}, l.Nodup → (∀ x ∈ l, x < n) → nb_cnt (fun i => decide (i ∈ l)) n = l.length
  | [], _, _ => nb_cnt_zero (fun k _ => decide_eq_false (fun h => nomatch h))
  | a :: l, hd, hx => by
    rw [List.nodup_cons] at hd
    have ih := cnt_len (n := n) hd.2 (fun x h => hx x (List.mem_cons_of_mem _ h))
    rw [List.length_cons, ← ih, ← nb_cnt_ins (q := fun i => decide (i ∈ l)) (a := a) (decide_eq_false hd.1) (hx a (List.mem_cons_self ..))]
    apply nb_cnt_cong
    intro k _
    apply z_bool_ext
    rw [decide_eq_true_eq, Bool.or_eq_true, decide_eq_true_eq, decide_eq_true_eq, List.mem_cons]
theorem srt_cnt : ∀ {l : List Nat}, l.Pairwise (· < ·) → ∀ (p : Nat) (hp : p < l.length), nb_cnt (fun i => decide (i ∈ l)) l[p] = p
  | [], _, p, hp => absurd hp (by show ¬ p < 0; omega)
  | a :: l, hs, 0, hp => by
    rw [List.pairwise_cons] at hs
    apply nb_cnt_zero
    intro k hk
    have hk' : k < a := hk
    refine decide_eq_false (fun h => ?_)
    rcases List.mem_cons.mp h with e | e
    · omega
    · have := hs.1 k e; omega
  | a :: l, hs, p + 1, hp => by
    rw [List.pairwise_cons] at hs
    have hp' : p < l.length := by rw [List.length_cons] at hp; omega
    have ih := srt_cnt hs.2 p hp'
    have ha := hs.1 _ (List.getElem_mem hp')
    have hna : a ∉ l := fun h => by have := hs.1 a h; omega
    have e : (a :: l)[p + 1] = l[p] := rfl
    rw [e]
    have := nb_cnt_ins (q := fun i => decide (i ∈ l)) (a := a) (decide_eq_false hna) ha
    rw [ih] at this
    rw [← this]
    apply nb_cnt_cong
    intro k _
    apply z_bool_ext
    rw [decide_eq_true_eq, Bool.or_eq_true, decide_eq_true_eq, decide_eq_true_eq, List.mem_cons]
theorem srt_nodup {l : List Nat} (h : l.Pairwise (· < ·)) : l.Nodup := h.imp (fun hab => Nat.ne_of_lt hab)
section JF
variable {w : mW} {ρ : Nat → Nat} {t0 : Nat × Nat × Nat × Nat} {h : Nat} {σ : qS} {u : xS} {ca ra ia ad : Nat → Nat}
theorem qG_srt (hG : qG σ) : (q_G σ).Pairwise (· < ·) ∧ ∀ x ∈ q_G σ, x < q_n σ := hG.2.2.2.2.2.2.1
theorem X_inLog_loop (hG : qG σ) (HXu : HX u σ) : ∀ (d f i : Nat), d < f → i + d = q_n σ → f_X7_inLog_4 f u (nI (nb_cnt (fun k => decide (k ∈ q_G σ)) i)) (nI (i + 1)) = some (nI (q_G σ).length, u) := by
  have hn := hG.2.2.2.1
  intro d
  induction d with
  | zero =>
    intro f i hf hi
    obtain ⟨f, rfl⟩ : ∃ q, f = q + 1 := ⟨f - 1, by omega⟩
    have hi2 : i = q_n σ := by omega
    subst hi2
    show f_X7_inLog_4_b (f_X7_inLog_4 f) _ _ _ = _
    unfold f_X7_inLog_4_b
    rw [HXu.1.2.1, if_pos (nI_lt (by omega) (by omega)), cnt_len (srt_nodup (qG_srt hG).1) (qG_srt hG).2]
  | succ d ih =>
    intro f i hf hi
    obtain ⟨f, rfl⟩ : ∃ q, f = q + 1 := ⟨f - 1, by omega⟩
    have hi2 : i < q_n σ := by omega
    have IH := ih f (i + 1) (by omega) (by omega)
    have e : nb_cnt (fun k => decide (k ∈ q_G σ)) (i + 1) = nb_cnt (fun k => decide (k ∈ q_G σ)) i + (if decide (i ∈ q_G σ) = true then 1 else 0) := rfl
    rw [e] at IH
    obtain ⟨x1, x2, x3, x4, x5, x6, x7⟩ := HXu.2.2.2.2.2.2.1 i hi2
    show f_X7_inLog_4_b (f_X7_inLog_4 f) _ _ _ = _
    unfold f_X7_inLog_4_b f_X7_inLog_27
    rw [HXu.1.2.1, if_neg (nI_nlt (by omega) (by omega)), m_g_t (nI_in (by omega) (by decide)), nI_clamp (by omega), x6, nI_1]
    by_cases c : i ∈ q_G σ
    · rw [if_pos (decide_eq_true c)] at IH
      rw [if_pos c, if_pos rfl, nI_1]
      exact IH
    · rw [if_neg (by simp [c])] at IH
      rw [if_neg c, if_neg nb_10, show (0 : Int32) = nI 0 from rfl, nI_add, nI_1]
      exact IH
theorem X_inLog (hG : qG σ) (HXu : HX u σ) : f_X7_inLog u = some (nI (q_G σ).length, u) := by
  have hn := hG.2.2.2.1
  exact X_inLog_loop hG HXu (q_n σ) m_N 0 (by show _ < 5000; omega) (Nat.zero_add _)
theorem J_logged (J : JI w ρ t0.1 h σ u) : JN w ρ t0.1 h (q_n σ) (e_X6_logged w h) (f_X7_logged u) := by
  obtain ⟨hG, HXu, ca, ra, ia, ad, H⟩ := id J
  refine JN_ok J (b := nI (q_G σ).length) (u1 := x_sI u 31 0) ?_ ?_ (xs_sI (by decide))
  · unfold e_X6_logged
    rw [m_g_t (HC_kd H), HC_fr H (by decide), m_o_s, m_g_t (AL_k3 (HC_a3 H)), AL_size3 (HC_a3 H), m_b_s]
  · unfold f_X7_logged
    rw [X_inLog hG HXu, m_b_s, X_told, m_b_s]
theorem X_logAt_loop (hG : qG σ) (HXu : HX u σ) {p : Nat} (hp : p < (q_G σ).length) : ∀ (d f i : Nat), d < f → i + d = (q_G σ)[p] → f_X7_logAt_26 f u (nI (p - nb_cnt (fun k => decide (k ∈ q_G σ)) i)) (nI (i + 1)) = some (1000 * nI ((q_G σ)[p] + 1) + 10 * nI (q_r σ (q_G σ)[p]).1 + nI (q_r σ (q_G σ)[p]).2.1, u) := by
  have hn := hG.2.2.2.1
  have hs := srt_cnt (qG_srt hG).1 p hp
  have hm := (qG_srt hG).2 _ (List.getElem_mem hp)
  have hmem := List.getElem_mem hp
  have hlen := qG_log hG
  generalize (q_G σ)[p] = g at *
  intro d
  induction d with
  | zero =>
    intro f i hf hi
    obtain ⟨f, rfl⟩ : ∃ q, f = q + 1 := ⟨f - 1, by omega⟩
    have hi2 : i = g := by omega
    subst hi2
    obtain ⟨x1, x2, x3, x4, x5, x6, x7⟩ := HXu.2.2.2.2.2.2.1 i hm
    show f_X7_logAt_26_b (f_X7_logAt_26 f) _ _ _ = _
    unfold f_X7_logAt_26_b
    have j401 := nI_in2 (c := i + 1) (N := 401) (by omega) (by decide)
    rw [m_g_t (nI_in (by omega) (by decide)), nI_clamp (by omega), x6, if_pos hmem, if_pos rfl, hs, Nat.sub_self, if_pos (by decide), m_g_t j401, m_g_t j401, x1, x2]
  | succ d ih =>
    intro f i hf hi
    obtain ⟨f, rfl⟩ : ∃ q, f = q + 1 := ⟨f - 1, by omega⟩
    have IH := ih f (i + 1) (by omega) (by omega)
    have e : nb_cnt (fun k => decide (k ∈ q_G σ)) (i + 1) = nb_cnt (fun k => decide (k ∈ q_G σ)) i + (if decide (i ∈ q_G σ) = true then 1 else 0) := rfl
    have hle := nb_cnt_up2 (p := fun k => decide (k ∈ q_G σ)) (n := i + 1) (m := g) (by omega)
    rw [hs, e] at hle
    rw [e] at IH
    obtain ⟨x1, x2, x3, x4, x5, x6, x7⟩ := HXu.2.2.2.2.2.2.1 i (by omega)
    have j401 := nI_in2 (c := i + 1) (N := 401) (by omega) (by decide)
    show f_X7_logAt_26_b (f_X7_logAt_26 f) _ _ _ = _
    unfold f_X7_logAt_26_b f_X7_logAt_39 f_X7_logAt_54
    rw [m_g_t (nI_in (by omega) (by decide)), nI_clamp (by omega), x6, nI_1]
    by_cases c : i ∈ q_G σ
    · rw [if_pos (decide_eq_true c)] at IH hle
      rw [if_pos c, if_pos rfl, if_neg (nI_nle (by omega) (by omega)), m_g_t j401, if_pos rfl, nb_1, pk_sub (by omega)]
      have e2 : p - nb_cnt (fun k => decide (k ∈ q_G σ)) i - 1 = p - (nb_cnt (fun k => decide (k ∈ q_G σ)) i + 1) := by omega
      rw [e2]
      exact IH
    · rw [if_neg (by simp [c])] at IH
      rw [if_neg c, if_neg nb_10, m_g_t j401, if_neg nb_10, show (0 : Int32) = nI 0 from rfl, pk_sub (Nat.zero_le _)]
      exact IH
theorem J_logAt (J : JI w ρ t0.1 h σ u) (p : Int32) : JG w ρ t0.1 h (q_n σ) [(IOB, 1)] (e_X6_logAt w h p) (f_X7_logAt u p) := by
  obtain ⟨hG, HXu, ca, ra, ia, ad, H⟩ := id J
  have hn := hG.2.2.2.1
  have hlen := qG_log hG
  have hA := HC_a3 H
  unfold e_X6_logAt f_X7_logAt e_X6_logAt_15
  rw [X_inLog hG HXu, m_b_s]
  rcases X_ix (p := p) (n := (q_G σ).length) (by omega) with hp | ⟨i, hi, rfl⟩
  · rw [X_inN (by omega) hp, m_b_s, X_goes0, m_b_s, if_pos rfl]
    refine JG_err J ?_ rfl xs_rfl (List.mem_cons_self ..)
    by_cases c : p < 0
    · rw [if_pos c]; rfl
    · rw [if_neg c, m_g_t (HC_kd H), HC_fr H (by decide), m_o_s, m_g_t (AL_k3 hA), AL_size3 hA, m_b_s, if_neg (fun q => Int32.not_le.mpr q (hp.resolve_left c))]; rfl
  have g : xs u (x_sI u 31 0) := xs_sI (by decide)
  have hm := (qG_srt hG).2 _ (List.getElem_mem hi)
  have LP := X_logAt_loop hG (HX_xs HXu g) hi (q_G σ)[i] m_N 0 (by show _ < 5000; omega) (Nat.zero_add _)
  rw [show nb_cnt (fun k => decide (k ∈ q_G σ)) 0 = 0 from rfl, Nat.sub_zero, show nI (0 + 1) = (1 : Int32) from rfl] at LP
  obtain ⟨d1, d2, d3, d4, d5, d6, d7⟩ := HC_rn H hm
  have hc := (hG.2.2.2.2.2.1 _ hm).1
  rw [if_neg (nI_pos (by omega)), m_g_t (HC_kd H), HC_fr H (by decide), m_o_s, m_g_t (AL_k3 hA), AL_size3 hA, m_b_s, if_pos (nI_lt hi (by omega)), m_g_t (HC_kd H), HC_fr H (by decide), m_o_s, m_g_t (AL_k3 hA), AL_get3 hA hi, m_b_s, m_g_t d1, d3, m_o_s, m_g_t (HC_ck H hc), d2, HC_cn H hc, d4,
    X_inY hi (by omega), m_b_s, X_goes1, m_b_s, if_neg nb_10, LP]
  exact JG_ok J rfl rfl g xI_s
/-- the state with another log -/
def z_log (σ : qS) (G : List Nat) : qS := (q_N σ, q_O σ, q_P σ, q_C σ, q_R σ, (q_V σ, q_S σ, q_L σ), (q_n σ, q_r σ), G, (q_m σ, q_I σ))
theorem z_log_G (hG : qG σ) {G : List Nat} (h1 : List.Sublist G (q_G σ)) : qG (z_log σ G) := by
  obtain ⟨g1, g2, g3, g4, g5, g6, g7, g8, g9⟩ := hG
  exact ⟨g1, g2, g3, g4, g5, g6, ⟨g7.1.sublist h1, fun x hx => g7.2 x (h1.subset hx)⟩, g8, g9⟩
theorem HC_setLog {w' : mW} {ρ' : Nat → Nat} {S : Nat → Prop} {G G' : List Nat} (H : HC w ρ t0.1 h (z_log σ G) ca ra ia ad) (hG : qG σ) (g : ch S w ρ w' ρ') (hS : ∀ q, S q → q = 16 ∨ q = 17) (hx : AL w' ρ' t0.1 (ad 3) 16 (G'.map ra)) : HC w' ρ' t0.1 h (z_log σ G') ca ra ia ad := by
  have hs : ∀ q, (q < 16 ∨ 18 ≤ q) → ¬ S q := fun q h1 h2 => by have := hS q h2; omega
  obtain ⟨a0, b1, b2, b3, b4, b5, b6, b7, b8, b9, b10, b11⟩ := H
  exact ⟨p0 a0 g (hs _ (by omega)) (hs _ (by omega)), pAL b1 g (hs _ (by omega)) (hs _ (by omega)) (hs _ (by omega)), pAL b2 g (hs _ (by omega)) (hs _ (by omega)) (hs _ (by omega)), pAL b3 g (hs _ (by omega)) (hs _ (by omega)) (hs _ (by omega)), hx, pAL b5 g (hs _ (by omega)) (hs _ (by omega)) (hs _ (by omega)),
    pSEN b6 g (fun q z1 z2 => hs q (by omega)), pNM b7 g (hs _ (by omega)) (hs _ (by omega)) (hs _ (by omega)), pAT0 b8 g (fun q z1 z2 => hs q (by omega)), pCEs b9 (fun k hk => (hG.2.2.1 k hk).1) hG.1 g (hs _ (by omega)) (fun q z1 z2 => hs q (by omega)) (fun q z1 z2 => hs q (by omega)), pRUs b10 g (fun q z1 z2 => hs q (by omega)), pIMs b11 hG.2.2.2.2.2.2.2.1 g (fun q z1 z2 => hs q (by omega))⟩
def z_mt (σ : qS) (us i : Nat) : Bool := decide ((q_r σ i).2.1 = us) && decide (q_L σ (q_r σ i).1 ≠ i + 1)
theorem nI_m1 (d : Nat) : nI d + (-1) = nI d - 1 := by
  cases d with
  | zero => decide
  | succ d => rw [pk_m1, nI_pred]
theorem C_forget_loop (hG : qG σ) {us : Nat} (hu : us < 5) : ∀ (B : List Nat) (f : Nat) (w : mW) (ρ : Nat → Nat) (tl : List Nat) (cnt : Nat), B.length < f → List.Sublist (B.reverse ++ tl) (q_G σ) → HC w ρ t0.1 h (z_log σ (B.reverse ++ tl)) ca ra ia ad →
    ∃ w' ρ', e_X6_forget_16 f w h (nI us) (nI cnt) (nI B.length - 1) = some (.inl (nI (cnt + (B.reverse.filter (z_mt σ us)).length)), w') ∧ HC w' ρ' t0.1 h (z_log σ (B.reverse.filter (fun i => !z_mt σ us i) ++ tl)) ca ra ia ad ∧ ch (S2 16) w ρ w' ρ' := by
  intro B
  induction B with
  | nil =>
    intro f w ρ tl cnt hf hs H
    obtain ⟨f, rfl⟩ : ∃ q, f = q + 1 := ⟨f - 1, by omega⟩
    refine ⟨w, ρ, ?_, H, ch_rfl⟩
    show e_X6_forget_16_b (e_X6_forget_16 f) _ _ _ _ _ = _
    unfold e_X6_forget_16_b
    rw [if_pos (by decide)]
    rfl
  | cons x B ih =>
    intro f w ρ tl cnt hf hs H
    obtain ⟨f, rfl⟩ : ∃ q, f = q + 1 := ⟨f - 1, by omega⟩
    rw [List.length_cons] at hf
    have hlen := qG_log hG
    have hn := hG.2.2.2.1
    have hls := hs.length_le
    rw [List.length_append, List.length_reverse, List.length_cons] at hls
    rw [List.reverse_cons, List.append_assoc] at hs H
    have hGl := z_log_G hG hs
    have hxm : x ∈ q_G σ := hs.subset (List.mem_append.mpr (Or.inr (List.mem_append.mpr (Or.inl (List.mem_singleton.mpr rfl)))))
    have hxn := (qG_srt hG).2 x hxm
    have hA : AL w ρ t0.1 (ad 3) 16 ((B.reverse ++ ([x] ++ tl)).map ra) := HC_a3 H
    have hix : B.length < (B.reverse ++ ([x] ++ tl)).length := by rw [List.length_append, List.length_reverse, List.length_append, List.length_singleton]; omega
    have hge : (B.reverse ++ ([x] ++ tl))[B.length] = x := by
      rw [List.getElem_append_right (by rw [List.length_reverse]; exact Nat.le_refl _)]
      simp
    have hget := AL_get3 hA hix
    rw [hge] at hget
    have hxn' : x < q_n (z_log σ (B.reverse ++ ([x] ++ tl))) := hxn
    obtain ⟨d1, d2, d3, d4, d5, d6, d7⟩ := HC_rn H hxn'
    have d4' : m_fi w 6 2 (ra x) = nI (q_r σ x).2.1 := d4
    have hlast : e_X6_isLastRun w h (ra x) = some (if q_L σ (q_r σ x).1 = x + 1 then 1 else 0, w) := HC_isLast H hGl hxn'
    have hus := (hG.2.2.2.2.2.1 x hxn).2.1
    rw [List.reverse_cons, List.filter_append, List.filter_append, List.length_cons, nI_pred]
    show ∃ w' ρ', e_X6_forget_16_b (e_X6_forget_16 f) _ _ _ _ _ = _ ∧ _
    unfold e_X6_forget_16_b e_X6_forget_63
    rw [if_neg (nI_pos (by omega)), m_g_t (HC_kd H), HC_fr H (by decide), m_o_s, m_g_t (AL_k3 hA), hget, m_b_s, m_g_t d1, d4', nI_m1]
    have stay : z_mt σ us x = false → ∃ w' ρ', e_X6_forget_16 f w h (nI us) (nI cnt) (nI B.length - 1) = some (.inl (nI (cnt + (B.reverse.filter (z_mt σ us) ++ [x].filter (z_mt σ us)).length)), w') ∧ HC w' ρ' t0.1 h (z_log σ (B.reverse.filter (fun i => !z_mt σ us i) ++ [x].filter (fun i => !z_mt σ us i) ++ tl)) ca ra ia ad ∧ ch (S2 16) w ρ w' ρ' := by
      intro hz
      have e1 : [x].filter (z_mt σ us) = [] := by simp [hz]
      have e2 : [x].filter (fun i => !z_mt σ us i) = [x] := by simp [hz]
      rw [e1, e2, List.append_nil, List.append_assoc]
      exact ih f w ρ ([x] ++ tl) cnt (by omega) hs H
    by_cases c1 : (q_r σ x).2.1 = us
    · rw [if_pos (by rw [c1]), m_g_t (HC_kd H), hlast, m_b_s]
      by_cases c2 : q_L σ (q_r σ x).1 = x + 1
      · rw [if_pos c2, if_neg nb_10]
        exact stay (by unfold z_mt; rw [decide_eq_false (p := q_L σ (q_r σ x).1 ≠ x + 1) (by simp [c2]), Bool.and_false])
      · have hz : z_mt σ us x = true := by unfold z_mt; rw [decide_eq_true c1, decide_eq_true c2]; rfl
        have e1 : [x].filter (z_mt σ us) = [x] := by simp [hz]
        have e2 : [x].filter (fun i => !z_mt σ us i) = [] := by simp [hz]
        obtain ⟨w1, q1, ⟨r, q2, -⟩, q3⟩ := AL_remove hA (by decide) (i := B.length) (by rw [List.length_map]; exact hix)
        have hmap : ((B.reverse ++ ([x] ++ tl)).map ra).eraseIdx B.length = (B.reverse ++ tl).map ra := by
          rw [List.map_append, List.eraseIdx_append_of_length_le (by rw [List.length_map, List.length_reverse]; exact Nat.le_refl _), List.length_map, List.length_reverse, Nat.sub_self]
          show List.map ra B.reverse ++ List.map ra tl = _
          rw [List.map_append]
        rw [hmap] at q2
        have H1 : HC w1 ρ t0.1 h (z_log σ (B.reverse ++ tl)) ca ra ia ad := HC_setLog H hG q3 (fun q hq => hq) ⟨r, q2⟩
        have hs1 : List.Sublist (B.reverse ++ tl) (q_G σ) := List.Sublist.trans (List.Sublist.append_left (List.sublist_append_right _ _) _) hs
        obtain ⟨w2, ρ2, y1, y2, y3⟩ := ih f w1 ρ tl (cnt + 1) (by omega) hs1 H1
        rw [if_neg c2, if_pos rfl, m_g_t (HC_kd H), HC_fr H (by decide), m_o_s, m_g_t (AL_k3 hA), q1, m_b_s, nI_1, y1, e1, e2, List.append_nil, List.length_append, List.length_singleton]
        refine ⟨w2, ρ2, ?_, y2, ch_trans q3 y3⟩
        rw [show cnt + 1 + (List.filter (z_mt σ us) B.reverse).length = cnt + ((List.filter (z_mt σ us) B.reverse).length + 1) by omega]
    · rw [if_neg (fun q => c1 ((nI_eq (by omega) (by omega)).mp q))]
      exact stay (by unfold z_mt; rw [decide_eq_false c1, Bool.false_and])
theorem J_forget (J : JI w ρ t0.1 h σ u) (p : Int32) : JG w ρ t0.1 h (q_n σ) [(IOB, 1)] (e_X6_forget w h p) (f_X7_forget u p) := by
  obtain ⟨hG, HXu, ca, ra, ia, ad, H⟩ := id J
  have hN := hG.1
  have hn := hG.2.2.2.1
  have hlen := qG_log hG
  have hA := HC_a3 H
  unfold f_X7_forget
  rcases X_ix (p := p) (n := 5) (by decide) with hp | ⟨i, hi, rfl⟩
  · have e : e_X6_forget w h p = some (.inr IOB, w) := by
      unfold e_X6_forget
      rw [C_userN hp, m_t_x]
    rw [e, X_userN hp, m_b_s, X_goes0, m_b_s, if_pos rfl]
    exact JG_err J rfl rfl xs_rfl (List.mem_cons_self ..)
  have e : e_X6_forget w h (nI i) = e_X6_forget_16 m_N w h (nI i) 0 (nI (q_G σ).length - 1) := by
    unfold e_X6_forget
    rw [C_userY hi, m_t_s, m_g_t (HC_kd H), HC_fr H (by decide), m_o_s, m_g_t (AL_k3 hA), AL_size3 hA, m_b_s]
  have H0 : HC w ρ t0.1 h (z_log σ ((q_G σ).reverse.reverse ++ [])) ca ra ia ad := by
    rw [List.reverse_reverse, List.append_nil]
    exact H
  obtain ⟨w1, ρ1, y1, y2, y3⟩ := C_forget_loop hG hi (q_G σ).reverse m_N w ρ [] 0 (by rw [List.length_reverse]; show _ < 5000; omega) (by rw [List.reverse_reverse, List.append_nil]; exact List.Sublist.refl _) H0
  rw [List.reverse_reverse, List.length_reverse, Nat.zero_add] at y1
  rw [List.reverse_reverse, List.append_nil] at y2
  have hsub : List.Sublist ((q_G σ).filter (fun i_1 => !z_mt σ i i_1)) (q_G σ) := List.filter_sublist
  have hmem : ∀ j, j ∈ (q_G σ).filter (fun i_1 => !z_mt σ i i_1) ↔ (j ∈ q_G σ ∧ z_mt σ i j = false) := fun j => by
    rw [List.mem_filter]
    simp
  have hcnt : nb_cnt (fun j => decide (j ∈ q_G σ) && z_mt σ i j) (q_n σ) = ((q_G σ).filter (z_mt σ i)).length := by
    rw [← cnt_len (n := q_n σ) (List.Nodup.sublist List.filter_sublist (srt_nodup (qG_srt hG).1)) (fun x hx => (qG_srt hG).2 x (List.mem_filter.mp hx).1)]
    apply nb_cnt_cong
    intro k _
    apply z_bool_ext
    rw [Bool.and_eq_true, decide_eq_true_eq, decide_eq_true_eq, List.mem_filter]
  -- the reference
  have X : ∀ (d f j : Nat) (v : xS), d < f → j + d = q_n σ → (v.1 = (x_sI u 31 0).1 ∧ (∀ t, t ≠ 19 → v.2 t = u.2 t) ∧ (∀ a, a ≤ j ∨ q_n σ < a → (∀ b, b < j → a = b + 1 → v.2 19 a = if b ∈ (q_G σ).filter (fun i_1 => !z_mt σ i i_1) then 0 else 1) ∧ (q_n σ < a → v.2 19 a = u.2 19 a)) ∧ ∀ b, j ≤ b → b < q_n σ → v.2 19 (b + 1) = u.2 19 (b + 1)) →
      ∃ v', f_X7_forget_19 f v (nI i) (nI (nb_cnt (fun j => decide (j ∈ q_G σ) && z_mt σ i j) j)) (nI (j + 1)) = some (nI ((q_G σ).filter (z_mt σ i)).length, v') ∧ v'.1 = (x_sI u 31 0).1 ∧ (∀ t, t ≠ 19 → v'.2 t = u.2 t) ∧ (∀ b, b < q_n σ → v'.2 19 (b + 1) = if b ∈ (q_G σ).filter (fun i_1 => !z_mt σ i i_1) then 0 else 1) ∧ ∀ a, q_n σ < a → v'.2 19 a = u.2 19 a := by
    intro d
    induction d with
    | zero =>
      intro f j v hf hj hv
      obtain ⟨f, rfl⟩ : ∃ q, f = q + 1 := ⟨f - 1, by omega⟩
      have hj2 : j = q_n σ := by omega
      subst hj2
      refine ⟨v, ?_, hv.1, hv.2.1, fun b hb => (hv.2.2.1 (b + 1) (Or.inl (by omega))).1 b hb rfl, fun a ha => (hv.2.2.1 a (Or.inr ha)).2 ha⟩
      show f_X7_forget_19_b (f_X7_forget_19 f) _ _ _ _ = _
      unfold f_X7_forget_19_b
      rw [hv.1, show (x_sI u 31 0).1 13 = nI (q_n σ) from HXu.1.2.1, if_pos (nI_lt (by omega) (by omega)), hcnt]
    | succ d ih =>
      intro f j v hf hj hv
      obtain ⟨f, rfl⟩ : ∃ q, f = q + 1 := ⟨f - 1, by omega⟩
      have hj2 : j < q_n σ := by omega
      obtain ⟨x1, x2, x3, x4, x5, x6, x7⟩ := HXu.2.2.2.2.2.2.1 j hj2
      obtain ⟨g1, g2, g3, g4⟩ := hG.2.2.2.2.2.1 j hj2
      have hL : q_L σ (q_r σ j).1 ≤ q_n σ := (hG.2.2.2.2.1.2 _).1
      have e19 : v.2 19 (j + 1) = if j ∈ q_G σ then 0 else 1 := by rw [hv.2.2.2 j (Nat.le_refl _) hj2]; exact x6
      have e14 : v.2 14 (j + 1) = nI (q_r σ j).1 := by rw [hv.2.1 14 (by decide)]; exact x1
      have e15 : v.2 15 (j + 1) = nI (q_r σ j).2.1 := by rw [hv.2.1 15 (by decide)]; exact x2
      have e8 : v.2 8 (q_r σ j).1 = nI (q_L σ (q_r σ j).1) := by rw [hv.2.1 8 (by decide)]; exact HXu.2.2.2.2.1 _ (by omega)
      have ec : nb_cnt (fun j => decide (j ∈ q_G σ) && z_mt σ i j) (j + 1) = nb_cnt (fun j => decide (j ∈ q_G σ) && z_mt σ i j) j + (if (decide (j ∈ q_G σ) && z_mt σ i j) = true then 1 else 0) := rfl
      have j401 := nI_in2 (c := j + 1) (N := 401) (by omega) (by decide)
      -- nothing is done to this run
      have stay : (decide (j ∈ q_G σ) && z_mt σ i j) = false → ∃ v', f_X7_forget_19 f v (nI i) (nI (nb_cnt (fun j => decide (j ∈ q_G σ) && z_mt σ i j) j)) (nI (j + 1 + 1)) = some (nI ((q_G σ).filter (z_mt σ i)).length, v') ∧ v'.1 = (x_sI u 31 0).1 ∧ (∀ t, t ≠ 19 → v'.2 t = u.2 t) ∧ (∀ b, b < q_n σ → v'.2 19 (b + 1) = if b ∈ (q_G σ).filter (fun i_1 => !z_mt σ i i_1) then 0 else 1) ∧ ∀ a, q_n σ < a → v'.2 19 a = u.2 19 a := by
        intro hz
        have IH := ih f (j + 1) v (by omega) (by omega) ⟨hv.1, hv.2.1, fun a ha => ⟨fun b hb e => ?_, fun ha2 => (hv.2.2.1 a (Or.inr ha2)).2 ha2⟩, fun b hb1 hb2 => hv.2.2.2 b (by omega) hb2⟩
        · rw [ec, hz, if_neg (by decide), Nat.add_zero] at IH
          exact IH
        · by_cases eb : b = j
          · subst eb
            rw [e, e19]
            by_cases cm : b ∈ q_G σ
            · rw [if_pos cm, if_pos ((hmem b).mpr ⟨cm, by rw [decide_eq_true cm, Bool.true_and] at hz; exact hz⟩)]
            · rw [if_neg cm, if_neg (fun q => cm ((hmem b).mp q).1)]
          · exact (hv.2.2.1 a (by omega)).1 b (by omega) e
      show ∃ v', f_X7_forget_19_b (f_X7_forget_19 f) _ _ _ _ = _ ∧ _
      unfold f_X7_forget_19_b f_X7_forget_71
      rw [hv.1, show (x_sI u 31 0).1 13 = nI (q_n σ) from HXu.1.2.1, if_neg (nI_nlt (by omega) (by omega)), m_g_t (nI_in (by omega) (by decide)), nI_clamp (show j + 1 < 2 ^ 31 by omega), e19, nI_1]
      by_cases c1 : j ∈ q_G σ
      · rw [if_pos c1, if_pos rfl, m_g_t j401, e15]
        by_cases c2 : (q_r σ j).2.1 = i
        · rw [if_pos (by rw [c2]), m_g_t j401, e14, m_g_t (nI_in (by omega) (by decide)), nI_clamp (show (q_r σ j).1 < 2 ^ 31 by omega), e8]
          by_cases c3 : q_L σ (q_r σ j).1 = j + 1
          · rw [if_pos (by rw [c3])]
            exact stay (by unfold z_mt; rw [decide_eq_false (p := q_L σ (q_r σ j).1 ≠ j + 1) (by simp [c3]), Bool.and_false, Bool.and_false])
          · have hz : z_mt σ i j = true := by unfold z_mt; rw [decide_eq_true c2, decide_eq_true c3]; rfl
            rw [if_neg (fun q => c3 ((nI_eq (by omega) (by omega)).mp q)), m_g_t j401, m_l_s, vb1, nI_1]
            have IH := ih f (j + 1) (x_sA v 19 (j + 1) 1) (by omega) (by omega) ⟨hv.1, fun t ht => by rw [xA_n ht]; exact hv.2.1 t ht, fun a ha => ⟨fun b hb e => ?_, fun ha2 => ?_⟩, fun b hb1 hb2 => ?_⟩
            · rw [ec, decide_eq_true c1, hz, if_pos (by decide)] at IH
              exact IH
            · rw [xA_s]
              by_cases eb : b = j
              · subst eb
                rw [e, pk_us, if_neg (fun q => by rw [((hmem b).mp q).2] at hz; cases hz)]
              · rw [pk_un (by omega)]
                exact (hv.2.2.1 a (by omega)).1 b (by omega) e
            · rw [xA_s, pk_un (by omega)]
              exact (hv.2.2.1 a (Or.inr ha2)).2 ha2
            · rw [xA_s, pk_un (by omega)]
              exact hv.2.2.2 b (by omega) hb2
        · rw [if_neg (fun q => c2 ((nI_eq (by omega) (by omega)).mp q))]
          exact stay (by unfold z_mt; rw [decide_eq_false c2, Bool.false_and, Bool.and_false])
      · rw [if_neg c1, if_neg nb_10]
        exact stay (by rw [decide_eq_false c1, Bool.false_and])
  obtain ⟨v, z1, z2, z3, z4, z5⟩ := X (q_n σ) m_N 0 (x_sI u 31 0) (by show _ < 5000; omega) (Nat.zero_add _) ⟨rfl, fun _ _ => rfl, fun a _ => ⟨fun b hb => absurd hb (by omega), fun _ => rfl⟩, fun _ _ _ => rfl⟩
  have z1' : f_X7_forget_19 m_N (x_sI u 31 0) (nI i) 0 1 = some (nI ((q_G σ).filter (z_mt σ i)).length, v) := z1
  have y1' : e_X6_forget_16 m_N w h (nI i) 0 (nI (q_G σ).length - 1) = some (.inl (nI ((q_G σ).filter (z_mt σ i)).length), w1) := y1
  rw [e, X_userY hi, m_b_s, X_goes1, m_b_s, if_neg nb_10, y1', z1']
  refine JG_do rfl rfl (by rw [z2]; exact xI_s) (z_log_G hG hsub) ?_ y2 (ch_mono y3 (fun q hq => by unfold SC; unfold S2 at hq; omega))
  obtain ⟨⟨a1, a2, a3⟩, b1, b2, b3, b4, b5, b6, b7, b8, b9⟩ := HXu
  have rn : ∀ t, t ≠ 31 → v.1 t = u.1 t := fun t ht => by rw [z2]; exact xI_n ht
  refine ⟨⟨(rn 0 (by decide)).trans a1, (rn 13 (by decide)).trans a2, (rn 21 (by decide)).trans a3⟩, fun k hk => ?_, fun k hk => ?_, fun k h1 h2 => ?_, fun k hk => ?_, fun i hi => ?_, fun i hi => ?_, fun i h1 h2 => ?_, ?_, fun i hi => ?_⟩
  · rw [z3 1 (by decide)]; exact b1 k hk
  · rw [z3 2 (by decide), z3 7 (by decide), z3 9 (by decide), z3 3 (by decide), z3 4 (by decide), z3 5 (by decide), z3 6 (by decide)]; exact b2 k hk
  · rw [z3 2 (by decide), z3 7 (by decide), z3 9 (by decide)]; exact b3 k h1 h2
  · rw [z3 8 (by decide)]; exact b4 k hk
  · rw [z3 11 (by decide), z3 10 (by decide), z3 12 (by decide)]; exact b5 i hi
  · obtain ⟨c1, c2, c3, c4, c5, c6, c7⟩ := b6 i hi
    rw [z3 14 (by decide), z3 15 (by decide), z3 16 (by decide), z3 17 (by decide), z3 18 (by decide), z3 20 (by decide), z4 i hi]
    exact ⟨c1, c2, c3, c4, c5, rfl, c7⟩
  · rw [z5 _ (by have h1' : q_n σ ≤ i := h1; omega)]; exact b7 i h1 h2
  · rw [z3 16 (by decide), z3 18 (by decide)]; exact b8
  · rw [z3 23 (by decide), z3 22 (by decide), z3 24 (by decide)]; exact b9 i hi
end JF
