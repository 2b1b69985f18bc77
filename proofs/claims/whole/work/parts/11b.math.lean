theorem LN_w {Z : xB} {ρ : Nat → Nat} {t0 h o : Nat} {σ : qS} {u : xS} {e : Option (Int32 × mW)} {f : Option (Int32 × xS)} {n : Nat} (H : LZ Z ρ t0 h o σ u) (J : JN (x_ov Z u) ρ t0 h n e f) : LN Z t0 h o u n e f := by
  obtain ⟨w', ρ', b, u', σ', he, hf, J', hn, g⟩ := J
  obtain ⟨Z1, z1, z2, z3⟩ := LZ_cls H (fun q => q.2.2 rfl) g J'
  exact ⟨w', b, u', he, hf, Z1, ρ', σ', z1, z2, z3, hn⟩
section LAWC
variable {Z : xB} {ρ : Nat → Nat} {t0 : Nat × Nat × Nat × Nat} {h o : Nat} {σ : qS} {u : xS}
theorem LN_cellCount (H : LZ Z ρ t0.1 h o σ u) : LN Z t0.1 h o u (q_n σ) (e_X6_cellCount (x_ov Z u) h) (f_X7_cellCount u) := LN_w H (J_cellCount H.2.2.2.2)
theorem LN_runs (H : LZ Z ρ t0.1 h o σ u) : LN Z t0.1 h o u (q_n σ) (e_X6_runs (x_ov Z u) h) (f_X7_runs_ u) := LN_w H (J_runs H.2.2.2.2)
theorem LG_cellAt (H : LZ Z ρ t0.1 h o σ u) (p : Int32) : LG Z t0.1 h o u (q_n σ) cvI (e_L_cellAt (x_ov Z u) h p o) (f_X7_cellAt u p) := by
  refine LG_w H (J_cellAt (t0 := t0) H.2.2.2.2 p) (fun X w3 t he ht => ?_) (by decide +kernel) (fun r w3 he hk hl => ?_)
  · simp only [List.mem_cons, Prod.mk.injEq, List.not_mem_nil, or_false] at ht
    rcases ht with ⟨rfl, rfl⟩
    · unfold e_L_cellAt
      rw [m_g_t (LZ_kd H), he]
      show (if IOB = "java/lang/IndexOutOfBoundsException" then some ((1 : Int32), w3) else none) = some (1, w3)
      rw [if_pos (by decide +kernel)]
  · unfold e_L_cellAt
    rw [m_g_t (LZ_kd H), he]
    exact m_g_t ⟨hk, by rw [hl]; decide +kernel⟩
theorem LG_right (H : LZ Z ρ t0.1 h o σ u) (p0 p1 : Int32) : LG Z t0.1 h o u (q_n σ) cvI (e_L_right (x_ov Z u) h p0 p1 o) (f_X7_right u p0 p1) := by
  refine LG_w H (J_right (t0 := t0) H.2.2.2.2 p0 p1) (fun X w3 t he ht => ?_) (by decide +kernel) (fun r w3 he hk hl => ?_)
  · simp only [List.mem_cons, Prod.mk.injEq, List.not_mem_nil, or_false] at ht
    rcases ht with ⟨rfl, rfl⟩
    · unfold e_L_right
      rw [m_g_t (LZ_kd H), he]
      show (if IOB = "java/lang/IndexOutOfBoundsException" then some ((1 : Int32), w3) else none) = some (1, w3)
      rw [if_pos (by decide +kernel)]
  · unfold e_L_right
    rw [m_g_t (LZ_kd H), he]
    exact m_g_t ⟨hk, by rw [hl]; decide +kernel⟩
theorem LG_isSet (H : LZ Z ρ t0.1 h o σ u) (p : Int32) : LG Z t0.1 h o u (q_n σ) cvB (e_L_isSet (x_ov Z u) h p o) (f_X7_isSet u p) := by
  refine LG_w H (J_isSet (t0 := t0) H.2.2.2.2 p) (fun X w3 t he ht => ?_) (by decide +kernel) (fun r w3 he hk hl => ?_)
  · simp only [List.mem_cons, Prod.mk.injEq, List.not_mem_nil, or_false] at ht
    rcases ht with ⟨rfl, rfl⟩
    · unfold e_L_isSet
      rw [m_g_t (LZ_kd H), he]
      show (if IOB = "java/lang/IndexOutOfBoundsException" then some ((1 : Int32), w3) else none) = some (1, w3)
      rw [if_pos (by decide +kernel)]
  · unfold e_L_isSet
    rw [m_g_t (LZ_kd H), he]
    show (if r = (0 : Int32) then (e_L_isSet_15 w3 0 0 o) else (e_L_isSet_15 w3 1 0 o)) = some (0, m_sL w3 o ((0 : Int32).toNatClampNeg) (if r = (0 : Int32) then 0 else 1))
    unfold e_L_isSet_15
    by_cases hr : r = (0 : Int32)
    · rw [if_pos hr, if_pos hr, m_g_t (by exact ⟨hk, by rw [hl]; decide +kernel⟩)]
      rfl
    · rw [if_neg hr, if_neg hr, m_g_t (by exact ⟨hk, by rw [hl]; decide +kernel⟩)]
      rfl
theorem LG_value (H : LZ Z ρ t0.1 h o σ u) (p : Int32) : LG Z t0.1 h o u (q_n σ) cvI (e_L_value (x_ov Z u) h p o) (f_X7_value u p) := by
  refine LG_w H (J_value (t0 := t0) H.2.2.2.2 p) (fun X w3 t he ht => ?_) (by decide +kernel) (fun r w3 he hk hl => ?_)
  · simp only [List.mem_cons, Prod.mk.injEq, List.not_mem_nil, or_false] at ht
    rcases ht with ⟨rfl, rfl⟩ | ⟨rfl, rfl⟩
    · unfold e_L_value
      rw [m_g_t (LZ_kd H), he]
      show (if IOB = "java/lang/IndexOutOfBoundsException" then some ((1 : Int32), w3) else (if IOB = "java/lang/IllegalStateException" then some ((2 : Int32), w3) else none)) = some (1, w3)
      rw [if_pos (by decide +kernel)]
    · unfold e_L_value
      rw [m_g_t (LZ_kd H), he]
      show (if ISE = "java/lang/IndexOutOfBoundsException" then some ((1 : Int32), w3) else (if ISE = "java/lang/IllegalStateException" then some ((2 : Int32), w3) else none)) = some (2, w3)
      rw [if_neg (by decide +kernel), if_pos (by decide +kernel)]
  · unfold e_L_value
    rw [m_g_t (LZ_kd H), he]
    exact m_g_t ⟨hk, by rw [hl]; decide +kernel⟩
theorem LG_stamp (H : LZ Z ρ t0.1 h o σ u) (p : Int32) : LG Z t0.1 h o u (q_n σ) cvI (e_L_stamp (x_ov Z u) h p o) (f_X7_stamp u p) := by
  refine LG_w H (J_stamp (t0 := t0) H.2.2.2.2 p) (fun X w3 t he ht => ?_) (by decide +kernel) (fun r w3 he hk hl => ?_)
  · simp only [List.mem_cons, Prod.mk.injEq, List.not_mem_nil, or_false] at ht
    rcases ht with ⟨rfl, rfl⟩
    · unfold e_L_stamp
      rw [m_g_t (LZ_kd H), he]
      show (if IOB = "java/lang/IndexOutOfBoundsException" then some ((1 : Int32), w3) else none) = some (1, w3)
      rw [if_pos (by decide +kernel)]
  · unfold e_L_stamp
    rw [m_g_t (LZ_kd H), he]
    exact m_g_t ⟨hk, by rw [hl]; decide +kernel⟩
theorem LG_lastRun (H : LZ Z ρ t0.1 h o σ u) (p : Int32) : LG Z t0.1 h o u (q_n σ) cvI (e_L_lastRun (x_ov Z u) h p o) (f_X7_lastRun u p) := by
  refine LG_w H (J_lastRun (t0 := t0) H.2.2.2.2 p) (fun X w3 t he ht => ?_) (by decide +kernel) (fun r w3 he hk hl => ?_)
  · simp only [List.mem_cons, Prod.mk.injEq, List.not_mem_nil, or_false] at ht
    rcases ht with ⟨rfl, rfl⟩
    · unfold e_L_lastRun
      rw [m_g_t (LZ_kd H), he]
      show (if IOB = "java/lang/IndexOutOfBoundsException" then some ((1 : Int32), w3) else none) = some (1, w3)
      rw [if_pos (by decide +kernel)]
  · unfold e_L_lastRun
    rw [m_g_t (LZ_kd H), he]
    exact m_g_t ⟨hk, by rw [hl]; decide +kernel⟩
theorem LG_hasResult (H : LZ Z ρ t0.1 h o σ u) (p : Int32) : LG Z t0.1 h o u (q_n σ) cvB (e_L_hasResult (x_ov Z u) h p o) (f_X7_hasResult u p) := by
  refine LG_w H (J_hasResult (t0 := t0) H.2.2.2.2 p) (fun X w3 t he ht => ?_) (by decide +kernel) (fun r w3 he hk hl => ?_)
  · simp only [List.mem_cons, Prod.mk.injEq, List.not_mem_nil, or_false] at ht
    rcases ht with ⟨rfl, rfl⟩
    · unfold e_L_hasResult
      rw [m_g_t (LZ_kd H), he]
      show (if IOB = "java/lang/IndexOutOfBoundsException" then some ((1 : Int32), w3) else none) = some (1, w3)
      rw [if_pos (by decide +kernel)]
  · unfold e_L_hasResult
    rw [m_g_t (LZ_kd H), he]
    show (if r = (0 : Int32) then (e_L_hasResult_15 w3 0 0 o) else (e_L_hasResult_15 w3 1 0 o)) = some (0, m_sL w3 o ((0 : Int32).toNatClampNeg) (if r = (0 : Int32) then 0 else 1))
    unfold e_L_hasResult_15
    by_cases hr : r = (0 : Int32)
    · rw [if_pos hr, if_pos hr, m_g_t (by exact ⟨hk, by rw [hl]; decide +kernel⟩)]
      rfl
    · rw [if_neg hr, if_neg hr, m_g_t (by exact ⟨hk, by rw [hl]; decide +kernel⟩)]
      rfl
theorem LG_seen (H : LZ Z ρ t0.1 h o σ u) (p : Int32) : LG Z t0.1 h o u (q_n σ) cvI (e_L_seen (x_ov Z u) h p o) (f_X7_seen u p) := by
  refine LG_w H (J_seen (t0 := t0) H.2.2.2.2 p) (fun X w3 t he ht => ?_) (by decide +kernel) (fun r w3 he hk hl => ?_)
  · simp only [List.mem_cons, Prod.mk.injEq, List.not_mem_nil, or_false] at ht
    rcases ht with ⟨rfl, rfl⟩
    · unfold e_L_seen
      rw [m_g_t (LZ_kd H), he]
      show (if IOB = "java/lang/IndexOutOfBoundsException" then some ((1 : Int32), w3) else none) = some (1, w3)
      rw [if_pos (by decide +kernel)]
  · unfold e_L_seen
    rw [m_g_t (LZ_kd H), he]
    exact m_g_t ⟨hk, by rw [hl]; decide +kernel⟩
theorem LG_result (H : LZ Z ρ t0.1 h o σ u) (p0 p1 : Int32) : LG Z t0.1 h o u (q_n σ) cvI (e_L_result (x_ov Z u) h p0 p1 o) (f_X7_result u p0 p1) := by
  refine LG_w H (J_result (t0 := t0) H.2.2.2.2 p0 p1) (fun X w3 t he ht => ?_) (by decide +kernel) (fun r w3 he hk hl => ?_)
  · simp only [List.mem_cons, Prod.mk.injEq, List.not_mem_nil, or_false] at ht
    rcases ht with ⟨rfl, rfl⟩ | ⟨rfl, rfl⟩
    · unfold e_L_result
      rw [m_g_t (LZ_kd H), he]
      show (if IOB = "java/lang/IndexOutOfBoundsException" then some ((1 : Int32), w3) else (if IOB = "java/lang/IllegalStateException" then some ((2 : Int32), w3) else none)) = some (1, w3)
      rw [if_pos (by decide +kernel)]
    · unfold e_L_result
      rw [m_g_t (LZ_kd H), he]
      show (if ISE = "java/lang/IndexOutOfBoundsException" then some ((1 : Int32), w3) else (if ISE = "java/lang/IllegalStateException" then some ((2 : Int32), w3) else none)) = some (2, w3)
      rw [if_neg (by decide +kernel), if_pos (by decide +kernel)]
  · unfold e_L_result
    rw [m_g_t (LZ_kd H), he]
    exact m_g_t ⟨hk, by rw [hl]; decide +kernel⟩
theorem LG_timesSeen (H : LZ Z ρ t0.1 h o σ u) (p : Int32) : LG Z t0.1 h o u (q_n σ) cvI (e_L_timesSeen (x_ov Z u) h p o) (f_X7_timesSeen u p) := by
  refine LG_w H (J_timesSeen (t0 := t0) H.2.2.2.2 p) (fun X w3 t he ht => ?_) (by decide +kernel) (fun r w3 he hk hl => ?_)
  · simp only [List.mem_cons, Prod.mk.injEq, List.not_mem_nil, or_false] at ht
    rcases ht with ⟨rfl, rfl⟩
    · unfold e_L_timesSeen
      rw [m_g_t (LZ_kd H), he]
      show (if IOB = "java/lang/IndexOutOfBoundsException" then some ((1 : Int32), w3) else none) = some (1, w3)
      rw [if_pos (by decide +kernel)]
  · unfold e_L_timesSeen
    rw [m_g_t (LZ_kd H), he]
    exact m_g_t ⟨hk, by rw [hl]; decide +kernel⟩
theorem LG_why (H : LZ Z ρ t0.1 h o σ u) (p : Int32) : LG Z t0.1 h o u (q_n σ) cvI (e_L_why (x_ov Z u) h p o) (f_X7_why u p) := by
  refine LG_w H (J_why (t0 := t0) H.2.2.2.2 p) (fun X w3 t he ht => ?_) (by decide +kernel) (fun r w3 he hk hl => ?_)
  · simp only [List.mem_cons, Prod.mk.injEq, List.not_mem_nil, or_false] at ht
    rcases ht with ⟨rfl, rfl⟩
    · unfold e_L_why
      rw [m_g_t (LZ_kd H), he]
      show (if IOB = "java/lang/IndexOutOfBoundsException" then some ((1 : Int32), w3) else none) = some (1, w3)
      rw [if_pos (by decide +kernel)]
  · unfold e_L_why
    rw [m_g_t (LZ_kd H), he]
    exact m_g_t ⟨hk, by rw [hl]; decide +kernel⟩
theorem LN_stale (H : LZ Z ρ t0.1 h o σ u) : LN Z t0.1 h o u (q_n σ) (e_X6_stale (x_ov Z u) h) (f_X7_stale u) := LN_w H (J_stale H.2.2.2.2)
theorem LG_wouldBeStale (H : LZ Z ρ t0.1 h o σ u) (p : Int32) : LG Z t0.1 h o u (q_n σ) cvI (e_L_wouldBeStale (x_ov Z u) h p o) (f_X7_wouldBeStale u p) := by
  refine LG_w H (J_wouldBeStale (t0 := t0) H.2.2.2.2 p) (fun X w3 t he ht => ?_) (by decide +kernel) (fun r w3 he hk hl => ?_)
  · simp only [List.mem_cons, Prod.mk.injEq, List.not_mem_nil, or_false] at ht
    rcases ht with ⟨rfl, rfl⟩
    · unfold e_L_wouldBeStale
      rw [m_g_t (LZ_kd H), he]
      show (if IOB = "java/lang/IndexOutOfBoundsException" then some ((1 : Int32), w3) else none) = some (1, w3)
      rw [if_pos (by decide +kernel)]
  · unfold e_L_wouldBeStale
    rw [m_g_t (LZ_kd H), he]
    exact m_g_t ⟨hk, by rw [hl]; decide +kernel⟩
theorem LG_grant (H : LZ Z ρ t0.1 h o σ u) (p0 p1 p2 : Int32) : LG Z t0.1 h o u (q_n σ) cvI (e_L_grant (x_ov Z u) h p0 p1 p2 o) (f_X7_grant u p0 p1 p2) := by
  refine LG_w H (J_grant (t0 := t0) H.2.2.2.2 p0 p1 p2) (fun X w3 t he ht => ?_) (by decide +kernel) (fun r w3 he hk hl => ?_)
  · simp only [List.mem_cons, Prod.mk.injEq, List.not_mem_nil, or_false] at ht
    rcases ht with ⟨rfl, rfl⟩ | ⟨rfl, rfl⟩
    · unfold e_L_grant
      rw [m_g_t (LZ_kd H), he]
      show (if IOB = "java/lang/IndexOutOfBoundsException" then some ((1 : Int32), w3) else (if IOB = "java/lang/IllegalArgumentException" then some ((2 : Int32), w3) else none)) = some (1, w3)
      rw [if_pos (by decide +kernel)]
    · unfold e_L_grant
      rw [m_g_t (LZ_kd H), he]
      show (if IAE = "java/lang/IndexOutOfBoundsException" then some ((1 : Int32), w3) else (if IAE = "java/lang/IllegalArgumentException" then some ((2 : Int32), w3) else none)) = some (2, w3)
      rw [if_neg (by decide +kernel), if_pos (by decide +kernel)]
  · unfold e_L_grant
    rw [m_g_t (LZ_kd H), he]
    exact m_g_t ⟨hk, by rw [hl]; decide +kernel⟩
theorem LG_clear (H : LZ Z ρ t0.1 h o σ u) (p0 p1 : Int32) : LG Z t0.1 h o u (q_n σ) cvI (e_L_clear (x_ov Z u) h p0 p1 o) (f_X7_clear u p0 p1) := by
  refine LG_w H (J_clear (t0 := t0) H.2.2.2.2 p0 p1) (fun X w3 t he ht => ?_) (by decide +kernel) (fun r w3 he hk hl => ?_)
  · simp only [List.mem_cons, Prod.mk.injEq, List.not_mem_nil, or_false] at ht
    rcases ht with ⟨rfl, rfl⟩ | ⟨rfl, rfl⟩
    · unfold e_L_clear
      rw [m_g_t (LZ_kd H), he]
      show (if IOB = "java/lang/IndexOutOfBoundsException" then some ((1 : Int32), w3) else (if IOB = "java/lang/IllegalStateException" then some ((2 : Int32), w3) else none)) = some (1, w3)
      rw [if_pos (by decide +kernel)]
    · unfold e_L_clear
      rw [m_g_t (LZ_kd H), he]
      show (if ISE = "java/lang/IndexOutOfBoundsException" then some ((1 : Int32), w3) else (if ISE = "java/lang/IllegalStateException" then some ((2 : Int32), w3) else none)) = some (2, w3)
      rw [if_neg (by decide +kernel), if_pos (by decide +kernel)]
  · unfold e_L_clear
    rw [m_g_t (LZ_kd H), he]
    exact m_g_t ⟨hk, by rw [hl]; decide +kernel⟩
theorem LG_write (H : LZ Z ρ t0.1 h o σ u) (p0 p1 p2 p3 p4 p5 : Int32) : LG Z t0.1 h o u (q_n σ) cvI (e_L_write t0 (x_ov Z u) h p0 p1 p2 p3 p4 p5 o) (f_X7_write u p0 p1 p2 p3 p4 p5) := by
  refine LG_w H (J_write (t0 := t0) H.2.2.2.2 p0 p1 p2 p3 p4 p5) (fun X w3 t he ht => ?_) (by decide +kernel) (fun r w3 he hk hl => ?_)
  · simp only [List.mem_cons, Prod.mk.injEq, List.not_mem_nil, or_false] at ht
    rcases ht with ⟨rfl, rfl⟩ | ⟨rfl, rfl⟩ | ⟨rfl, rfl⟩
    · unfold e_L_write
      rw [m_g_t (LZ_kd H), he]
      show (if IOB = "java/lang/IndexOutOfBoundsException" then some ((1 : Int32), w3) else (if IOB = "java/lang/IllegalArgumentException" then some ((2 : Int32), w3) else (if IOB = "java/lang/IllegalStateException" then some ((3 : Int32), w3) else none))) = some (1, w3)
      rw [if_pos (by decide +kernel)]
    · unfold e_L_write
      rw [m_g_t (LZ_kd H), he]
      show (if IAE = "java/lang/IndexOutOfBoundsException" then some ((1 : Int32), w3) else (if IAE = "java/lang/IllegalArgumentException" then some ((2 : Int32), w3) else (if IAE = "java/lang/IllegalStateException" then some ((3 : Int32), w3) else none))) = some (2, w3)
      rw [if_neg (by decide +kernel), if_pos (by decide +kernel)]
    · unfold e_L_write
      rw [m_g_t (LZ_kd H), he]
      show (if ISE = "java/lang/IndexOutOfBoundsException" then some ((1 : Int32), w3) else (if ISE = "java/lang/IllegalArgumentException" then some ((2 : Int32), w3) else (if ISE = "java/lang/IllegalStateException" then some ((3 : Int32), w3) else none))) = some (3, w3)
      rw [if_neg (by decide +kernel), if_neg (by decide +kernel), if_pos (by decide +kernel)]
  · unfold e_L_write
    rw [m_g_t (LZ_kd H), he]
    exact m_g_t ⟨hk, by rw [hl]; decide +kernel⟩
theorem LG_run (H : LZ Z ρ t0.1 h o σ u) (p0 p1 : Int32) : LG Z t0.1 h o u (q_n σ) cvB (e_L_run t0 (x_ov Z u) h p0 p1 o) (f_X7_run u p0 p1) := by
  refine LG_w H (J_run (t0 := t0) H.2.2.2.2 p0 p1) (fun X w3 t he ht => ?_) (by decide +kernel) (fun r w3 he hk hl => ?_)
  · simp only [List.mem_cons, Prod.mk.injEq, List.not_mem_nil, or_false] at ht
    rcases ht with ⟨rfl, rfl⟩ | ⟨rfl, rfl⟩
    · unfold e_L_run
      rw [m_g_t (LZ_kd H), he]
      show (if IOB = "java/lang/IndexOutOfBoundsException" then some ((1 : Int32), w3) else (if IOB = "java/lang/IllegalStateException" then some ((2 : Int32), w3) else none)) = some (1, w3)
      rw [if_pos (by decide +kernel)]
    · unfold e_L_run
      rw [m_g_t (LZ_kd H), he]
      show (if ISE = "java/lang/IndexOutOfBoundsException" then some ((1 : Int32), w3) else (if ISE = "java/lang/IllegalStateException" then some ((2 : Int32), w3) else none)) = some (2, w3)
      rw [if_neg (by decide +kernel), if_pos (by decide +kernel)]
  · unfold e_L_run
    rw [m_g_t (LZ_kd H), he]
    show (if r = (0 : Int32) then (e_L_run_16 t0 w3 0 0 o) else (e_L_run_16 t0 w3 1 0 o)) = some (0, m_sL w3 o ((0 : Int32).toNatClampNeg) (if r = (0 : Int32) then 0 else 1))
    unfold e_L_run_16
    by_cases hr : r = (0 : Int32)
    · rw [if_pos hr, if_pos hr, m_g_t (by exact ⟨hk, by rw [hl]; decide +kernel⟩)]
      rfl
    · rw [if_neg hr, if_neg hr, m_g_t (by exact ⟨hk, by rw [hl]; decide +kernel⟩)]
      rfl
theorem LG_refresh (H : LZ Z ρ t0.1 h o σ u) (p0 : Int32) : ∃ K, (∀ r w1, e_X6_refresh t0 (x_ov Z u) h p0 = some (.inl r, w1) → r.toInt ≤ (K : Nat)) ∧ LG Z t0.1 h o u (q_n σ + K) cvI (e_L_refresh t0 (x_ov Z u) h p0 o) (f_X7_refresh u p0) := by
  obtain ⟨K, hK, J⟩ := J_refresh (t0 := t0) H.2.2.2.2 p0
  refine ⟨K, hK, LG_w H J (fun X w3 t he ht => ?_) (by decide +kernel) (fun r w3 he hk hl => ?_)⟩
  · simp only [List.mem_cons, Prod.mk.injEq, List.not_mem_nil, or_false] at ht
    rcases ht with ⟨rfl, rfl⟩ | ⟨rfl, rfl⟩
    · unfold e_L_refresh
      rw [m_g_t (LZ_kd H), he]
      show (if IOB = "java/lang/IndexOutOfBoundsException" then some ((1 : Int32), w3) else (if IOB = "java/lang/IllegalStateException" then some ((2 : Int32), w3) else none)) = some (1, w3)
      rw [if_pos (by decide +kernel)]
    · unfold e_L_refresh
      rw [m_g_t (LZ_kd H), he]
      show (if ISE = "java/lang/IndexOutOfBoundsException" then some ((1 : Int32), w3) else (if ISE = "java/lang/IllegalStateException" then some ((2 : Int32), w3) else none)) = some (2, w3)
      rw [if_neg (by decide +kernel), if_pos (by decide +kernel)]
  · unfold e_L_refresh
    rw [m_g_t (LZ_kd H), he]
    exact m_g_t ⟨hk, by rw [hl]; decide +kernel⟩
theorem LN_end (H : LZ Z ρ t0.1 h o σ u) : LN Z t0.1 h o u (q_n σ) (e_X6_end (x_ov Z u) h) (f_X7_end u) := LN_w H (J_end H.2.2.2.2)
theorem LG_restore (H : LZ Z ρ t0.1 h o σ u) (p : Int32) : LG Z t0.1 h o u (q_n σ) cvI (e_L_restore (x_ov Z u) h p o) (f_X7_restore u p) := by
  refine LG_w H (J_restore (t0 := t0) H.2.2.2.2 p) (fun X w3 t he ht => ?_) (by decide +kernel) (fun r w3 he hk hl => ?_)
  · simp only [List.mem_cons, Prod.mk.injEq, List.not_mem_nil, or_false] at ht
    rcases ht with ⟨rfl, rfl⟩
    · unfold e_L_restore
      rw [m_g_t (LZ_kd H), he]
      show (if IOB = "java/lang/IndexOutOfBoundsException" then some ((1 : Int32), w3) else none) = some (1, w3)
      rw [if_pos (by decide +kernel)]
  · unfold e_L_restore
    rw [m_g_t (LZ_kd H), he]
    exact m_g_t ⟨hk, by rw [hl]; decide +kernel⟩
theorem LG_addCell (H : LZ Z ρ t0.1 h o σ u) : LG Z t0.1 h o u (q_n σ) cvI (e_L_addCell t0 (x_ov Z u) h o) (f_X7_addCell u) := by
  refine LG_w H (J_addCell (t0 := t0) H.2.2.2.2) (fun X w3 t he ht => ?_) (by decide +kernel) (fun r w3 he hk hl => ?_)
  · simp only [List.mem_cons, Prod.mk.injEq, List.not_mem_nil, or_false] at ht
    rcases ht with ⟨rfl, rfl⟩
    · unfold e_L_addCell
      rw [m_g_t (LZ_kd H), he]
      show (if ISE = "java/lang/IllegalStateException" then some ((1 : Int32), w3) else none) = some (1, w3)
      rw [if_pos (by decide +kernel)]
  · unfold e_L_addCell
    rw [m_g_t (LZ_kd H), he]
    exact m_g_t ⟨hk, by rw [hl]; decide +kernel⟩
theorem LG_keep (H : LZ Z ρ t0.1 h o σ u) : LG Z t0.1 h o u (q_n σ) cvI (e_L_keep t0 (x_ov Z u) h o) (f_X7_keep u) := by
  refine LG_w H (J_keep (t0 := t0) H.2.2.2.2) (fun X w3 t he ht => ?_) (by decide +kernel) (fun r w3 he hk hl => ?_)
  · simp only [List.mem_cons, Prod.mk.injEq, List.not_mem_nil, or_false] at ht
    rcases ht with ⟨rfl, rfl⟩
    · unfold e_L_keep
      rw [m_g_t (LZ_kd H), he]
      show (if ISE = "java/lang/IllegalStateException" then some ((1 : Int32), w3) else none) = some (1, w3)
      rw [if_pos (by decide +kernel)]
  · unfold e_L_keep
    rw [m_g_t (LZ_kd H), he]
    exact m_g_t ⟨hk, by rw [hl]; decide +kernel⟩
theorem LN_logged (H : LZ Z ρ t0.1 h o σ u) : LN Z t0.1 h o u (q_n σ) (e_X6_logged (x_ov Z u) h) (f_X7_logged u) := LN_w H (J_logged H.2.2.2.2)
theorem LG_logAt (H : LZ Z ρ t0.1 h o σ u) (p : Int32) : LG Z t0.1 h o u (q_n σ) cvI (e_L_logAt (x_ov Z u) h p o) (f_X7_logAt u p) := by
  refine LG_w H (J_logAt (t0 := t0) H.2.2.2.2 p) (fun X w3 t he ht => ?_) (by decide +kernel) (fun r w3 he hk hl => ?_)
  · simp only [List.mem_cons, Prod.mk.injEq, List.not_mem_nil, or_false] at ht
    rcases ht with ⟨rfl, rfl⟩
    · unfold e_L_logAt
      rw [m_g_t (LZ_kd H), he]
      show (if IOB = "java/lang/IndexOutOfBoundsException" then some ((1 : Int32), w3) else none) = some (1, w3)
      rw [if_pos (by decide +kernel)]
  · unfold e_L_logAt
    rw [m_g_t (LZ_kd H), he]
    exact m_g_t ⟨hk, by rw [hl]; decide +kernel⟩
theorem LG_forget (H : LZ Z ρ t0.1 h o σ u) (p : Int32) : LG Z t0.1 h o u (q_n σ) cvI (e_L_forget (x_ov Z u) h p o) (f_X7_forget u p) := by
  refine LG_w H (J_forget (t0 := t0) H.2.2.2.2 p) (fun X w3 t he ht => ?_) (by decide +kernel) (fun r w3 he hk hl => ?_)
  · simp only [List.mem_cons, Prod.mk.injEq, List.not_mem_nil, or_false] at ht
    rcases ht with ⟨rfl, rfl⟩
    · unfold e_L_forget
      rw [m_g_t (LZ_kd H), he]
      show (if IOB = "java/lang/IndexOutOfBoundsException" then some ((1 : Int32), w3) else none) = some (1, w3)
      rw [if_pos (by decide +kernel)]
  · unfold e_L_forget
    rw [m_g_t (LZ_kd H), he]
    exact m_g_t ⟨hk, by rw [hl]; decide +kernel⟩
theorem LG_move (H : LZ Z ρ t0.1 h o σ u) (p0 p1 : Int32) : LG Z t0.1 h o u (q_n σ) cvI (e_L_move t0 (x_ov Z u) h p0 p1 o) (f_X7_move u p0 p1) := by
  refine LG_w H (J_move (t0 := t0) H.2.2.2.2 p0 p1) (fun X w3 t he ht => ?_) (by decide +kernel) (fun r w3 he hk hl => ?_)
  · simp only [List.mem_cons, Prod.mk.injEq, List.not_mem_nil, or_false] at ht
    rcases ht with ⟨rfl, rfl⟩
    · unfold e_L_move
      rw [m_g_t (LZ_kd H), he]
      show (if IOB = "java/lang/IndexOutOfBoundsException" then some ((1 : Int32), w3) else none) = some (1, w3)
      rw [if_pos (by decide +kernel)]
  · unfold e_L_move
    rw [m_g_t (LZ_kd H), he]
    exact m_g_t ⟨hk, by rw [hl]; decide +kernel⟩
theorem LG_isSetInOrder (H : LZ Z ρ t0.1 h o σ u) (p : Int32) : LG Z t0.1 h o u (q_n σ) cvB (e_L_isSetInOrder (x_ov Z u) h p o) (f_X7_isSetInOrder u p) := by
  refine LG_w H (J_isSetInOrder (t0 := t0) H.2.2.2.2 p) (fun X w3 t he ht => ?_) (by decide +kernel) (fun r w3 he hk hl => ?_)
  · simp only [List.mem_cons, Prod.mk.injEq, List.not_mem_nil, or_false] at ht
    rcases ht with ⟨rfl, rfl⟩
    · unfold e_L_isSetInOrder
      rw [m_g_t (LZ_kd H), he]
      show (if IOB = "java/lang/IndexOutOfBoundsException" then some ((1 : Int32), w3) else none) = some (1, w3)
      rw [if_pos (by decide +kernel)]
  · unfold e_L_isSetInOrder
    rw [m_g_t (LZ_kd H), he]
    show (if r = (0 : Int32) then (e_L_isSetInOrder_15 w3 0 0 o) else (e_L_isSetInOrder_15 w3 1 0 o)) = some (0, m_sL w3 o ((0 : Int32).toNatClampNeg) (if r = (0 : Int32) then 0 else 1))
    unfold e_L_isSetInOrder_15
    by_cases hr : r = (0 : Int32)
    · rw [if_pos hr, if_pos hr, m_g_t (by exact ⟨hk, by rw [hl]; decide +kernel⟩)]
      rfl
    · rw [if_neg hr, if_neg hr, m_g_t (by exact ⟨hk, by rw [hl]; decide +kernel⟩)]
      rfl
theorem LG_valueInOrder (H : LZ Z ρ t0.1 h o σ u) (p : Int32) : LG Z t0.1 h o u (q_n σ) cvI (e_L_valueInOrder (x_ov Z u) h p o) (f_X7_valueInOrder u p) := by
  refine LG_w H (J_valueInOrder (t0 := t0) H.2.2.2.2 p) (fun X w3 t he ht => ?_) (by decide +kernel) (fun r w3 he hk hl => ?_)
  · simp only [List.mem_cons, Prod.mk.injEq, List.not_mem_nil, or_false] at ht
    rcases ht with ⟨rfl, rfl⟩ | ⟨rfl, rfl⟩
    · unfold e_L_valueInOrder
      rw [m_g_t (LZ_kd H), he]
      show (if IOB = "java/lang/IndexOutOfBoundsException" then some ((1 : Int32), w3) else (if IOB = "java/lang/IllegalStateException" then some ((2 : Int32), w3) else none)) = some (1, w3)
      rw [if_pos (by decide +kernel)]
    · unfold e_L_valueInOrder
      rw [m_g_t (LZ_kd H), he]
      show (if ISE = "java/lang/IndexOutOfBoundsException" then some ((1 : Int32), w3) else (if ISE = "java/lang/IllegalStateException" then some ((2 : Int32), w3) else none)) = some (2, w3)
      rw [if_neg (by decide +kernel), if_pos (by decide +kernel)]
  · unfold e_L_valueInOrder
    rw [m_g_t (LZ_kd H), he]
    exact m_g_t ⟨hk, by rw [hl]; decide +kernel⟩
theorem LN_unlikeInOrder (H : LZ Z ρ t0.1 h o σ u) : LN Z t0.1 h o u (q_n σ) (e_X6_unlikeInOrder (x_ov Z u) h) (f_X7_unlikeInOrder u) := LN_w H (J_unlikeInOrder H.2.2.2.2)
theorem LG_source (H : LZ Z ρ t0.1 h o σ u) (p : Int32) : LG Z t0.1 h o u (q_n σ) cvI (e_L_source t0 (x_ov Z u) h p o) (f_X7_source u p) := by
  refine LG_w H (J_source (t0 := t0) H.2.2.2.2 p) (fun X w3 t he ht => ?_) (by decide +kernel) (fun r w3 he hk hl => ?_)
  · simp only [List.mem_cons, Prod.mk.injEq, List.not_mem_nil, or_false] at ht
    rcases ht with ⟨rfl, rfl⟩
    · unfold e_L_source
      rw [m_g_t (LZ_kd H), he]
      show (if IOB = "java/lang/IndexOutOfBoundsException" then some ((1 : Int32), w3) else none) = some (1, w3)
      rw [if_pos (by decide +kernel)]
  · unfold e_L_source
    rw [m_g_t (LZ_kd H), he]
    exact m_g_t ⟨hk, by rw [hl]; decide +kernel⟩
theorem LG_sourceChar (H : LZ Z ρ t0.1 h o σ u) (p0 p1 : Int32) : LG Z t0.1 h o u (q_n σ) cvI (e_L_sourceChar t0 (x_ov Z u) h p0 p1 o) (f_X7_sourceChar u p0 p1) := by
  refine LG_w H (J_sourceChar (t0 := t0) H.2.2.2.2 p0 p1) (fun X w3 t he ht => ?_) (by decide +kernel) (fun r w3 he hk hl => ?_)
  · simp only [List.mem_cons, Prod.mk.injEq, List.not_mem_nil, or_false] at ht
    rcases ht with ⟨rfl, rfl⟩
    · unfold e_L_sourceChar
      rw [m_g_t (LZ_kd H), he]
      show (if IOB = "java/lang/IndexOutOfBoundsException" then some ((1 : Int32), w3) else none) = some (1, w3)
      rw [if_pos (by decide +kernel)]
  · unfold e_L_sourceChar
    rw [m_g_t (LZ_kd H), he]
    exact m_g_t ⟨hk, by rw [hl]; decide +kernel⟩
end LAWC
