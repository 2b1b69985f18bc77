section LAWCASES
variable {p : Program} {l : Launch} {e : Env} {s : State} {m : MethodId} {below : List Frame} {meth : Method} {c : Code} {b L : Nat} {xs : Nat → Int32} {G : m_G} {h o j : Nat} {x4 : Int32}
set_option maxHeartbeats 4000000 in
set_option maxRecDepth 100000 in
theorem lw_c0 (C0 : lw_At p s m meth c b L xs) (E : lw_E l G s x4 j L) (K : lw_Go p l e s m below meth c b G h o x4 (j + 1) 1940) : lw_Go p l e s m below meth c b G h o x4 j 188 := by
  intro Z ρ σ u H locs ls k n J
  obtain ⟨hx, hb, hr, hml, hown, hts, hX, hbl, hlocks, hgv⟩ := id C0
  obtain ⟨hst, hM, hG1, hj, hv0, hv⟩ := E
  obtain ⟨hZ, hP, hS, hl, hk, hn⟩ := J
  have hown : s.vm.findClass RL = some m.cls := hown
  have hbA : ¬ (fun q : Nat => G.1 ≤ q) b := by rw [hG1]; exact Nat.not_le.mpr hbl
  have hq0 := LZ_q hZ
  refine lv_aload_n hx hb dL_law_188 rfl (lv_at hl 1 rfl) ?_
  refine lv_aload_n hx hb dL_law_189 rfl (lv_at hl 3 rfl) ?_
  obtain ⟨w3, bb, u1, he, hf, hcv, hall⟩ := LG_addCell (t0 := G.2.2.2) hZ 
  have hq1 : q_n σ ≤ 400 := by
    obtain ⟨Z9, ρ9, σ9, y1, y2, y3, y4⟩ := hall (m_nx w3) (Nat.le_refl _)
    exact Nat.le_trans y4 (LZ_q y3)
  refine m_calln (k := k + 5) (n := n + 1212) (vx_runSW (As := [.ref h, .ref o]) (rest := []) ⟨hx, hb, hml, hown, w_lawH hts⟩ (c_L_addCell l hst G (x_ov Z u) w3 h  o (u1.1 31) he) (vx_cwSW 2 (w_lawH hts) gL_law_L_addCell rfl rfl rfl (by decide +kernel) ⟨(Nat.le_of_ble_eq_true rfl), (Nat.le_of_ble_eq_true rfl)⟩) (m_preS hM hP hS) rfl rfl hl.1 rfl (lv_room (Nat.le_of_ble_eq_true rfl)) dL_law_190 ⟨by show k + 5 ≤ 601024; omega, by show n + 1212 ≤ 7293034; omega⟩) hS ⟨Nat.le_refl _, Nat.le_refl _⟩ (fun nn H locs hnn hP hS => ?_)
  obtain ⟨Z1, ρ1, σ1, z1, z2, z3, z4⟩ := hall nn hnn
  rw [← z2] at hP
  have e2 : Z1.2.1 = Z.2.1 := by rw [z1]
  rw [← e2] at hl
  refine lv_istore (lv' := [(5, .int (u1.1 31)), (0, .ref b), (1, .ref h), (2, .ref Z1.2.1), (3, .ref o), (4, .int x4)]) hx hb dL_law_193 hl (by decide) rfl (fun ls hl => ?_)
  refine lv_aload_n hx hb dL_law_195 rfl (lv_at hl 3 rfl) ?_
  refine m_calli (k := k + 5) (n := n + 1212) (va_runV (As := []) (rest := []) ⟨hx, hb, hml, hown, w_lawH hts⟩ (c_X7_addCell l G Z1 z3.1 u u1  bb hf) (cwV 0 (w_lawH hts) gL_law_X7_addCell rfl rfl rfl (by decide +kernel) ⟨(Nat.le_of_ble_eq_true rfl), (Nat.le_of_ble_eq_true rfl)⟩) (m_preV (C := RX7) (T := TX7) (N := 32) (ci := 10) hM hP hS rfl (by decide) z3.1.1) rfl rfl hl.1 rfl (lv_room (Nat.le_of_ble_eq_true rfl)) dL_law_196 ⟨by show k + 5 + 0 ≤ 601024; omega, by show n + 1212 + 0 ≤ 7293034; omega⟩) hS ⟨Nat.le_refl _, Nat.le_refl _⟩ (fun H locs hP hS => ?_)
  refine lv_istore (lv' := [(6, .int bb), (5, .int (u1.1 31)), (0, .ref b), (1, .ref h), (2, .ref Z1.2.1), (3, .ref o), (4, .int x4)]) hx hb dL_law_199 hl (by decide) rfl (fun ls hl => ?_)
  refine lv_aload_n hx hb dL_law_201 rfl (lv_at hl 4 rfl) ?_
  refine m_calli (k := k + 5) (n := n + 1212) (va_runV (As := []) (rest := []) ⟨hx, hb, hml, hown, w_lawH hts⟩ (c_X7_thrown l G Z1 z3.1 u1 u1 (u1.1 31) rfl) (cwV 0 (w_lawH hts) gL_law_X7_thrown rfl rfl rfl (by decide +kernel) ⟨(Nat.le_of_ble_eq_true rfl), (Nat.le_of_ble_eq_true rfl)⟩) (m_preV (C := RX7) (T := TX7) (N := 32) (ci := 10) hM hP hS rfl (by decide) z3.1.1) rfl rfl hl.1 rfl (lv_room (Nat.le_of_ble_eq_true rfl)) dL_law_202 ⟨by show k + 5 + 0 ≤ 601024; omega, by show n + 1212 + 0 ≤ 7293034; omega⟩) hS ⟨Nat.le_refl _, Nat.le_refl _⟩ (fun H locs hP hS => ?_)
  refine lv_iload hx hb dL_law_205 (lv_at hl 1 rfl) ?_
  refine lv_icmp_eq (tgt := 212) hx hb dL_law_207 (by decide) (fun _ => ?_) (fun c9 => absurd rfl c9)
  have fin : ∀ ls : Array Slot, lv_has ls 7 [(6, .int bb), (5, .int (u1.1 31)), (0, .ref b), (1, .ref h), (2, .ref Z1.2.1), (3, .ref o), (4, .int x4)] → W p l e room_1 s m #[Value.ref b] below meth c H locs (k + 5) (n + 1212) (lw_Z below #[Value.ref b] s) (F0 m 1940 ls []) := fun ls hl => K Z1 ρ1 σ1 u1 H locs ls (k + 5) (n + 1212) ⟨z3, hP, hS, lv_sub hl [2, 3, 4, 5, 6] rfl, by omega, by omega⟩
  refine lv_iload hx hb dL_law_212 (lv_at hl 1 rfl) ?_
  refine lv_if_ne (tgt := 229) hx hb dL_law_214 (by decide) (fun _ => lv_goto (tgt := 1940) hx hb dL_law_229 (by decide) (fin ls hl)) (fun c8 => ?_)
  have e9 : m_la (x_ov Z1 u1) o (0 : Int32).toNatClampNeg = cvI bb := by
    rw [← hcv c8]
    show m_la (x_ov Z1 u) o _ = m_la w3 o _
    rw [z2]
    rfl
  refine lv_aload_n hx hb dL_law_217 rfl (lv_at hl 5 rfl) ?_
  refine lv_iconst (v := 0) hx hb dL_law_218 (by decide) ?_
  refine m_lald hx hb hM.1 hP (LZ_o z3 u1) dL_law_219 ?_
  rw [e9]
  refine lv_iload hx hb dL_law_220 (lv_at hl 0 rfl) ?_
  refine lv_i2l (v := cvI bb) hx hb dL_law_222 rfl ?_
  refine W.lcmp hx hb dL_law_223 ?_
  exact lv_if_eq (tgt := 229) hx hb dL_law_224 (by decide) (fun _ => lv_goto (tgt := 1940) hx hb dL_law_229 (by decide) (fin ls hl)) (fun c6 => absurd (lg_cmp_self _) c6)
set_option maxHeartbeats 4000000 in
set_option maxRecDepth 100000 in
theorem lw_c1 (C0 : lw_At p s m meth c b L xs) (E : lw_E l G s x4 j L) (K : lw_Go p l e s m below meth c b G h o x4 (j + 1) 1940) : lw_Go p l e s m below meth c b G h o x4 j 232 := by
  intro Z ρ σ u H locs ls k n J
  obtain ⟨hx, hb, hr, hml, hown, hts, hX, hbl, hlocks, hgv⟩ := id C0
  obtain ⟨hst, hM, hG1, hj, hv0, hv⟩ := E
  obtain ⟨hZ, hP, hS, hl, hk, hn⟩ := J
  have hown : s.vm.findClass RL = some m.cls := hown
  have hbA : ¬ (fun q : Nat => G.1 ≤ q) b := by rw [hG1]; exact Nat.not_le.mpr hbl
  have hq0 := LZ_q hZ
  refine lv_aload_n hx hb dL_law_232 rfl (lv_at hl 1 rfl) ?_
  refine lv_aload_n hx hb dL_law_233 rfl (lv_at hl 0 rfl) ?_
  refine lv_iload hx hb dL_law_234 (lv_at hl 4 rfl) ?_
  refine lv_iconst (v := 1) hx hb dL_law_236 (by decide) ?_
  refine lv_iadd hx hb dL_law_237 ?_
  refine va_sld (i := x4 + 1) hx hb hX hbl hbA hS (hv 1 (by decide)) dL_law_238 ?_
  refine lv_aload_n hx hb dL_law_239 rfl (lv_at hl 0 rfl) ?_
  refine lv_iload hx hb dL_law_240 (lv_at hl 4 rfl) ?_
  refine lv_iconst (v := 2) hx hb dL_law_242 (by decide) ?_
  refine lv_iadd hx hb dL_law_243 ?_
  refine va_sld (i := x4 + 2) hx hb hX hbl hbA hS (hv 2 (by decide)) dL_law_244 ?_
  refine lv_aload_n hx hb dL_law_245 rfl (lv_at hl 0 rfl) ?_
  refine lv_iload hx hb dL_law_246 (lv_at hl 4 rfl) ?_
  refine lv_iconst (v := 3) hx hb dL_law_248 (by decide) ?_
  refine lv_iadd hx hb dL_law_249 ?_
  refine va_sld (i := x4 + 3) hx hb hX hbl hbA hS (hv 3 (by decide)) dL_law_250 ?_
  refine lv_aload_n hx hb dL_law_251 rfl (lv_at hl 0 rfl) ?_
  refine lv_iload hx hb dL_law_252 (lv_at hl 4 rfl) ?_
  refine lv_iconst (v := 4) hx hb dL_law_254 (by decide) ?_
  refine lv_iadd hx hb dL_law_255 ?_
  refine va_sld (i := x4 + 4) hx hb hX hbl hbA hS (hv 4 (by decide)) dL_law_256 ?_
  refine lv_aload_n hx hb dL_law_257 rfl (lv_at hl 0 rfl) ?_
  refine lv_iload hx hb dL_law_258 (lv_at hl 4 rfl) ?_
  refine lv_iconst (v := 5) hx hb dL_law_260 (by decide) ?_
  refine lv_iadd hx hb dL_law_261 ?_
  refine va_sld (i := x4 + 5) hx hb hX hbl hbA hS (hv 5 (by decide)) dL_law_262 ?_
  refine lv_aload_n hx hb dL_law_263 rfl (lv_at hl 0 rfl) ?_
  refine lv_iload hx hb dL_law_264 (lv_at hl 4 rfl) ?_
  refine lv_bipush (v := 6) hx hb dL_law_266 (by decide) ?_
  refine lv_iadd hx hb dL_law_268 ?_
  refine va_sld (i := x4 + 6) hx hb hX hbl hbA hS (hv 6 (by decide)) dL_law_269 ?_
  refine lv_aload_n hx hb dL_law_270 rfl (lv_at hl 3 rfl) ?_
  obtain ⟨w3, bb, u1, he, hf, hcv, hall⟩ := LG_write (t0 := G.2.2.2) hZ ((xs (x4 + 1).toNatClampNeg)) ((xs (x4 + 2).toNatClampNeg)) ((xs (x4 + 3).toNatClampNeg)) ((xs (x4 + 4).toNatClampNeg)) ((xs (x4 + 5).toNatClampNeg)) ((xs (x4 + 6).toNatClampNeg))
  have hq1 : q_n σ ≤ 400 := by
    obtain ⟨Z9, ρ9, σ9, y1, y2, y3, y4⟩ := hall (m_nx w3) (Nat.le_refl _)
    exact Nat.le_trans y4 (LZ_q y3)
  refine m_calln (k := k + 6) (n := n + 628) (vx_runSW (As := [.ref h, .int (xs (x4 + 1).toNatClampNeg), .int (xs (x4 + 2).toNatClampNeg), .int (xs (x4 + 3).toNatClampNeg), .int (xs (x4 + 4).toNatClampNeg), .int (xs (x4 + 5).toNatClampNeg), .int (xs (x4 + 6).toNatClampNeg), .ref o]) (rest := []) ⟨hx, hb, hml, hown, w_lawH hts⟩ (c_L_write l hst G (x_ov Z u) w3 h ((xs (x4 + 1).toNatClampNeg)) ((xs (x4 + 2).toNatClampNeg)) ((xs (x4 + 3).toNatClampNeg)) ((xs (x4 + 4).toNatClampNeg)) ((xs (x4 + 5).toNatClampNeg)) ((xs (x4 + 6).toNatClampNeg)) o (u1.1 31) he) (vx_cwSW 8 (w_lawH hts) gL_law_L_write rfl rfl rfl (by decide +kernel) ⟨(Nat.le_of_ble_eq_true rfl), (Nat.le_of_ble_eq_true rfl)⟩) (m_preS hM hP hS) rfl rfl hl.1 rfl (lv_room (Nat.le_of_ble_eq_true rfl)) dL_law_271 ⟨by show k + 6 ≤ 601024; omega, by show n + 628 ≤ 7293034; omega⟩) hS ⟨Nat.le_refl _, Nat.le_refl _⟩ (fun nn H locs hnn hP hS => ?_)
  obtain ⟨Z1, ρ1, σ1, z1, z2, z3, z4⟩ := hall nn hnn
  rw [← z2] at hP
  have e2 : Z1.2.1 = Z.2.1 := by rw [z1]
  rw [← e2] at hl
  refine lv_istore (lv' := [(5, .int (u1.1 31)), (0, .ref b), (1, .ref h), (2, .ref Z1.2.1), (3, .ref o), (4, .int x4)]) hx hb dL_law_274 hl (by decide) rfl (fun ls hl => ?_)
  refine lv_aload_n hx hb dL_law_276 rfl (lv_at hl 3 rfl) ?_
  refine lv_aload_n hx hb dL_law_277 rfl (lv_at hl 1 rfl) ?_
  refine lv_iload hx hb dL_law_278 (lv_at hl 5 rfl) ?_
  refine lv_iconst (v := 1) hx hb dL_law_280 (by decide) ?_
  refine lv_iadd hx hb dL_law_281 ?_
  refine va_sld (i := x4 + 1) hx hb hX hbl hbA hS (hv 1 (by decide)) dL_law_282 ?_
  refine lv_aload_n hx hb dL_law_283 rfl (lv_at hl 1 rfl) ?_
  refine lv_iload hx hb dL_law_284 (lv_at hl 5 rfl) ?_
  refine lv_iconst (v := 2) hx hb dL_law_286 (by decide) ?_
  refine lv_iadd hx hb dL_law_287 ?_
  refine va_sld (i := x4 + 2) hx hb hX hbl hbA hS (hv 2 (by decide)) dL_law_288 ?_
  refine lv_aload_n hx hb dL_law_289 rfl (lv_at hl 1 rfl) ?_
  refine lv_iload hx hb dL_law_290 (lv_at hl 5 rfl) ?_
  refine lv_iconst (v := 3) hx hb dL_law_292 (by decide) ?_
  refine lv_iadd hx hb dL_law_293 ?_
  refine va_sld (i := x4 + 3) hx hb hX hbl hbA hS (hv 3 (by decide)) dL_law_294 ?_
  refine lv_aload_n hx hb dL_law_295 rfl (lv_at hl 1 rfl) ?_
  refine lv_iload hx hb dL_law_296 (lv_at hl 5 rfl) ?_
  refine lv_iconst (v := 4) hx hb dL_law_298 (by decide) ?_
  refine lv_iadd hx hb dL_law_299 ?_
  refine va_sld (i := x4 + 4) hx hb hX hbl hbA hS (hv 4 (by decide)) dL_law_300 ?_
  refine lv_aload_n hx hb dL_law_301 rfl (lv_at hl 1 rfl) ?_
  refine lv_iload hx hb dL_law_302 (lv_at hl 5 rfl) ?_
  refine lv_iconst (v := 5) hx hb dL_law_304 (by decide) ?_
  refine lv_iadd hx hb dL_law_305 ?_
  refine va_sld (i := x4 + 5) hx hb hX hbl hbA hS (hv 5 (by decide)) dL_law_306 ?_
  refine lv_aload_n hx hb dL_law_307 rfl (lv_at hl 1 rfl) ?_
  refine lv_iload hx hb dL_law_308 (lv_at hl 5 rfl) ?_
  refine lv_bipush (v := 6) hx hb dL_law_310 (by decide) ?_
  refine lv_iadd hx hb dL_law_312 ?_
  refine va_sld (i := x4 + 6) hx hb hX hbl hbA hS (hv 6 (by decide)) dL_law_313 ?_
  refine m_calli (k := k + 6) (n := n + 628) (va_runV (As := [.int (xs (x4 + 1).toNatClampNeg), .int (xs (x4 + 2).toNatClampNeg), .int (xs (x4 + 3).toNatClampNeg), .int (xs (x4 + 4).toNatClampNeg), .int (xs (x4 + 5).toNatClampNeg), .int (xs (x4 + 6).toNatClampNeg)]) (rest := []) ⟨hx, hb, hml, hown, w_lawH hts⟩ (c_X7_write l G Z1 z3.1 u u1 ((xs (x4 + 1).toNatClampNeg)) ((xs (x4 + 2).toNatClampNeg)) ((xs (x4 + 3).toNatClampNeg)) ((xs (x4 + 4).toNatClampNeg)) ((xs (x4 + 5).toNatClampNeg)) ((xs (x4 + 6).toNatClampNeg)) bb hf) (cwV 6 (w_lawH hts) gL_law_X7_write rfl rfl rfl (by decide +kernel) ⟨(Nat.le_of_ble_eq_true rfl), (Nat.le_of_ble_eq_true rfl)⟩) (m_preV (C := RX7) (T := TX7) (N := 32) (ci := 10) hM hP hS rfl (by decide) z3.1.1) rfl rfl hl.1 rfl (lv_room (Nat.le_of_ble_eq_true rfl)) dL_law_314 ⟨by show k + 6 + 0 ≤ 601024; omega, by show n + 628 + 0 ≤ 7293034; omega⟩) hS ⟨Nat.le_refl _, Nat.le_refl _⟩ (fun H locs hP hS => ?_)
  refine lv_istore (lv' := [(6, .int bb), (5, .int (u1.1 31)), (0, .ref b), (1, .ref h), (2, .ref Z1.2.1), (3, .ref o), (4, .int x4)]) hx hb dL_law_317 hl (by decide) rfl (fun ls hl => ?_)
  refine lv_aload_n hx hb dL_law_319 rfl (lv_at hl 4 rfl) ?_
  refine m_calli (k := k + 6) (n := n + 628) (va_runV (As := []) (rest := []) ⟨hx, hb, hml, hown, w_lawH hts⟩ (c_X7_thrown l G Z1 z3.1 u1 u1 (u1.1 31) rfl) (cwV 0 (w_lawH hts) gL_law_X7_thrown rfl rfl rfl (by decide +kernel) ⟨(Nat.le_of_ble_eq_true rfl), (Nat.le_of_ble_eq_true rfl)⟩) (m_preV (C := RX7) (T := TX7) (N := 32) (ci := 10) hM hP hS rfl (by decide) z3.1.1) rfl rfl hl.1 rfl (lv_room (Nat.le_of_ble_eq_true rfl)) dL_law_320 ⟨by show k + 6 + 0 ≤ 601024; omega, by show n + 628 + 0 ≤ 7293034; omega⟩) hS ⟨Nat.le_refl _, Nat.le_refl _⟩ (fun H locs hP hS => ?_)
  refine lv_iload hx hb dL_law_323 (lv_at hl 1 rfl) ?_
  refine lv_icmp_eq (tgt := 330) hx hb dL_law_325 (by decide) (fun _ => ?_) (fun c9 => absurd rfl c9)
  have fin : ∀ ls : Array Slot, lv_has ls 7 [(6, .int bb), (5, .int (u1.1 31)), (0, .ref b), (1, .ref h), (2, .ref Z1.2.1), (3, .ref o), (4, .int x4)] → W p l e room_1 s m #[Value.ref b] below meth c H locs (k + 6) (n + 628) (lw_Z below #[Value.ref b] s) (F0 m 1940 ls []) := fun ls hl => K Z1 ρ1 σ1 u1 H locs ls (k + 6) (n + 628) ⟨z3, hP, hS, lv_sub hl [2, 3, 4, 5, 6] rfl, by omega, by omega⟩
  refine lv_iload hx hb dL_law_330 (lv_at hl 1 rfl) ?_
  refine lv_if_ne (tgt := 347) hx hb dL_law_332 (by decide) (fun _ => lv_goto (tgt := 1940) hx hb dL_law_347 (by decide) (fin ls hl)) (fun c8 => ?_)
  have e9 : m_la (x_ov Z1 u1) o (0 : Int32).toNatClampNeg = cvI bb := by
    rw [← hcv c8]
    show m_la (x_ov Z1 u) o _ = m_la w3 o _
    rw [z2]
    rfl
  refine lv_aload_n hx hb dL_law_335 rfl (lv_at hl 5 rfl) ?_
  refine lv_iconst (v := 0) hx hb dL_law_336 (by decide) ?_
  refine m_lald hx hb hM.1 hP (LZ_o z3 u1) dL_law_337 ?_
  rw [e9]
  refine lv_iload hx hb dL_law_338 (lv_at hl 0 rfl) ?_
  refine lv_i2l (v := cvI bb) hx hb dL_law_340 rfl ?_
  refine W.lcmp hx hb dL_law_341 ?_
  exact lv_if_eq (tgt := 347) hx hb dL_law_342 (by decide) (fun _ => lv_goto (tgt := 1940) hx hb dL_law_347 (by decide) (fin ls hl)) (fun c6 => absurd (lg_cmp_self _) c6)
set_option maxHeartbeats 4000000 in
set_option maxRecDepth 100000 in
theorem lw_c2 (C0 : lw_At p s m meth c b L xs) (E : lw_E l G s x4 j L) (K : lw_Go p l e s m below meth c b G h o x4 (j + 1) 1940) : lw_Go p l e s m below meth c b G h o x4 j 350 := by
  intro Z ρ σ u H locs ls k n J
  obtain ⟨hx, hb, hr, hml, hown, hts, hX, hbl, hlocks, hgv⟩ := id C0
  obtain ⟨hst, hM, hG1, hj, hv0, hv⟩ := E
  obtain ⟨hZ, hP, hS, hl, hk, hn⟩ := J
  have hown : s.vm.findClass RL = some m.cls := hown
  have hbA : ¬ (fun q : Nat => G.1 ≤ q) b := by rw [hG1]; exact Nat.not_le.mpr hbl
  have hq0 := LZ_q hZ
  refine lv_aload_n hx hb dL_law_350 rfl (lv_at hl 1 rfl) ?_
  refine lv_aload_n hx hb dL_law_351 rfl (lv_at hl 0 rfl) ?_
  refine lv_iload hx hb dL_law_352 (lv_at hl 4 rfl) ?_
  refine lv_iconst (v := 1) hx hb dL_law_354 (by decide) ?_
  refine lv_iadd hx hb dL_law_355 ?_
  refine va_sld (i := x4 + 1) hx hb hX hbl hbA hS (hv 1 (by decide)) dL_law_356 ?_
  refine lv_aload_n hx hb dL_law_357 rfl (lv_at hl 0 rfl) ?_
  refine lv_iload hx hb dL_law_358 (lv_at hl 4 rfl) ?_
  refine lv_iconst (v := 2) hx hb dL_law_360 (by decide) ?_
  refine lv_iadd hx hb dL_law_361 ?_
  refine va_sld (i := x4 + 2) hx hb hX hbl hbA hS (hv 2 (by decide)) dL_law_362 ?_
  refine lv_aload_n hx hb dL_law_363 rfl (lv_at hl 3 rfl) ?_
  obtain ⟨w3, bb, u1, he, hf, hcv, hall⟩ := LG_clear (t0 := G.2.2.2) hZ ((xs (x4 + 1).toNatClampNeg)) ((xs (x4 + 2).toNatClampNeg))
  have hq1 : q_n σ ≤ 400 := by
    obtain ⟨Z9, ρ9, σ9, y1, y2, y3, y4⟩ := hall (m_nx w3) (Nat.le_refl _)
    exact Nat.le_trans y4 (LZ_q y3)
  refine m_calln (k := k + 3) (n := n + 18) (vx_runSW (As := [.ref h, .int (xs (x4 + 1).toNatClampNeg), .int (xs (x4 + 2).toNatClampNeg), .ref o]) (rest := []) ⟨hx, hb, hml, hown, w_lawH hts⟩ (c_L_clear l hst G (x_ov Z u) w3 h ((xs (x4 + 1).toNatClampNeg)) ((xs (x4 + 2).toNatClampNeg)) o (u1.1 31) he) (vx_cwSW 4 (w_lawH hts) gL_law_L_clear rfl rfl rfl (by decide +kernel) ⟨(Nat.le_of_ble_eq_true rfl), (Nat.le_of_ble_eq_true rfl)⟩) (m_preS hM hP hS) rfl rfl hl.1 rfl (lv_room (Nat.le_of_ble_eq_true rfl)) dL_law_364 ⟨by show k + 3 ≤ 601024; omega, by show n + 18 ≤ 7293034; omega⟩) hS ⟨Nat.le_refl _, Nat.le_refl _⟩ (fun nn H locs hnn hP hS => ?_)
  obtain ⟨Z1, ρ1, σ1, z1, z2, z3, z4⟩ := hall nn hnn
  rw [← z2] at hP
  have e2 : Z1.2.1 = Z.2.1 := by rw [z1]
  rw [← e2] at hl
  refine lv_istore (lv' := [(5, .int (u1.1 31)), (0, .ref b), (1, .ref h), (2, .ref Z1.2.1), (3, .ref o), (4, .int x4)]) hx hb dL_law_367 hl (by decide) rfl (fun ls hl => ?_)
  refine lv_aload_n hx hb dL_law_369 rfl (lv_at hl 3 rfl) ?_
  refine lv_aload_n hx hb dL_law_370 rfl (lv_at hl 1 rfl) ?_
  refine lv_iload hx hb dL_law_371 (lv_at hl 5 rfl) ?_
  refine lv_iconst (v := 1) hx hb dL_law_373 (by decide) ?_
  refine lv_iadd hx hb dL_law_374 ?_
  refine va_sld (i := x4 + 1) hx hb hX hbl hbA hS (hv 1 (by decide)) dL_law_375 ?_
  refine lv_aload_n hx hb dL_law_376 rfl (lv_at hl 1 rfl) ?_
  refine lv_iload hx hb dL_law_377 (lv_at hl 5 rfl) ?_
  refine lv_iconst (v := 2) hx hb dL_law_379 (by decide) ?_
  refine lv_iadd hx hb dL_law_380 ?_
  refine va_sld (i := x4 + 2) hx hb hX hbl hbA hS (hv 2 (by decide)) dL_law_381 ?_
  refine m_calli (k := k + 3) (n := n + 18) (va_runV (As := [.int (xs (x4 + 1).toNatClampNeg), .int (xs (x4 + 2).toNatClampNeg)]) (rest := []) ⟨hx, hb, hml, hown, w_lawH hts⟩ (c_X7_clear l G Z1 z3.1 u u1 ((xs (x4 + 1).toNatClampNeg)) ((xs (x4 + 2).toNatClampNeg)) bb hf) (cwV 2 (w_lawH hts) gL_law_X7_clear rfl rfl rfl (by decide +kernel) ⟨(Nat.le_of_ble_eq_true rfl), (Nat.le_of_ble_eq_true rfl)⟩) (m_preV (C := RX7) (T := TX7) (N := 32) (ci := 10) hM hP hS rfl (by decide) z3.1.1) rfl rfl hl.1 rfl (lv_room (Nat.le_of_ble_eq_true rfl)) dL_law_382 ⟨by show k + 3 + 0 ≤ 601024; omega, by show n + 18 + 0 ≤ 7293034; omega⟩) hS ⟨Nat.le_refl _, Nat.le_refl _⟩ (fun H locs hP hS => ?_)
  refine lv_istore (lv' := [(6, .int bb), (5, .int (u1.1 31)), (0, .ref b), (1, .ref h), (2, .ref Z1.2.1), (3, .ref o), (4, .int x4)]) hx hb dL_law_385 hl (by decide) rfl (fun ls hl => ?_)
  refine lv_aload_n hx hb dL_law_387 rfl (lv_at hl 4 rfl) ?_
  refine m_calli (k := k + 3) (n := n + 18) (va_runV (As := []) (rest := []) ⟨hx, hb, hml, hown, w_lawH hts⟩ (c_X7_thrown l G Z1 z3.1 u1 u1 (u1.1 31) rfl) (cwV 0 (w_lawH hts) gL_law_X7_thrown rfl rfl rfl (by decide +kernel) ⟨(Nat.le_of_ble_eq_true rfl), (Nat.le_of_ble_eq_true rfl)⟩) (m_preV (C := RX7) (T := TX7) (N := 32) (ci := 10) hM hP hS rfl (by decide) z3.1.1) rfl rfl hl.1 rfl (lv_room (Nat.le_of_ble_eq_true rfl)) dL_law_388 ⟨by show k + 3 + 0 ≤ 601024; omega, by show n + 18 + 0 ≤ 7293034; omega⟩) hS ⟨Nat.le_refl _, Nat.le_refl _⟩ (fun H locs hP hS => ?_)
  refine lv_iload hx hb dL_law_391 (lv_at hl 1 rfl) ?_
  refine lv_icmp_eq (tgt := 398) hx hb dL_law_393 (by decide) (fun _ => ?_) (fun c9 => absurd rfl c9)
  have fin : ∀ ls : Array Slot, lv_has ls 7 [(6, .int bb), (5, .int (u1.1 31)), (0, .ref b), (1, .ref h), (2, .ref Z1.2.1), (3, .ref o), (4, .int x4)] → W p l e room_1 s m #[Value.ref b] below meth c H locs (k + 3) (n + 18) (lw_Z below #[Value.ref b] s) (F0 m 1940 ls []) := fun ls hl => K Z1 ρ1 σ1 u1 H locs ls (k + 3) (n + 18) ⟨z3, hP, hS, lv_sub hl [2, 3, 4, 5, 6] rfl, by omega, by omega⟩
  refine lv_iload hx hb dL_law_398 (lv_at hl 1 rfl) ?_
  refine lv_if_ne (tgt := 415) hx hb dL_law_400 (by decide) (fun _ => lv_goto (tgt := 1940) hx hb dL_law_415 (by decide) (fin ls hl)) (fun c8 => ?_)
  have e9 : m_la (x_ov Z1 u1) o (0 : Int32).toNatClampNeg = cvI bb := by
    rw [← hcv c8]
    show m_la (x_ov Z1 u) o _ = m_la w3 o _
    rw [z2]
    rfl
  refine lv_aload_n hx hb dL_law_403 rfl (lv_at hl 5 rfl) ?_
  refine lv_iconst (v := 0) hx hb dL_law_404 (by decide) ?_
  refine m_lald hx hb hM.1 hP (LZ_o z3 u1) dL_law_405 ?_
  rw [e9]
  refine lv_iload hx hb dL_law_406 (lv_at hl 0 rfl) ?_
  refine lv_i2l (v := cvI bb) hx hb dL_law_408 rfl ?_
  refine W.lcmp hx hb dL_law_409 ?_
  exact lv_if_eq (tgt := 415) hx hb dL_law_410 (by decide) (fun _ => lv_goto (tgt := 1940) hx hb dL_law_415 (by decide) (fin ls hl)) (fun c6 => absurd (lg_cmp_self _) c6)
set_option maxHeartbeats 4000000 in
set_option maxRecDepth 100000 in
theorem lw_c3 (C0 : lw_At p s m meth c b L xs) (E : lw_E l G s x4 j L) (K : lw_Go p l e s m below meth c b G h o x4 (j + 1) 1940) : lw_Go p l e s m below meth c b G h o x4 j 418 := by
  intro Z ρ σ u H locs ls k n J
  obtain ⟨hx, hb, hr, hml, hown, hts, hX, hbl, hlocks, hgv⟩ := id C0
  obtain ⟨hst, hM, hG1, hj, hv0, hv⟩ := E
  obtain ⟨hZ, hP, hS, hl, hk, hn⟩ := J
  have hown : s.vm.findClass RL = some m.cls := hown
  have hbA : ¬ (fun q : Nat => G.1 ≤ q) b := by rw [hG1]; exact Nat.not_le.mpr hbl
  have hq0 := LZ_q hZ
  refine lv_aload_n hx hb dL_law_418 rfl (lv_at hl 1 rfl) ?_
  refine lv_aload_n hx hb dL_law_419 rfl (lv_at hl 0 rfl) ?_
  refine lv_iload hx hb dL_law_420 (lv_at hl 4 rfl) ?_
  refine lv_iconst (v := 1) hx hb dL_law_422 (by decide) ?_
  refine lv_iadd hx hb dL_law_423 ?_
  refine va_sld (i := x4 + 1) hx hb hX hbl hbA hS (hv 1 (by decide)) dL_law_424 ?_
  refine lv_aload_n hx hb dL_law_425 rfl (lv_at hl 0 rfl) ?_
  refine lv_iload hx hb dL_law_426 (lv_at hl 4 rfl) ?_
  refine lv_iconst (v := 2) hx hb dL_law_428 (by decide) ?_
  refine lv_iadd hx hb dL_law_429 ?_
  refine va_sld (i := x4 + 2) hx hb hX hbl hbA hS (hv 2 (by decide)) dL_law_430 ?_
  refine lv_aload_n hx hb dL_law_431 rfl (lv_at hl 3 rfl) ?_
  obtain ⟨w3, bb, u1, he, hf, hcv, hall⟩ := LG_move (t0 := G.2.2.2) hZ ((xs (x4 + 1).toNatClampNeg)) ((xs (x4 + 2).toNatClampNeg))
  have hq1 : q_n σ ≤ 400 := by
    obtain ⟨Z9, ρ9, σ9, y1, y2, y3, y4⟩ := hall (m_nx w3) (Nat.le_refl _)
    exact Nat.le_trans y4 (LZ_q y3)
  refine m_calln (k := k + 3) (n := n + 612) (vx_runSW (As := [.ref h, .int (xs (x4 + 1).toNatClampNeg), .int (xs (x4 + 2).toNatClampNeg), .ref o]) (rest := []) ⟨hx, hb, hml, hown, w_lawH hts⟩ (c_L_move l hst G (x_ov Z u) w3 h ((xs (x4 + 1).toNatClampNeg)) ((xs (x4 + 2).toNatClampNeg)) o (u1.1 31) he) (vx_cwSW 4 (w_lawH hts) gL_law_L_move rfl rfl rfl (by decide +kernel) ⟨(Nat.le_of_ble_eq_true rfl), (Nat.le_of_ble_eq_true rfl)⟩) (m_preS hM hP hS) rfl rfl hl.1 rfl (lv_room (Nat.le_of_ble_eq_true rfl)) dL_law_432 ⟨by show k + 3 ≤ 601024; omega, by show n + 612 ≤ 7293034; omega⟩) hS ⟨Nat.le_refl _, Nat.le_refl _⟩ (fun nn H locs hnn hP hS => ?_)
  obtain ⟨Z1, ρ1, σ1, z1, z2, z3, z4⟩ := hall nn hnn
  rw [← z2] at hP
  have e2 : Z1.2.1 = Z.2.1 := by rw [z1]
  rw [← e2] at hl
  refine lv_istore (lv' := [(5, .int (u1.1 31)), (0, .ref b), (1, .ref h), (2, .ref Z1.2.1), (3, .ref o), (4, .int x4)]) hx hb dL_law_435 hl (by decide) rfl (fun ls hl => ?_)
  refine lv_aload_n hx hb dL_law_437 rfl (lv_at hl 3 rfl) ?_
  refine lv_aload_n hx hb dL_law_438 rfl (lv_at hl 1 rfl) ?_
  refine lv_iload hx hb dL_law_439 (lv_at hl 5 rfl) ?_
  refine lv_iconst (v := 1) hx hb dL_law_441 (by decide) ?_
  refine lv_iadd hx hb dL_law_442 ?_
  refine va_sld (i := x4 + 1) hx hb hX hbl hbA hS (hv 1 (by decide)) dL_law_443 ?_
  refine lv_aload_n hx hb dL_law_444 rfl (lv_at hl 1 rfl) ?_
  refine lv_iload hx hb dL_law_445 (lv_at hl 5 rfl) ?_
  refine lv_iconst (v := 2) hx hb dL_law_447 (by decide) ?_
  refine lv_iadd hx hb dL_law_448 ?_
  refine va_sld (i := x4 + 2) hx hb hX hbl hbA hS (hv 2 (by decide)) dL_law_449 ?_
  refine m_calli (k := k + 3) (n := n + 612) (va_runV (As := [.int (xs (x4 + 1).toNatClampNeg), .int (xs (x4 + 2).toNatClampNeg)]) (rest := []) ⟨hx, hb, hml, hown, w_lawH hts⟩ (c_X7_move l G Z1 z3.1 u u1 ((xs (x4 + 1).toNatClampNeg)) ((xs (x4 + 2).toNatClampNeg)) bb hf) (cwV 2 (w_lawH hts) gL_law_X7_move rfl rfl rfl (by decide +kernel) ⟨(Nat.le_of_ble_eq_true rfl), (Nat.le_of_ble_eq_true rfl)⟩) (m_preV (C := RX7) (T := TX7) (N := 32) (ci := 10) hM hP hS rfl (by decide) z3.1.1) rfl rfl hl.1 rfl (lv_room (Nat.le_of_ble_eq_true rfl)) dL_law_450 ⟨by show k + 3 + 0 ≤ 601024; omega, by show n + 612 + 0 ≤ 7293034; omega⟩) hS ⟨Nat.le_refl _, Nat.le_refl _⟩ (fun H locs hP hS => ?_)
  refine lv_istore (lv' := [(6, .int bb), (5, .int (u1.1 31)), (0, .ref b), (1, .ref h), (2, .ref Z1.2.1), (3, .ref o), (4, .int x4)]) hx hb dL_law_453 hl (by decide) rfl (fun ls hl => ?_)
  refine lv_aload_n hx hb dL_law_455 rfl (lv_at hl 4 rfl) ?_
  refine m_calli (k := k + 3) (n := n + 612) (va_runV (As := []) (rest := []) ⟨hx, hb, hml, hown, w_lawH hts⟩ (c_X7_thrown l G Z1 z3.1 u1 u1 (u1.1 31) rfl) (cwV 0 (w_lawH hts) gL_law_X7_thrown rfl rfl rfl (by decide +kernel) ⟨(Nat.le_of_ble_eq_true rfl), (Nat.le_of_ble_eq_true rfl)⟩) (m_preV (C := RX7) (T := TX7) (N := 32) (ci := 10) hM hP hS rfl (by decide) z3.1.1) rfl rfl hl.1 rfl (lv_room (Nat.le_of_ble_eq_true rfl)) dL_law_456 ⟨by show k + 3 + 0 ≤ 601024; omega, by show n + 612 + 0 ≤ 7293034; omega⟩) hS ⟨Nat.le_refl _, Nat.le_refl _⟩ (fun H locs hP hS => ?_)
  refine lv_iload hx hb dL_law_459 (lv_at hl 1 rfl) ?_
  refine lv_icmp_eq (tgt := 466) hx hb dL_law_461 (by decide) (fun _ => ?_) (fun c9 => absurd rfl c9)
  have fin : ∀ ls : Array Slot, lv_has ls 7 [(6, .int bb), (5, .int (u1.1 31)), (0, .ref b), (1, .ref h), (2, .ref Z1.2.1), (3, .ref o), (4, .int x4)] → W p l e room_1 s m #[Value.ref b] below meth c H locs (k + 3) (n + 612) (lw_Z below #[Value.ref b] s) (F0 m 1940 ls []) := fun ls hl => K Z1 ρ1 σ1 u1 H locs ls (k + 3) (n + 612) ⟨z3, hP, hS, lv_sub hl [2, 3, 4, 5, 6] rfl, by omega, by omega⟩
  refine lv_iload hx hb dL_law_466 (lv_at hl 1 rfl) ?_
  refine lv_if_ne (tgt := 483) hx hb dL_law_468 (by decide) (fun _ => lv_goto (tgt := 1940) hx hb dL_law_483 (by decide) (fin ls hl)) (fun c8 => ?_)
  have e9 : m_la (x_ov Z1 u1) o (0 : Int32).toNatClampNeg = cvI bb := by
    rw [← hcv c8]
    show m_la (x_ov Z1 u) o _ = m_la w3 o _
    rw [z2]
    rfl
  refine lv_aload_n hx hb dL_law_471 rfl (lv_at hl 5 rfl) ?_
  refine lv_iconst (v := 0) hx hb dL_law_472 (by decide) ?_
  refine m_lald hx hb hM.1 hP (LZ_o z3 u1) dL_law_473 ?_
  rw [e9]
  refine lv_iload hx hb dL_law_474 (lv_at hl 0 rfl) ?_
  refine lv_i2l (v := cvI bb) hx hb dL_law_476 rfl ?_
  refine W.lcmp hx hb dL_law_477 ?_
  exact lv_if_eq (tgt := 483) hx hb dL_law_478 (by decide) (fun _ => lv_goto (tgt := 1940) hx hb dL_law_483 (by decide) (fin ls hl)) (fun c6 => absurd (lg_cmp_self _) c6)
set_option maxHeartbeats 4000000 in
set_option maxRecDepth 100000 in
theorem lw_c4 (C0 : lw_At p s m meth c b L xs) (E : lw_E l G s x4 j L) (K : lw_Go p l e s m below meth c b G h o x4 (j + 1) 1940) : lw_Go p l e s m below meth c b G h o x4 j 486 := by
  intro Z ρ σ u H locs ls k n J
  obtain ⟨hx, hb, hr, hml, hown, hts, hX, hbl, hlocks, hgv⟩ := id C0
  obtain ⟨hst, hM, hG1, hj, hv0, hv⟩ := E
  obtain ⟨hZ, hP, hS, hl, hk, hn⟩ := J
  have hown : s.vm.findClass RL = some m.cls := hown
  have hbA : ¬ (fun q : Nat => G.1 ≤ q) b := by rw [hG1]; exact Nat.not_le.mpr hbl
  have hq0 := LZ_q hZ
  refine lv_aload_n hx hb dL_law_486 rfl (lv_at hl 1 rfl) ?_
  obtain ⟨w3, bb, u1, he, hf, Z1, ρ1, σ1, z1, z2, z3, z4⟩ := LN_cellCount (t0 := G.2.2.2) hZ
  refine m_calli (k := k) (n := n) (va_runV (As := []) (rest := []) ⟨hx, hb, hml, hown, w_lawH hts⟩ (c_X6_cellCount l G (x_ov Z u) w3 h bb he) (cwV 0 (w_lawH hts) gL_law_X6_cellCount rfl rfl rfl (by decide +kernel) ⟨(Nat.le_of_ble_eq_true rfl), (Nat.le_of_ble_eq_true rfl)⟩) (m_preV (C := RX6) (T := TX6) (N := 8) (ci := 9) hM hP hS rfl (by decide) (LZ_kd (t0 := G.2.2.2) hZ)) rfl rfl hl.1 rfl (lv_room (Nat.le_of_ble_eq_true rfl)) dL_law_487 ⟨by show k + 0 ≤ 601024; omega, by show n + 0 ≤ 7293034; omega⟩) hS ⟨Nat.le_refl _, Nat.le_refl _⟩ (fun H locs hP hS => ?_)
  rw [← z2] at hP
  have e2 : Z1.2.1 = Z.2.1 := by rw [z1]
  rw [← e2] at hl
  refine lv_aload_n hx hb dL_law_490 rfl (lv_at hl 2 rfl) ?_
  refine m_calli (k := k) (n := n) (va_runV (As := []) (rest := [.int bb]) ⟨hx, hb, hml, hown, w_lawH hts⟩ (c_X7_cellCount l G Z1 z3.1 u u1  bb hf) (cwV 0 (w_lawH hts) gL_law_X7_cellCount rfl rfl rfl (by decide +kernel) ⟨(Nat.le_of_ble_eq_true rfl), (Nat.le_of_ble_eq_true rfl)⟩) (m_preV (C := RX7) (T := TX7) (N := 32) (ci := 10) hM hP hS rfl (by decide) z3.1.1) rfl rfl hl.1 rfl (lv_room (Nat.le_of_ble_eq_true rfl)) dL_law_491 ⟨by show k + 0 ≤ 601024; omega, by show n + 0 ≤ 7293034; omega⟩) hS ⟨Nat.le_refl _, Nat.le_refl _⟩ (fun H locs hP hS => ?_)
  exact lv_icmp_eq (tgt := 1940) hx hb dL_law_494 (by decide) (fun _ => K Z1 ρ1 σ1 u1 H locs ls k n ⟨z3, hP, hS, hl, by omega, by omega⟩) (fun c9 => absurd rfl c9)
set_option maxHeartbeats 4000000 in
set_option maxRecDepth 100000 in
theorem lw_c5 (C0 : lw_At p s m meth c b L xs) (E : lw_E l G s x4 j L) (K : lw_Go p l e s m below meth c b G h o x4 (j + 1) 1940) : lw_Go p l e s m below meth c b G h o x4 j 499 := by
  intro Z ρ σ u H locs ls k n J
  obtain ⟨hx, hb, hr, hml, hown, hts, hX, hbl, hlocks, hgv⟩ := id C0
  obtain ⟨hst, hM, hG1, hj, hv0, hv⟩ := E
  obtain ⟨hZ, hP, hS, hl, hk, hn⟩ := J
  have hown : s.vm.findClass RL = some m.cls := hown
  have hbA : ¬ (fun q : Nat => G.1 ≤ q) b := by rw [hG1]; exact Nat.not_le.mpr hbl
  have hq0 := LZ_q hZ
  refine lv_aload_n hx hb dL_law_499 rfl (lv_at hl 1 rfl) ?_
  refine lv_aload_n hx hb dL_law_500 rfl (lv_at hl 0 rfl) ?_
  refine lv_iload hx hb dL_law_501 (lv_at hl 4 rfl) ?_
  refine lv_iconst (v := 1) hx hb dL_law_503 (by decide) ?_
  refine lv_iadd hx hb dL_law_504 ?_
  refine va_sld (i := x4 + 1) hx hb hX hbl hbA hS (hv 1 (by decide)) dL_law_505 ?_
  refine lv_aload_n hx hb dL_law_506 rfl (lv_at hl 3 rfl) ?_
  obtain ⟨w3, bb, u1, he, hf, hcv, hall⟩ := LG_cellAt (t0 := G.2.2.2) hZ ((xs (x4 + 1).toNatClampNeg))
  have hq1 : q_n σ ≤ 400 := by
    obtain ⟨Z9, ρ9, σ9, y1, y2, y3, y4⟩ := hall (m_nx w3) (Nat.le_refl _)
    exact Nat.le_trans y4 (LZ_q y3)
  refine m_calln (k := k + 1) (n := n + 6) (vx_runSW (As := [.ref h, .int (xs (x4 + 1).toNatClampNeg), .ref o]) (rest := []) ⟨hx, hb, hml, hown, w_lawH hts⟩ (c_L_cellAt l hst G (x_ov Z u) w3 h ((xs (x4 + 1).toNatClampNeg)) o (u1.1 31) he) (vx_cwSW 3 (w_lawH hts) gL_law_L_cellAt rfl rfl rfl (by decide +kernel) ⟨(Nat.le_of_ble_eq_true rfl), (Nat.le_of_ble_eq_true rfl)⟩) (m_preS hM hP hS) rfl rfl hl.1 rfl (lv_room (Nat.le_of_ble_eq_true rfl)) dL_law_507 ⟨by show k + 1 ≤ 601024; omega, by show n + 6 ≤ 7293034; omega⟩) hS ⟨Nat.le_refl _, Nat.le_refl _⟩ (fun nn H locs hnn hP hS => ?_)
  obtain ⟨Z1, ρ1, σ1, z1, z2, z3, z4⟩ := hall nn hnn
  rw [← z2] at hP
  have e2 : Z1.2.1 = Z.2.1 := by rw [z1]
  rw [← e2] at hl
  refine lv_istore (lv' := [(5, .int (u1.1 31)), (0, .ref b), (1, .ref h), (2, .ref Z1.2.1), (3, .ref o), (4, .int x4)]) hx hb dL_law_510 hl (by decide) rfl (fun ls hl => ?_)
  refine lv_aload_n hx hb dL_law_512 rfl (lv_at hl 3 rfl) ?_
  refine lv_aload_n hx hb dL_law_513 rfl (lv_at hl 1 rfl) ?_
  refine lv_iload hx hb dL_law_514 (lv_at hl 5 rfl) ?_
  refine lv_iconst (v := 1) hx hb dL_law_516 (by decide) ?_
  refine lv_iadd hx hb dL_law_517 ?_
  refine va_sld (i := x4 + 1) hx hb hX hbl hbA hS (hv 1 (by decide)) dL_law_518 ?_
  refine m_calli (k := k + 1) (n := n + 6) (va_runV (As := [.int (xs (x4 + 1).toNatClampNeg)]) (rest := []) ⟨hx, hb, hml, hown, w_lawH hts⟩ (c_X7_cellAt l G Z1 z3.1 u u1 ((xs (x4 + 1).toNatClampNeg)) bb hf) (cwV 1 (w_lawH hts) gL_law_X7_cellAt rfl rfl rfl (by decide +kernel) ⟨(Nat.le_of_ble_eq_true rfl), (Nat.le_of_ble_eq_true rfl)⟩) (m_preV (C := RX7) (T := TX7) (N := 32) (ci := 10) hM hP hS rfl (by decide) z3.1.1) rfl rfl hl.1 rfl (lv_room (Nat.le_of_ble_eq_true rfl)) dL_law_519 ⟨by show k + 1 + 0 ≤ 601024; omega, by show n + 6 + 0 ≤ 7293034; omega⟩) hS ⟨Nat.le_refl _, Nat.le_refl _⟩ (fun H locs hP hS => ?_)
  refine lv_istore (lv' := [(6, .int bb), (5, .int (u1.1 31)), (0, .ref b), (1, .ref h), (2, .ref Z1.2.1), (3, .ref o), (4, .int x4)]) hx hb dL_law_522 hl (by decide) rfl (fun ls hl => ?_)
  refine lv_aload_n hx hb dL_law_524 rfl (lv_at hl 4 rfl) ?_
  refine m_calli (k := k + 1) (n := n + 6) (va_runV (As := []) (rest := []) ⟨hx, hb, hml, hown, w_lawH hts⟩ (c_X7_thrown l G Z1 z3.1 u1 u1 (u1.1 31) rfl) (cwV 0 (w_lawH hts) gL_law_X7_thrown rfl rfl rfl (by decide +kernel) ⟨(Nat.le_of_ble_eq_true rfl), (Nat.le_of_ble_eq_true rfl)⟩) (m_preV (C := RX7) (T := TX7) (N := 32) (ci := 10) hM hP hS rfl (by decide) z3.1.1) rfl rfl hl.1 rfl (lv_room (Nat.le_of_ble_eq_true rfl)) dL_law_525 ⟨by show k + 1 + 0 ≤ 601024; omega, by show n + 6 + 0 ≤ 7293034; omega⟩) hS ⟨Nat.le_refl _, Nat.le_refl _⟩ (fun H locs hP hS => ?_)
  refine lv_iload hx hb dL_law_528 (lv_at hl 1 rfl) ?_
  refine lv_icmp_eq (tgt := 535) hx hb dL_law_530 (by decide) (fun _ => ?_) (fun c9 => absurd rfl c9)
  have fin : ∀ ls : Array Slot, lv_has ls 7 [(6, .int bb), (5, .int (u1.1 31)), (0, .ref b), (1, .ref h), (2, .ref Z1.2.1), (3, .ref o), (4, .int x4)] → W p l e room_1 s m #[Value.ref b] below meth c H locs (k + 1) (n + 6) (lw_Z below #[Value.ref b] s) (F0 m 1940 ls []) := fun ls hl => K Z1 ρ1 σ1 u1 H locs ls (k + 1) (n + 6) ⟨z3, hP, hS, lv_sub hl [2, 3, 4, 5, 6] rfl, by omega, by omega⟩
  refine lv_iload hx hb dL_law_535 (lv_at hl 1 rfl) ?_
  refine lv_if_ne (tgt := 552) hx hb dL_law_537 (by decide) (fun _ => lv_goto (tgt := 1940) hx hb dL_law_552 (by decide) (fin ls hl)) (fun c8 => ?_)
  have e9 : m_la (x_ov Z1 u1) o (0 : Int32).toNatClampNeg = cvI bb := by
    rw [← hcv c8]
    show m_la (x_ov Z1 u) o _ = m_la w3 o _
    rw [z2]
    rfl
  refine lv_aload_n hx hb dL_law_540 rfl (lv_at hl 5 rfl) ?_
  refine lv_iconst (v := 0) hx hb dL_law_541 (by decide) ?_
  refine m_lald hx hb hM.1 hP (LZ_o z3 u1) dL_law_542 ?_
  rw [e9]
  refine lv_iload hx hb dL_law_543 (lv_at hl 0 rfl) ?_
  refine lv_i2l (v := cvI bb) hx hb dL_law_545 rfl ?_
  refine W.lcmp hx hb dL_law_546 ?_
  exact lv_if_eq (tgt := 552) hx hb dL_law_547 (by decide) (fun _ => lv_goto (tgt := 1940) hx hb dL_law_552 (by decide) (fin ls hl)) (fun c6 => absurd (lg_cmp_self _) c6)
set_option maxHeartbeats 4000000 in
set_option maxRecDepth 100000 in
theorem lw_c6 (C0 : lw_At p s m meth c b L xs) (E : lw_E l G s x4 j L) (K : lw_Go p l e s m below meth c b G h o x4 (j + 1) 1940) : lw_Go p l e s m below meth c b G h o x4 j 555 := by
  intro Z ρ σ u H locs ls k n J
  obtain ⟨hx, hb, hr, hml, hown, hts, hX, hbl, hlocks, hgv⟩ := id C0
  obtain ⟨hst, hM, hG1, hj, hv0, hv⟩ := E
  obtain ⟨hZ, hP, hS, hl, hk, hn⟩ := J
  have hown : s.vm.findClass RL = some m.cls := hown
  have hbA : ¬ (fun q : Nat => G.1 ≤ q) b := by rw [hG1]; exact Nat.not_le.mpr hbl
  have hq0 := LZ_q hZ
  refine lv_aload_n hx hb dL_law_555 rfl (lv_at hl 1 rfl) ?_
  refine lv_aload_n hx hb dL_law_556 rfl (lv_at hl 0 rfl) ?_
  refine lv_iload hx hb dL_law_557 (lv_at hl 4 rfl) ?_
  refine lv_iconst (v := 1) hx hb dL_law_559 (by decide) ?_
  refine lv_iadd hx hb dL_law_560 ?_
  refine va_sld (i := x4 + 1) hx hb hX hbl hbA hS (hv 1 (by decide)) dL_law_561 ?_
  refine lv_aload_n hx hb dL_law_562 rfl (lv_at hl 3 rfl) ?_
  obtain ⟨w3, bb, u1, he, hf, hcv, hall⟩ := LG_source (t0 := G.2.2.2) hZ ((xs (x4 + 1).toNatClampNeg))
  have hq1 : q_n σ ≤ 400 := by
    obtain ⟨Z9, ρ9, σ9, y1, y2, y3, y4⟩ := hall (m_nx w3) (Nat.le_refl _)
    exact Nat.le_trans y4 (LZ_q y3)
  refine m_calln (k := k + 45) (n := n + 6326) (vx_runSW (As := [.ref h, .int (xs (x4 + 1).toNatClampNeg), .ref o]) (rest := []) ⟨hx, hb, hml, hown, w_lawH hts⟩ (c_L_source l hst G (x_ov Z u) w3 h ((xs (x4 + 1).toNatClampNeg)) o (u1.1 31) he) (vx_cwSW 3 (w_lawH hts) gL_law_L_source rfl rfl rfl (by decide +kernel) ⟨(Nat.le_of_ble_eq_true rfl), (Nat.le_of_ble_eq_true rfl)⟩) (m_preS hM hP hS) rfl rfl hl.1 rfl (lv_room (Nat.le_of_ble_eq_true rfl)) dL_law_563 ⟨by show k + 45 ≤ 601024; omega, by show n + 6326 ≤ 7293034; omega⟩) hS ⟨Nat.le_refl _, Nat.le_refl _⟩ (fun nn H locs hnn hP hS => ?_)
  obtain ⟨Z1, ρ1, σ1, z1, z2, z3, z4⟩ := hall nn hnn
  rw [← z2] at hP
  have e2 : Z1.2.1 = Z.2.1 := by rw [z1]
  rw [← e2] at hl
  refine lv_istore (lv' := [(5, .int (u1.1 31)), (0, .ref b), (1, .ref h), (2, .ref Z1.2.1), (3, .ref o), (4, .int x4)]) hx hb dL_law_566 hl (by decide) rfl (fun ls hl => ?_)
  refine lv_aload_n hx hb dL_law_568 rfl (lv_at hl 3 rfl) ?_
  refine lv_aload_n hx hb dL_law_569 rfl (lv_at hl 1 rfl) ?_
  refine lv_iload hx hb dL_law_570 (lv_at hl 5 rfl) ?_
  refine lv_iconst (v := 1) hx hb dL_law_572 (by decide) ?_
  refine lv_iadd hx hb dL_law_573 ?_
  refine va_sld (i := x4 + 1) hx hb hX hbl hbA hS (hv 1 (by decide)) dL_law_574 ?_
  refine m_calli (k := k + 45) (n := n + 6326) (va_runV (As := [.int (xs (x4 + 1).toNatClampNeg)]) (rest := []) ⟨hx, hb, hml, hown, w_lawH hts⟩ (c_X7_source l G Z1 z3.1 u u1 ((xs (x4 + 1).toNatClampNeg)) bb hf) (cwV 1 (w_lawH hts) gL_law_X7_source rfl rfl rfl (by decide +kernel) ⟨(Nat.le_of_ble_eq_true rfl), (Nat.le_of_ble_eq_true rfl)⟩) (m_preV (C := RX7) (T := TX7) (N := 32) (ci := 10) hM hP hS rfl (by decide) z3.1.1) rfl rfl hl.1 rfl (lv_room (Nat.le_of_ble_eq_true rfl)) dL_law_575 ⟨by show k + 45 + 0 ≤ 601024; omega, by show n + 6326 + 0 ≤ 7293034; omega⟩) hS ⟨Nat.le_refl _, Nat.le_refl _⟩ (fun H locs hP hS => ?_)
  refine lv_istore (lv' := [(6, .int bb), (5, .int (u1.1 31)), (0, .ref b), (1, .ref h), (2, .ref Z1.2.1), (3, .ref o), (4, .int x4)]) hx hb dL_law_578 hl (by decide) rfl (fun ls hl => ?_)
  refine lv_aload_n hx hb dL_law_580 rfl (lv_at hl 4 rfl) ?_
  refine m_calli (k := k + 45) (n := n + 6326) (va_runV (As := []) (rest := []) ⟨hx, hb, hml, hown, w_lawH hts⟩ (c_X7_thrown l G Z1 z3.1 u1 u1 (u1.1 31) rfl) (cwV 0 (w_lawH hts) gL_law_X7_thrown rfl rfl rfl (by decide +kernel) ⟨(Nat.le_of_ble_eq_true rfl), (Nat.le_of_ble_eq_true rfl)⟩) (m_preV (C := RX7) (T := TX7) (N := 32) (ci := 10) hM hP hS rfl (by decide) z3.1.1) rfl rfl hl.1 rfl (lv_room (Nat.le_of_ble_eq_true rfl)) dL_law_581 ⟨by show k + 45 + 0 ≤ 601024; omega, by show n + 6326 + 0 ≤ 7293034; omega⟩) hS ⟨Nat.le_refl _, Nat.le_refl _⟩ (fun H locs hP hS => ?_)
  refine lv_iload hx hb dL_law_584 (lv_at hl 1 rfl) ?_
  refine lv_icmp_eq (tgt := 591) hx hb dL_law_586 (by decide) (fun _ => ?_) (fun c9 => absurd rfl c9)
  have fin : ∀ ls : Array Slot, lv_has ls 7 [(6, .int bb), (5, .int (u1.1 31)), (0, .ref b), (1, .ref h), (2, .ref Z1.2.1), (3, .ref o), (4, .int x4)] → W p l e room_1 s m #[Value.ref b] below meth c H locs (k + 45) (n + 6326) (lw_Z below #[Value.ref b] s) (F0 m 1940 ls []) := fun ls hl => K Z1 ρ1 σ1 u1 H locs ls (k + 45) (n + 6326) ⟨z3, hP, hS, lv_sub hl [2, 3, 4, 5, 6] rfl, by omega, by omega⟩
  refine lv_iload hx hb dL_law_591 (lv_at hl 1 rfl) ?_
  refine lv_if_ne (tgt := 608) hx hb dL_law_593 (by decide) (fun _ => lv_goto (tgt := 1940) hx hb dL_law_608 (by decide) (fin ls hl)) (fun c8 => ?_)
  have e9 : m_la (x_ov Z1 u1) o (0 : Int32).toNatClampNeg = cvI bb := by
    rw [← hcv c8]
    show m_la (x_ov Z1 u) o _ = m_la w3 o _
    rw [z2]
    rfl
  refine lv_aload_n hx hb dL_law_596 rfl (lv_at hl 5 rfl) ?_
  refine lv_iconst (v := 0) hx hb dL_law_597 (by decide) ?_
  refine m_lald hx hb hM.1 hP (LZ_o z3 u1) dL_law_598 ?_
  rw [e9]
  refine lv_iload hx hb dL_law_599 (lv_at hl 0 rfl) ?_
  refine lv_i2l (v := cvI bb) hx hb dL_law_601 rfl ?_
  refine W.lcmp hx hb dL_law_602 ?_
  exact lv_if_eq (tgt := 608) hx hb dL_law_603 (by decide) (fun _ => lv_goto (tgt := 1940) hx hb dL_law_608 (by decide) (fin ls hl)) (fun c6 => absurd (lg_cmp_self _) c6)
end LAWCASES
