/-! the law's words: all follow from the tables' words -/
theorem w_sel {C : String} {y y0 : MethodName} {s : State} {args : Array Value} {n : Nat} (hy : y.cls ≠ "java/lang/invoke/MethodHandle" ∧ y.cls ≠ "java/lang/invoke/VarHandle") (h0 : y0.cls = y.cls)
    (hins : (Cond.instantiable C n).before args s = true) (hs0 : (Cond.selects C y0 y0).before args s = true) (hinst0 : (Cond.instanceMethod y0).before args s = true) (hpriv : (Cond.privateMethod y).before args s = true) (hinst : (Cond.instanceMethod y).before args s = true) : (Cond.selects C y y).before args s = true := by
  obtain ⟨c, k, hc, hk, -, hniab, -, -⟩ := Cond.instantiable_spec hins
  have hni : k.isInterface = false := (Bool.or_eq_false_iff.mp hniab).1
  obtain ⟨mk, methM, hnamed, hmethM, -, -⟩ := Cond.instanceMethod_spec hinst
  obtain ⟨mk0, methM0, hnamed0, hmethM0, -, -⟩ := Cond.instanceMethod_spec hinst0
  have hfound : s.methodFound? y.cls y.name y.desc = some mk := State.methodFound?_of_named hnamed hy
  have hfound0 : s.methodFound? y0.cls y0.name y0.desc = some mk0 := State.methodFound?_of_named hnamed0 (by rw [h0]; exact hy)
  have hcls : mk0.cls = mk.cls := Option.some.inj ((findClass_of_methodNamed hnamed0).symm.trans (by rw [h0]; exact findClass_of_methodNamed hnamed))
  have hsel : selectMethod {} s.vm c mk = .method mk := selectMethod_private hmethM (Cond.privateMethod_at hpriv mk methM hnamed hmethM)
  simp only [Cond.before, Cond.holds, Cond.value, hc, hfound0, hnamed0, hk, hcls] at hs0
  simp only [Cond.before, Cond.holds, Cond.value, hc, hfound, hnamed, hsel, hk]
  simp at hs0 ⊢
  cases hq : selectMethod {} s.vm c mk0 with
  | method m' =>
    rw [hq] at hs0
    simp only [Bool.and_eq_true] at hs0
    exact hs0.2
  | _ => (rw [hq] at hs0; exact absurd hs0 Bool.false_ne_true)
def w_big : List Cond := Cond.selects RJ4 yJ5_ensureCapacityInternal_d00df yJ5_ensureCapacityInternal_d00df :: Cond.selects RJ4 yJ5_newCapacity_0f7a4 yJ5_newCapacity_0f7a4 :: Cond.selects RJ4 yJ5_inflate_da8c8 yJ5_inflate_da8c8 :: lw_tbl
theorem w_hts {args : Array Value} {s : State} (h : ∀ w ∈ lw_tbl, w.before args s = true) : ∀ w ∈ w_big, w.before args s = true := by
  have key : ∀ y : MethodName, y.cls = RJ5 → Cond.privateMethod y ∈ lw_tbl → Cond.instanceMethod y ∈ lw_tbl → (Cond.selects RJ4 y y).before args s = true := fun y h1 h2 h3 =>
    w_sel (n := 4) (y0 := yJ5_isLatin1_aae02) (by rw [h1]; decide +kernel) (by rw [h1]; rfl) (h _ (by decide +kernel)) (h _ (by decide +kernel)) (h _ (by decide +kernel)) (h _ h2) (h _ h3)
  intro w hw
  rcases List.mem_cons.mp hw with rfl | hw
  · exact key _ rfl (by decide +kernel) (by decide +kernel)
  rcases List.mem_cons.mp hw with rfl | hw
  · exact key _ rfl (by decide +kernel) (by decide +kernel)
  rcases List.mem_cons.mp hw with rfl | hw
  · exact key _ rfl (by decide +kernel) (by decide +kernel)
  exact h w hw
theorem w_in1 {ws : List Cond} (ps : List Nat) (hp : ws.filter k2_isCode = ps.filterMap (fun i => w_big[i]?)) (h : (ws.filter (fun w => !k2_isCode w)).all (fun w => decide (w ∈ w_big) && goodWord w) = true) : ∀ w ∈ ws, w ∈ w_big := fun w hw => (goodIn_p ws ps hp h w hw).1
theorem w_r1 : ∀ w ∈ wsL_law0_r1, w ∈ w_big := w_in1 [83, 86] (by decide +kernel) (by decide +kernel)
theorem w_r2 : ∀ w ∈ wsL_law0_r2, w ∈ w_big := w_in1 [91, 94, 97] (by decide +kernel) (by decide +kernel)
theorem w_r3 : ∀ w ∈ wsL_law0_r3, w ∈ w_big := w_in1 [117, 123, 147, 1183] (by decide +kernel) (by decide +kernel)
theorem w_r4 : ∀ w ∈ wsL_law0_r4, w ∈ w_big := w_in1 [] (by decide +kernel) (by decide +kernel)
theorem w_r5 : ∀ w ∈ wsL_law0_r5, w ∈ w_big := w_in1 [357, 209, 429] (by decide +kernel) (by decide +kernel)
theorem w_r6 : ∀ w ∈ wsL_law0_r6, w ∈ w_big := w_in1 [452, 456, 460, 464] (by decide +kernel) (by decide +kernel)
theorem w_r7 : ∀ w ∈ wsL_law0_r7, w ∈ w_big := w_in1 [470, 467, 474, 477, 498] (by decide +kernel) (by decide +kernel)
theorem w_r8 : ∀ w ∈ wsL_law0_r8, w ∈ w_big := w_in1 [504, 1290, 1294, 1286] (by decide +kernel) (by decide +kernel)
theorem w_r9 : ∀ w ∈ wsL_law0_r9, w ∈ w_big := w_in1 [518, 521, 541] (by decide +kernel) (by decide +kernel)
theorem w_r10 : ∀ w ∈ wsL_law0_r10, w ∈ w_big := w_in1 [221, 224, 227, 231, 545, 251] (by decide +kernel) (by decide +kernel)
theorem w_r11 : ∀ w ∈ wsL_law0_r11, w ∈ w_big := w_in1 [566, 570, 574, 578, 585, 1298] (by decide +kernel) (by decide +kernel)
theorem w_r12 : ∀ w ∈ wsL_law0_r12, w ∈ w_big := w_in1 [1301, 1304, 1308, 1311, 1314, 1318] (by decide +kernel) (by decide +kernel)
theorem w_r13 : ∀ w ∈ wsL_law0_r13, w ∈ w_big := w_in1 [609, 613, 1322, 620, 624] (by decide +kernel) (by decide +kernel)
theorem w_r14 : ∀ w ∈ wsL_law0_r14, w ∈ w_big := w_in1 [629, 633, 637, 642, 646, 1326] (by decide +kernel) (by decide +kernel)
theorem w_r15 : ∀ w ∈ wsL_law0_r15, w ∈ w_big := w_in1 [205, 1330, 1334, 890, 1338] (by decide +kernel) (by decide +kernel)
theorem w_r16 : ∀ w ∈ wsL_law0_r16, w ∈ w_big := w_in1 [897, 901, 656, 659] (by decide +kernel) (by decide +kernel)
theorem w_r17 : ∀ w ∈ wsL_law0_r17, w ∈ w_big := w_in1 [665, 668, 910, 913, 917] (by decide +kernel) (by decide +kernel)
theorem w_r18 : ∀ w ∈ wsL_law0_r18, w ∈ w_big := w_in1 [920, 698, 702, 707] (by decide +kernel) (by decide +kernel)
theorem w_r19 : ∀ w ∈ wsL_law0_r19, w ∈ w_big := w_in1 [719, 923, 767, 770, 773] (by decide +kernel) (by decide +kernel)
theorem w_r20 : ∀ w ∈ wsL_law0_r20, w ∈ w_big := w_in1 [776, 728, 779, 782, 739, 926] (by decide +kernel) (by decide +kernel)
theorem w_r21 : ∀ w ∈ wsL_law0_r21, w ∈ w_big := w_in1 [929, 932, 936, 792, 795, 798, 801] (by decide +kernel) (by decide +kernel)
theorem w_r22 : ∀ w ∈ wsL_law0_r22, w ∈ w_big := w_in1 [808, 725, 731, 736, 811, 942] (by decide +kernel) (by decide +kernel)
theorem w_r23 : ∀ w ∈ wsL_law0_r23, w ∈ w_big := w_in1 [838, 840, 1342, 1346, 1350, 1353] (by decide +kernel) (by decide +kernel)
theorem w_r24 : ∀ w ∈ wsL_law0_r24, w ∈ w_big := w_in1 [950, 955, 958, 867, 1357] (by decide +kernel) (by decide +kernel)
theorem w_r25 : ∀ w ∈ wsL_law0_r25, w ∈ w_big := w_in1 [1361, 1364, 1367, 968, 975, 1371] (by decide +kernel) (by decide +kernel)
theorem w_r26 : ∀ w ∈ wsL_law0_r26, w ∈ w_big := w_in1 [982, 1375, 989, 994] (by decide +kernel) (by decide +kernel)
theorem w_r27 : ∀ w ∈ wsL_law0_r27, w ∈ w_big := w_in1 [301, 305, 309, 313] (by decide +kernel) (by decide +kernel)
theorem w_r28 : ∀ w ∈ wsL_law0_r28, w ∈ w_big := w_in1 [255, 288, 321, 325] (by decide +kernel) (by decide +kernel)
theorem w_r29 : ∀ w ∈ wsL_law0_r29, w ∈ w_big := w_in1 [280, 332, 337, 998] (by decide +kernel) (by decide +kernel)
theorem w_r30 : ∀ w ∈ wsL_law0_r30, w ∈ w_big := w_in1 [1003, 1035, 1379, 1383] (by decide +kernel) (by decide +kernel)
theorem w_r31 : ∀ w ∈ wsL_law0_r31, w ∈ w_big := w_in1 [1387, 1391, 1395, 1399, 1402, 1406] (by decide +kernel) (by decide +kernel)
theorem w_r32 : ∀ w ∈ wsL_law0_r32, w ∈ w_big := w_in1 [1042, 1047, 240, 217] (by decide +kernel) (by decide +kernel)
theorem w_r33 : ∀ w ∈ wsL_law0_r33, w ∈ w_big := w_in1 [236, 244, 248, 260, 264, 268] (by decide +kernel) (by decide +kernel)
theorem w_r34 : ∀ w ∈ wsL_law0_r34, w ∈ w_big := w_in1 [1412, 1416, 1420, 1424, 1054] (by decide +kernel) (by decide +kernel)
theorem w_r35 : ∀ w ∈ wsL_law0_r35, w ∈ w_big := w_in1 [1428, 1061, 1064, 1432] (by decide +kernel) (by decide +kernel)
theorem w_r36 : ∀ w ∈ wsL_law0_r36, w ∈ w_big := w_in1 [1072, 1436, 1079, 1440, 1086] (by decide +kernel) (by decide +kernel)
theorem w_r37 : ∀ w ∈ wsL_law0_r37, w ∈ w_big := w_in1 [1090, 1444, 1097, 1448] (by decide +kernel) (by decide +kernel)
theorem w_r38 : ∀ w ∈ wsL_law0_r38, w ∈ w_big := w_in1 [1105, 1452, 1112, 1456] (by decide +kernel) (by decide +kernel)
theorem w_r39 : ∀ w ∈ wsL_law0_r39, w ∈ w_big := w_in1 [1119, 1460, 213, 1464, 1468] (by decide +kernel) (by decide +kernel)
theorem w_r40 : ∀ w ∈ wsL_law0_r40, w ∈ w_big := w_in1 [1126, 1472, 1133, 1138, 1476] (by decide +kernel) (by decide +kernel)
theorem w_r41 : ∀ w ∈ wsL_law0_r41, w ∈ w_big := w_in1 [1148, 276, 1480, 1484] (by decide +kernel) (by decide +kernel)
theorem w_r42 : ∀ w ∈ wsL_law0_r42, w ∈ w_big := w_in1 [272, 284, 1488, 1156, 296, 1492] (by decide +kernel) (by decide +kernel)
theorem w_r43 : ∀ w ∈ wsL_law0_r43, w ∈ w_big := w_in1 [1496, 1500, 1163, 1504, 292] (by decide +kernel) (by decide +kernel)
theorem w_r44 : ∀ w ∈ wsL_law0_r44, w ∈ w_big := w_in1 [1508, 345, 1512, 349, 1516, 1520] (by decide +kernel) (by decide +kernel)
theorem w_r45 : ∀ w ∈ wsL_law0_r45, w ∈ w_big := w_in1 [1170, 1524, 1178, 1528] (by decide +kernel) (by decide +kernel)
theorem w_uX6 : ∀ w ∈ wsX60, w ∈ w_big := w_in1 [] (by decide +kernel) (by decide +kernel)
theorem w_uX7 : ∀ w ∈ wsX70, w ∈ w_big := w_in1 [] (by decide +kernel) (by decide +kernel)
theorem w_uJx4a65c : ∀ w ∈ wsJx4a65c0, w ∈ w_big := w_in1 [] (by decide +kernel) (by decide +kernel)
theorem w_uX4 : ∀ w ∈ wsX40, w ∈ w_big := w_in1 [] (by decide +kernel) (by decide +kernel)
theorem w_uX2 : ∀ w ∈ wsX20, w ∈ w_big := w_in1 [] (by decide +kernel) (by decide +kernel)
theorem w_uX0 : ∀ w ∈ wsX00, w ∈ w_big := w_in1 [] (by decide +kernel) (by decide +kernel)
theorem w_uX1 : ∀ w ∈ wsX10, w ∈ w_big := w_in1 [] (by decide +kernel) (by decide +kernel)
theorem w_uX5 : ∀ w ∈ wsX50, w ∈ w_big := w_in1 [] (by decide +kernel) (by decide +kernel)
theorem w_uJ4 : ∀ w ∈ wsJ40, w ∈ w_big := w_in1 [] (by decide +kernel) (by decide +kernel)
theorem w_uX3 : ∀ w ∈ wsX30, w ∈ w_big := w_in1 [] (by decide +kernel) (by decide +kernel)
theorem w_x0 : ∀ w ∈ (vx_atS RX6 57 "java/lang/IllegalStateException" ["java/lang/RuntimeException", "java/lang/Exception"]).filter goodWord, w ∈ w_big := by decide +kernel
theorem w_x1 : ∀ w ∈ (vx_atS RX6 83 "java/lang/IllegalArgumentException" ["java/lang/RuntimeException", "java/lang/Exception"]).filter goodWord, w ∈ w_big := by decide +kernel
theorem w_x2 : ∀ w ∈ (vx_atS RX6 144 "java/lang/IndexOutOfBoundsException" ["java/lang/RuntimeException", "java/lang/Exception"]).filter goodWord, w ∈ w_big := by decide +kernel
theorem w_app {a b : List Cond} (h : ∀ w ∈ a, w ∈ w_big) (g : ∀ w ∈ b, w ∈ w_big) : ∀ w ∈ a ++ b, w ∈ w_big := fun w q => (List.mem_append.mp q).elim (h w) (g w)
theorem w_law0 : ∀ w ∈ wsL_law0, w ∈ w_big := (w_app (w_app (w_app (w_app (w_app (w_app (w_app (w_app (w_app (w_app (w_app (w_app w_r1 (w_app w_r2 (w_app w_r3 (w_app w_r4 (w_app w_r5 (w_app w_r6 (w_app w_r7 (w_app w_r8 (w_app w_r9 (w_app w_r10 (w_app w_r11 (w_app w_r12 (w_app w_r13 (w_app w_r14 (w_app w_r15 (w_app w_r16 (w_app w_r17 (w_app w_r18 (w_app w_r19 (w_app w_r20 (w_app w_r21 (w_app w_r22 (w_app w_r23 (w_app w_r24 (w_app w_r25 (w_app w_r26 (w_app w_r27 (w_app w_r28 (w_app w_r29 (w_app w_r30 (w_app w_r31 (w_app w_r32 (w_app w_r33 (w_app w_r34 (w_app w_r35 (w_app w_r36 (w_app w_r37 (w_app w_r38 (w_app w_r39 (w_app w_r40 (w_app w_r41 (w_app w_r42 (w_app w_r43 (w_app w_r44 w_r45)))))))))))))))))))))))))))))))))))))))))))) w_uX6) w_uX7) w_uJx4a65c) w_uX4) w_uX2) w_uX0) w_uX1) w_uX5) w_uJ4) w_uX3) (fun _ q => nomatch q))
theorem w_law : ∀ w ∈ wsL_law, w ∈ w_big := w_app (w_app (w_app w_law0 w_x0) w_x1) w_x2
theorem w_lawH {args : Array Value} {s : State} (h : ∀ w ∈ lw_tbl, w.before args s = true) : ∀ w ∈ wsL_law, w.before args s = true := fun w q => w_hts h w (w_law w q)
