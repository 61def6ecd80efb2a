/-! cast of the class -/
section
variable {σ σ' : mb_S} {S S' : pz_S} {ad ad' : rz_A} {Fo : Nat → Prop}
theorem pz_sm_zero2 {f : Int → Int} : ∀ (n : Nat) (a : Int), (∀ j, a ≤ j → j < a + n → f j = 0) → pz_sm f a n = 0 := by
  intro n
  induction n with
  | zero => intro a h; rfl
  | succ n ih =>
    intro a h
    show f a + pz_sm f (a + 1) n = 0
    rw [h a (by omega) (by omega), ih (a + 1) (fun j hj h2 => h j (by omega) (by omega)), Int.zero_add]
theorem pz_sm_one {f f' : Int → Int} {k : Int} : ∀ (n : Nat) (a : Int), a ≤ k → k < a + n → (∀ j, j ≠ k → f' j = f j) → f' k = f k + 1 → pz_sm f' a n = pz_sm f a n + 1 := by
  intro n
  induction n with
  | zero => intro a h1 h2; omega
  | succ n ih =>
    intro a h1 h2 h3 h4
    show f' a + pz_sm f' (a + 1) n = f a + pz_sm f (a + 1) n + 1
    by_cases e : a = k
    · rw [e, h4, pz_sm_congr (f := f') (g := f) n (k + 1) (fun j j1 j2 => h3 j (by omega))]; omega
    · rw [h3 a e, ih (a + 1) (by omega) (by omega) h3 h4]; omega
set_option maxRecDepth 20000 in
set_option maxHeartbeats 4000000 in
theorem wc_setC1 {p pf pc c : Nat} {a v f g N M : Int} {q : Nat → Option Nat} {x1 x2 x3 : Value} (h0 : σ.1 p = some (.inr (6, [.ref pf, .ref pc, .int (iI N), .int (iI M)]))) (h1 : σ.1 pc = some (.inl (11, 8, .inr (.inr (.inr (.inr q)))))) (h2 : q (iI a).toNatClampNeg = some c) (h3 : σ.1 c = some (.inr (1, [x1, x2, x3]))) (a0 : 0 ≤ a) (a1 : a < 8) (d : Nat) (Q : mb_O → mb_S → Prop) : mb_Ex d 36 [.ref p, .int (iI a), .int (iI v), .int (iI f), .int (iI g)] σ Q = Q (.inl none) (mb_up σ c (.inr (1, [.int (iI v), .int (iI f), .int (iI g)]))) := by
  have hq : va_rf (q (iI a).toNatClampNeg) = .ref c := by rw [h2]; rfl
  show mb_Rn d 36 0 [some (.ref p), some (.int (iI a)), some (.int (iI v)), some (.int (iI f)), some (.int (iI g)), none] [] σ Q = _
  repeat' (first | (simp (config := {maxSteps := 1000000}) (disch := first | assumption | omega | exact Nat.le_of_ble_eq_true rfl | (intro _; first | rfl | simp (disch := decide) only [pz_su_t])) only [sX6_setCasting_0, sX6_setCasting_4, sX6_setCasting_5, sX6_setCasting_10, sX6_setCasting_11, sX6_setCasting_11n, sX6_setCasting_12, sX6_setCasting_15, sX6_setCasting_16, sX6_setCasting_17, sX6_setCasting_17n, sX6_setCasting_19, sX6_setCasting_19n, sX6_setCasting_21, sX6_setCasting_21n, sX6_setCasting_24, sX6_setCasting_27, sX6_setCasting_27i, sX6_setCasting_28, sX6_setCasting_31, sX6_setCasting_31n, sX6_setCasting_33, sX6_setCasting_33n, sX6_setCasting_34, sX6_setCasting_37, sX6_setCasting_38, sX6_setCasting_38n, sX6_setCasting_40, sX6_setCasting_41, sX6_setCasting_41n, sX6_setCasting_42, sX6_setCasting_42i, sX6_setCasting_43, sX6_setCasting_46, sX6_setCasting_47, sX6_setCasting_48, sX6_setCasting_51, sX6_setCasting_51n, sX6_setCasting_53, sX6_setCasting_54, sX6_setCasting_57, sX6_setCasting_57n, sX6_setCasting_59, sX6_setCasting_60, sX6_setCasting_63, sX6_setCasting_63n, sX6_setCasting_65, sX6_setCasting_67, sX6_setCasting_70, pz_add, pz_mul, pz_neg, pz_sub, pz_lt, pz_le, pz_eq, pz_b0, pz_b1, pz_bb, pz_ix, Int.sub_zero, Int.zero_add, Int.add_zero, Int.mul_zero, mb_qk, mb_qx, if_true, if_false, true_or, or_true, false_or, or_false, and_true, true_and, and_false, false_and, not_true_eq_false, not_false_eq_true, ite_self, List.lookup, List.length_cons, List.length_nil, ite_not, Nat.reduceAdd, Int.reduceEq, Int.reduceLT, Int.reduceLE, pz_n0, pz_n1, pz_n2, pz_n3, pz_n4, pz_n5, pz_n6, pz_n7, pz_n8, pz_n10, pz_n12, pz_n39, pz_n40, pz_n80, pz_n99, pz_n100, pz_n999, pz_nm1, pz_nm999, pz_gf h0, pz_gq h1, hq, pz_gf h3, gu_uu, gu_gf, gu_gi, gu_gq, gu_gfe, gu_gie, gu_gqe, List.set_cons_zero, List.set_cons_succ, Nat.reduceLT, Nat.reduceLeDiff, List.getD_cons_zero, List.getD_cons_succ]) | (simp (disch := first | assumption | omega | exact Nat.le_of_ble_eq_true rfl | (intro _; first | rfl | simp (disch := decide) only [pz_su_t])) only [sX6_setCasting_1, sX6_setCasting_7, pz_add, pz_mul, pz_neg, pz_sub, pz_lt, pz_le, pz_eq, pz_b0, pz_b1, pz_bb, pz_ix, Int.sub_zero, Int.zero_add, Int.add_zero, Int.mul_zero, mb_qk, mb_qx, if_true, if_false, true_or, or_true, false_or, or_false, and_true, true_and, and_false, false_and, not_true_eq_false, not_false_eq_true, ite_self, List.lookup, List.length_cons, List.length_nil, ite_not, Nat.reduceAdd, Int.reduceEq, Int.reduceLT, Int.reduceLE, pz_n0, pz_n1, pz_n2, pz_n3, pz_n4, pz_n5, pz_n6, pz_n7, pz_n8, pz_n10, pz_n12, pz_n39, pz_n40, pz_n80, pz_n99, pz_n100, pz_n999, pz_nm1, pz_nm999]; first | split | skip) | split)
  all_goals first | rfl | omega | ((try unfold pz_b); (repeat' split) <;> first | rfl | omega | (simp_all only []; done) | (exfalso; simp_all only [not_true_eq_false, not_false_eq_true]; omega) | skip)

theorem wc_initCa {c : Nat} (d : Nat) (Q : mb_O → mb_S → Prop) (hd : 1 ≤ d) : mb_Ex d 4 [.ref c] σ Q = Q (.inl none) σ := by
  show mb_Rn d 4 0 [some (.ref c)] [] σ Q = _
  repeat' (first | (simp (config := {maxSteps := 1000000}) (disch := first | assumption | omega | exact Nat.le_of_ble_eq_true rfl | (intro _; first | rfl | simp (disch := decide) only [pz_su_t])) only [sX1_init_0, sX1_init_0n, sX1_init_1, sX1_init_4, pz_add, pz_mul, pz_neg, pz_sub, pz_lt, pz_le, pz_eq, pz_b0, pz_b1, pz_bb, pz_ix, Int.sub_zero, Int.zero_add, Int.add_zero, Int.mul_zero, mb_qk, mb_qx, if_true, if_false, true_or, or_true, false_or, or_false, and_true, true_and, and_false, false_and, not_true_eq_false, not_false_eq_true, ite_self, List.lookup, List.length_cons, List.length_nil, ite_not, Nat.reduceAdd, Int.reduceEq, Int.reduceLT, Int.reduceLE, pz_n0, pz_n1, pz_n2, pz_n3, pz_n4, pz_n5, pz_n6, pz_n7, pz_n8, pz_n10, pz_n12, pz_n39, pz_n40, pz_n80, pz_n99, pz_n100, pz_n999, pz_nm1, pz_nm999]) | split)
set_option maxRecDepth 20000 in
set_option maxHeartbeats 4000000 in
theorem wc_setC2 {p pf pc : Nat} {a v f g N M : Int} {q : Nat → Option Nat} (h0 : σ.1 p = some (.inr (6, [.ref pf, .ref pc, .int (iI N), .int (iI M)]))) (h1 : σ.1 pc = some (.inl (11, 8, .inr (.inr (.inr (.inr q)))))) (h2 : q (iI a).toNatClampNeg = none) (l0 : p < σ.2.1) (l1 : pc < σ.2.1) (hne : p ≠ pc) (a0 : 0 ≤ a) (a1 : a < 8) (d : Nat) (Q : mb_O → mb_S → Prop) (hd : 2 ≤ d) : mb_Ex d 36 [.ref p, .int (iI a), .int (iI v), .int (iI f), .int (iI g)] σ Q = Q (.inl none) (mb_up (mb_up (mb_up (mb_al σ (.inr (1, [.int 0, .int 0, .int 0])) 3) pc (.inl (11, 8, .inr (.inr (.inr (.inr (va_up q (iI a).toNatClampNeg (some σ.2.1)))))))) p (.inr (6, [.ref pf, .ref pc, .int (iI N), .int (iI (M + 1))]))) σ.2.1 (.inr (1, [.int (iI v), .int (iI f), .int (iI g)]))) := by
  have hq : va_rf (q (iI a).toNatClampNeg) = .null := by rw [h2]; rfl
  have z1 : (iI a < (0 : Int32)) = False := by rw [pz_n0, pz_lt (by omega) (by omega) (by omega) (by omega)]; exact eq_false (by omega)
  have z2 : (iI a < (8 : Int32)) = True := by rw [pz_n8, pz_lt (by omega) (by omega) (by omega) (by omega)]; exact eq_true (by omega)
  show mb_Rn d 36 0 [some (.ref p), some (.int (iI a)), some (.int (iI v)), some (.int (iI f)), some (.int (iI g)), none] [] σ Q = _
  repeat' (first | (simp (config := {maxSteps := 1000000}) (disch := first | assumption | omega | (simp only [ga_n, gu_n]; omega) | exact Nat.le_of_ble_eq_true rfl | (intro _; first | rfl | simp (disch := decide) only [pz_su_t])) only [sX6_setCasting_0, sX6_setCasting_4, sX6_setCasting_5, sX6_setCasting_10, sX6_setCasting_11, sX6_setCasting_11n, sX6_setCasting_12, sX6_setCasting_15, sX6_setCasting_16, sX6_setCasting_17, sX6_setCasting_17n, sX6_setCasting_19, sX6_setCasting_19n, sX6_setCasting_21, sX6_setCasting_21n, sX6_setCasting_24, sX6_setCasting_27, sX6_setCasting_27i, sX6_setCasting_28, sX6_setCasting_31, sX6_setCasting_31n, sX6_setCasting_33, sX6_setCasting_33n, sX6_setCasting_34, sX6_setCasting_37, sX6_setCasting_38, sX6_setCasting_38n, sX6_setCasting_40, sX6_setCasting_41, sX6_setCasting_41n, sX6_setCasting_42, sX6_setCasting_42i, sX6_setCasting_43, sX6_setCasting_46, sX6_setCasting_47, sX6_setCasting_48, sX6_setCasting_51, sX6_setCasting_51n, sX6_setCasting_53, sX6_setCasting_54, sX6_setCasting_57, sX6_setCasting_57n, sX6_setCasting_59, sX6_setCasting_60, sX6_setCasting_63, sX6_setCasting_63n, sX6_setCasting_65, sX6_setCasting_67, sX6_setCasting_70, pz_add, pz_mul, pz_neg, pz_sub, pz_lt, pz_le, pz_eq, pz_b0, pz_b1, pz_bb, pz_n1, z1, z2, pz_ix, Int.sub_zero, Int.zero_add, Int.add_zero, Int.mul_zero, mb_qk, mb_qx, if_true, if_false, true_or, or_true, false_or, or_false, and_true, true_and, and_false, false_and, not_true_eq_false, not_false_eq_true, ite_self, List.lookup, List.length_cons, List.length_nil, ite_not, Nat.reduceAdd, Int.reduceEq, Int.reduceLT, Int.reduceLE, pz_gf h0, pz_gq h1, hq, wc_initCa, gu_uu, ga_gf, ga_gi, ga_gq, ga_gfe, ga_gie, ga_gqe, ga_n, gu_n, gu_gf, gu_gi, gu_gq, gu_gfe, gu_gie, gu_gqe, List.set_cons_zero, List.set_cons_succ, Nat.reduceLT, Nat.reduceLeDiff, List.getD_cons_zero, List.getD_cons_succ]) | (simp (disch := first | assumption | omega | (simp only [ga_n, gu_n]; omega) | exact Nat.le_of_ble_eq_true rfl | (intro _; first | rfl | simp (disch := decide) only [pz_su_t])) only [sX6_setCasting_1, sX6_setCasting_7, pz_add, pz_mul, pz_neg, pz_sub, pz_lt, pz_le, pz_eq, pz_b0, pz_b1, pz_bb, pz_n1, z1, z2, pz_ix, Int.sub_zero, Int.zero_add, Int.add_zero, Int.mul_zero, mb_qk, mb_qx, if_true, if_false, true_or, or_true, false_or, or_false, and_true, true_and, and_false, false_and, not_true_eq_false, not_false_eq_true, ite_self, List.lookup, List.length_cons, List.length_nil, ite_not, Nat.reduceAdd, Int.reduceEq, Int.reduceLT, Int.reduceLE]; first | split | skip) | split)
  all_goals first | rfl | omega | ((try unfold pz_b); (repeat' split) <;> first | rfl | omega | (simp_all only []; done) | (exfalso; simp_all only [not_true_eq_false, not_false_eq_true]; omega) | skip)
set_option maxRecDepth 20000 in
set_option maxHeartbeats 4000000 in
theorem fc_cast1 {s a v f g : Int} (hW : pz_W S) (h : rz_R σ S ad Fo) (hs1 : -2147483648 ≤ s) (hs2 : s ≤ 2147483647) (ha1 : -2147483648 ≤ a) (ha2 : a ≤ 2147483647) (hv1 : -2147483648 ≤ v) (hv2 : v ≤ 2147483647) (hf1 : -2147483648 ≤ f) (hf2 : f ≤ 2147483647) (hg1 : -2147483648 ≤ g) (hg2 : g ≤ 2147483647) (c : ¬ ((0 ≤ s ∧ s ≤ S 9 0 - 1) ∧ pz_isR S a v)) : ∀ (d : Nat) (Q : mb_O → mb_S → Prop), 9 ≤ d → mb_Ex d 50 [.ref (ad 0 0), .int (iI s), .int (iI a), .int (iI v), .int (iI f), .int (iI g)] σ Q = Q (.inr 2) (mb_th σ) := by
  have e0 := rz_geq h (t := 0) (i := 0) rfl (fun _ k => k)
  intro d Q hd
  show mb_Rn d 50 0 [some (.ref (ad 0 0)), some (.int (iI s)), some (.int (iI a)), some (.int (iI v)), some (.int (iI f)), some (.int (iI g)), none] [] σ Q = _
  by_cases cs : 0 ≤ s ∧ s ≤ S 9 0 - 1
  · have cr : ¬ pz_isR S a v := fun g => c ⟨cs, g⟩
    have hsa : ∀ (d : Nat) (Q : mb_O → mb_S → Prop), mb_Ex d 63 [.ref (ad 0 0), .int (iI s)] σ Q = Q (.inl (some (.ref (ad 14 s)))) σ := fun d Q => (pc_sceneAt hW (rz_C hW h) hs1 hs2).trans (if_pos cs)
    have hS := rz_Sc hW h cs.1 (show s < S 9 0 by omega)
    have eS := hS.1
    have hro : ∀ (d : Nat) (Q : mb_O → mb_S → Prop), 1 ≤ d → mb_Ex d 66 [.ref (ad 0 0), .int (iI a), .int (iI v)] σ Q = Q (.inl (some (.null))) σ := fun d Q hd => (pc_rigOfC hW hd (rz_C hW h) ha1 ha2 hv1 hv2).trans (if_neg cr)
    repeat' (first | (simp (config := {maxSteps := 1000000}) (disch := first | assumption | omega | exact Nat.le_of_ble_eq_true rfl | (intro _; first | rfl | simp (disch := decide) only [pz_su_t])) only [sX7_cast_0, sX7_cast_0n, sX7_cast_1, sX7_cast_2, sX7_cast_5, sX7_cast_5n, sX7_cast_7, sX7_cast_7n, sX7_cast_9, sX7_cast_9n, sX7_cast_12, sX7_cast_12n, sX7_cast_13, sX7_cast_14, sX7_cast_15, sX7_cast_18, sX7_cast_18n, sX7_cast_21, sX7_cast_31, sX7_cast_33, sX7_cast_39, sX7_cast_41, sX7_cast_46, sX7_cast_48, sX7_cast_54, sX7_cast_64, sX7_cast_64n, sX7_cast_66, sX7_cast_67, sX7_cast_68, sX7_cast_70, sX7_cast_72, sX7_cast_75, sX7_cast_75n, sX7_cast_77, sX7_cast_80, pz_add, pz_mul, pz_neg, pz_sub, pz_lt, pz_le, pz_eq, pz_b0, pz_b1, pz_bb, pz_ix, Int.sub_zero, Int.zero_add, Int.add_zero, Int.mul_zero, mb_qk, mb_qx, if_true, if_false, true_or, or_true, false_or, or_false, and_true, true_and, and_false, false_and, not_true_eq_false, not_false_eq_true, ite_self, List.lookup, List.length_cons, List.length_nil, ite_not, Nat.reduceAdd, Int.reduceEq, Int.reduceLT, Int.reduceLE, pz_n0, pz_n1, pz_n2, pz_n3, pz_n4, pz_n5, pz_n6, pz_n7, pz_n8, pz_n10, pz_n12, pz_n39, pz_n40, pz_n80, pz_n99, pz_n100, pz_n999, pz_nm1, pz_nm999, hsa, hro, pz_gf e0, pz_gf eS]) | (simp (disch := first | assumption | omega | exact Nat.le_of_ble_eq_true rfl | (intro _; first | rfl | simp (disch := decide) only [pz_su_t])) only [sX7_cast_36, sX7_cast_43, sX7_cast_51, pz_add, pz_mul, pz_neg, pz_sub, pz_lt, pz_le, pz_eq, pz_b0, pz_b1, pz_bb, pz_ix, Int.sub_zero, Int.zero_add, Int.add_zero, Int.mul_zero, mb_qk, mb_qx, if_true, if_false, true_or, or_true, false_or, or_false, and_true, true_and, and_false, false_and, not_true_eq_false, not_false_eq_true, ite_self, List.lookup, List.length_cons, List.length_nil, ite_not, Nat.reduceAdd, Int.reduceEq, Int.reduceLT, Int.reduceLE, pz_n0, pz_n1, pz_n2, pz_n3, pz_n4, pz_n5, pz_n6, pz_n7, pz_n8, pz_n10, pz_n12, pz_n39, pz_n40, pz_n80, pz_n99, pz_n100, pz_n999, pz_nm1, pz_nm999]; first | split | skip) | split)
    all_goals first | rfl | omega | ((try unfold pz_b); (repeat' split) <;> first | rfl | omega | (simp_all only []; done) | (exfalso; simp_all only [not_true_eq_false, not_false_eq_true]; omega) | skip)
  · have hsa : ∀ (d : Nat) (Q : mb_O → mb_S → Prop), mb_Ex d 63 [.ref (ad 0 0), .int (iI s)] σ Q = Q (.inl (some (.null))) σ := fun d Q => (pc_sceneAt hW (rz_C hW h) hs1 hs2).trans (if_neg cs)
    repeat' (first | (simp (config := {maxSteps := 1000000}) (disch := first | assumption | omega | exact Nat.le_of_ble_eq_true rfl | (intro _; first | rfl | simp (disch := decide) only [pz_su_t])) only [sX7_cast_0, sX7_cast_0n, sX7_cast_1, sX7_cast_2, sX7_cast_5, sX7_cast_5n, sX7_cast_7, sX7_cast_7n, sX7_cast_9, sX7_cast_9n, sX7_cast_12, sX7_cast_12n, sX7_cast_13, sX7_cast_14, sX7_cast_15, sX7_cast_18, sX7_cast_18n, sX7_cast_21, sX7_cast_31, sX7_cast_33, sX7_cast_39, sX7_cast_41, sX7_cast_46, sX7_cast_48, sX7_cast_54, sX7_cast_64, sX7_cast_64n, sX7_cast_66, sX7_cast_67, sX7_cast_68, sX7_cast_70, sX7_cast_72, sX7_cast_75, sX7_cast_75n, sX7_cast_77, sX7_cast_80, pz_add, pz_mul, pz_neg, pz_sub, pz_lt, pz_le, pz_eq, pz_b0, pz_b1, pz_bb, pz_ix, Int.sub_zero, Int.zero_add, Int.add_zero, Int.mul_zero, mb_qk, mb_qx, if_true, if_false, true_or, or_true, false_or, or_false, and_true, true_and, and_false, false_and, not_true_eq_false, not_false_eq_true, ite_self, List.lookup, List.length_cons, List.length_nil, ite_not, Nat.reduceAdd, Int.reduceEq, Int.reduceLT, Int.reduceLE, pz_n0, pz_n1, pz_n2, pz_n3, pz_n4, pz_n5, pz_n6, pz_n7, pz_n8, pz_n10, pz_n12, pz_n39, pz_n40, pz_n80, pz_n99, pz_n100, pz_n999, pz_nm1, pz_nm999, hsa, pz_gf e0]) | (simp (disch := first | assumption | omega | exact Nat.le_of_ble_eq_true rfl | (intro _; first | rfl | simp (disch := decide) only [pz_su_t])) only [sX7_cast_36, sX7_cast_43, sX7_cast_51, pz_add, pz_mul, pz_neg, pz_sub, pz_lt, pz_le, pz_eq, pz_b0, pz_b1, pz_bb, pz_ix, Int.sub_zero, Int.zero_add, Int.add_zero, Int.mul_zero, mb_qk, mb_qx, if_true, if_false, true_or, or_true, false_or, or_false, and_true, true_and, and_false, false_and, not_true_eq_false, not_false_eq_true, ite_self, List.lookup, List.length_cons, List.length_nil, ite_not, Nat.reduceAdd, Int.reduceEq, Int.reduceLT, Int.reduceLE, pz_n0, pz_n1, pz_n2, pz_n3, pz_n4, pz_n5, pz_n6, pz_n7, pz_n8, pz_n10, pz_n12, pz_n39, pz_n40, pz_n80, pz_n99, pz_n100, pz_n999, pz_nm1, pz_nm999]; first | split | skip) | split)
    all_goals first | rfl | omega | ((try unfold pz_b); (repeat' split) <;> first | rfl | omega | (simp_all only []; done) | (exfalso; simp_all only [not_true_eq_false, not_false_eq_true]; omega) | skip)
set_option maxRecDepth 20000 in
set_option maxHeartbeats 4000000 in
theorem fc_cast2 {s a v f g : Int} (hW : pz_W S) (h : rz_R σ S ad Fo) (hs1 : -2147483648 ≤ s) (hs2 : s ≤ 2147483647) (ha1 : -2147483648 ≤ a) (ha2 : a ≤ 2147483647) (hv1 : -2147483648 ≤ v) (hv2 : v ≤ 2147483647) (hf1 : -2147483648 ≤ f) (hf2 : f ≤ 2147483647) (hg1 : -2147483648 ≤ g) (hg2 : g ≤ 2147483647) (c : (0 ≤ s ∧ s ≤ S 9 0 - 1) ∧ pz_isR S a v) (c2 : ¬ ((0 ≤ f ∧ f ≤ 39) ∧ f ≤ g ∧ g ≤ 39)) : ∀ (d : Nat) (Q : mb_O → mb_S → Prop), 9 ≤ d → mb_Ex d 50 [.ref (ad 0 0), .int (iI s), .int (iI a), .int (iI v), .int (iI f), .int (iI g)] σ Q = Q (.inr 1) (mb_th σ) := by
  have e0 := rz_geq h (t := 0) (i := 0) rfl (fun _ k => k)
  have cs := c.1
  have cr := c.2
  have hsa : ∀ (d : Nat) (Q : mb_O → mb_S → Prop), mb_Ex d 63 [.ref (ad 0 0), .int (iI s)] σ Q = Q (.inl (some (.ref (ad 14 s)))) σ := fun d Q => (pc_sceneAt hW (rz_C hW h) hs1 hs2).trans (if_pos cs)
  have hS := rz_Sc hW h cs.1 (show s < S 9 0 by omega)
  have eS := hS.1
  have hro : ∀ (d : Nat) (Q : mb_O → mb_S → Prop), 1 ≤ d → mb_Ex d 66 [.ref (ad 0 0), .int (iI a), .int (iI v)] σ Q = Q (.inl (some (.ref (ad 6 (pz_rg a v))))) σ := fun d Q hd => (pc_rigOfC hW hd (rz_C hW h) ha1 ha2 hv1 hv2).trans (if_pos cr)
  intro d Q hd
  show mb_Rn d 50 0 [some (.ref (ad 0 0)), some (.int (iI s)), some (.int (iI a)), some (.int (iI v)), some (.int (iI f)), some (.int (iI g)), none] [] σ Q = _
  by_cases x1 : 0 ≤ f ∧ f ≤ 39
  · by_cases x2 : 0 ≤ g ∧ g ≤ 39
    ·
      repeat' (first | (simp (config := {maxSteps := 1000000}) (disch := first | assumption | omega | exact Nat.le_of_ble_eq_true rfl | (intro _; first | rfl | simp (disch := decide) only [pz_su_t])) only [sX7_cast_0, sX7_cast_0n, sX7_cast_1, sX7_cast_2, sX7_cast_5, sX7_cast_5n, sX7_cast_7, sX7_cast_7n, sX7_cast_9, sX7_cast_9n, sX7_cast_12, sX7_cast_12n, sX7_cast_13, sX7_cast_14, sX7_cast_15, sX7_cast_18, sX7_cast_18n, sX7_cast_21, sX7_cast_31, sX7_cast_33, sX7_cast_39, sX7_cast_41, sX7_cast_46, sX7_cast_48, sX7_cast_54, sX7_cast_64, sX7_cast_64n, sX7_cast_66, sX7_cast_67, sX7_cast_68, sX7_cast_70, sX7_cast_72, sX7_cast_75, sX7_cast_75n, sX7_cast_77, sX7_cast_80, pz_add, pz_mul, pz_neg, pz_sub, pz_lt, pz_le, pz_eq, pz_b0, pz_b1, pz_bb, pz_ix, Int.sub_zero, Int.zero_add, Int.add_zero, Int.mul_zero, mb_qk, mb_qx, if_true, if_false, true_or, or_true, false_or, or_false, and_true, true_and, and_false, false_and, not_true_eq_false, not_false_eq_true, ite_self, List.lookup, List.length_cons, List.length_nil, ite_not, Nat.reduceAdd, Int.reduceEq, Int.reduceLT, Int.reduceLE, pz_n0, pz_n1, pz_n2, pz_n3, pz_n4, pz_n5, pz_n6, pz_n7, pz_n8, pz_n10, pz_n12, pz_n39, pz_n40, pz_n80, pz_n99, pz_n100, pz_n999, pz_nm1, pz_nm999, hsa, hro, pz_gf e0, pz_gf eS, pc_canBeShown, pz_bt x1, pz_bt x2]) | (simp (disch := first | assumption | omega | exact Nat.le_of_ble_eq_true rfl | (intro _; first | rfl | simp (disch := decide) only [pz_su_t])) only [sX7_cast_36, sX7_cast_43, sX7_cast_51, pz_add, pz_mul, pz_neg, pz_sub, pz_lt, pz_le, pz_eq, pz_b0, pz_b1, pz_bb, pz_ix, Int.sub_zero, Int.zero_add, Int.add_zero, Int.mul_zero, mb_qk, mb_qx, if_true, if_false, true_or, or_true, false_or, or_false, and_true, true_and, and_false, false_and, not_true_eq_false, not_false_eq_true, ite_self, List.lookup, List.length_cons, List.length_nil, ite_not, Nat.reduceAdd, Int.reduceEq, Int.reduceLT, Int.reduceLE, pz_n0, pz_n1, pz_n2, pz_n3, pz_n4, pz_n5, pz_n6, pz_n7, pz_n8, pz_n10, pz_n12, pz_n39, pz_n40, pz_n80, pz_n99, pz_n100, pz_n999, pz_nm1, pz_nm999]; first | split | skip) | split)
      all_goals first | rfl | omega | ((try unfold pz_b); (repeat' split) <;> first | rfl | omega | (simp_all only []; done) | (exfalso; simp_all only [not_true_eq_false, not_false_eq_true]; omega) | skip)
    ·
      repeat' (first | (simp (config := {maxSteps := 1000000}) (disch := first | assumption | omega | exact Nat.le_of_ble_eq_true rfl | (intro _; first | rfl | simp (disch := decide) only [pz_su_t])) only [sX7_cast_0, sX7_cast_0n, sX7_cast_1, sX7_cast_2, sX7_cast_5, sX7_cast_5n, sX7_cast_7, sX7_cast_7n, sX7_cast_9, sX7_cast_9n, sX7_cast_12, sX7_cast_12n, sX7_cast_13, sX7_cast_14, sX7_cast_15, sX7_cast_18, sX7_cast_18n, sX7_cast_21, sX7_cast_31, sX7_cast_33, sX7_cast_39, sX7_cast_41, sX7_cast_46, sX7_cast_48, sX7_cast_54, sX7_cast_64, sX7_cast_64n, sX7_cast_66, sX7_cast_67, sX7_cast_68, sX7_cast_70, sX7_cast_72, sX7_cast_75, sX7_cast_75n, sX7_cast_77, sX7_cast_80, pz_add, pz_mul, pz_neg, pz_sub, pz_lt, pz_le, pz_eq, pz_b0, pz_b1, pz_bb, pz_ix, Int.sub_zero, Int.zero_add, Int.add_zero, Int.mul_zero, mb_qk, mb_qx, if_true, if_false, true_or, or_true, false_or, or_false, and_true, true_and, and_false, false_and, not_true_eq_false, not_false_eq_true, ite_self, List.lookup, List.length_cons, List.length_nil, ite_not, Nat.reduceAdd, Int.reduceEq, Int.reduceLT, Int.reduceLE, pz_n0, pz_n1, pz_n2, pz_n3, pz_n4, pz_n5, pz_n6, pz_n7, pz_n8, pz_n10, pz_n12, pz_n39, pz_n40, pz_n80, pz_n99, pz_n100, pz_n999, pz_nm1, pz_nm999, hsa, hro, pz_gf e0, pz_gf eS, pc_canBeShown, pz_bt x1, pz_bf x2]) | (simp (disch := first | assumption | omega | exact Nat.le_of_ble_eq_true rfl | (intro _; first | rfl | simp (disch := decide) only [pz_su_t])) only [sX7_cast_36, sX7_cast_43, sX7_cast_51, pz_add, pz_mul, pz_neg, pz_sub, pz_lt, pz_le, pz_eq, pz_b0, pz_b1, pz_bb, pz_ix, Int.sub_zero, Int.zero_add, Int.add_zero, Int.mul_zero, mb_qk, mb_qx, if_true, if_false, true_or, or_true, false_or, or_false, and_true, true_and, and_false, false_and, not_true_eq_false, not_false_eq_true, ite_self, List.lookup, List.length_cons, List.length_nil, ite_not, Nat.reduceAdd, Int.reduceEq, Int.reduceLT, Int.reduceLE, pz_n0, pz_n1, pz_n2, pz_n3, pz_n4, pz_n5, pz_n6, pz_n7, pz_n8, pz_n10, pz_n12, pz_n39, pz_n40, pz_n80, pz_n99, pz_n100, pz_n999, pz_nm1, pz_nm999]; first | split | skip) | split)
      all_goals first | rfl | omega | ((try unfold pz_b); (repeat' split) <;> first | rfl | omega | (simp_all only []; done) | (exfalso; simp_all only [not_true_eq_false, not_false_eq_true]; omega) | skip)
  ·
    repeat' (first | (simp (config := {maxSteps := 1000000}) (disch := first | assumption | omega | exact Nat.le_of_ble_eq_true rfl | (intro _; first | rfl | simp (disch := decide) only [pz_su_t])) only [sX7_cast_0, sX7_cast_0n, sX7_cast_1, sX7_cast_2, sX7_cast_5, sX7_cast_5n, sX7_cast_7, sX7_cast_7n, sX7_cast_9, sX7_cast_9n, sX7_cast_12, sX7_cast_12n, sX7_cast_13, sX7_cast_14, sX7_cast_15, sX7_cast_18, sX7_cast_18n, sX7_cast_21, sX7_cast_31, sX7_cast_33, sX7_cast_39, sX7_cast_41, sX7_cast_46, sX7_cast_48, sX7_cast_54, sX7_cast_64, sX7_cast_64n, sX7_cast_66, sX7_cast_67, sX7_cast_68, sX7_cast_70, sX7_cast_72, sX7_cast_75, sX7_cast_75n, sX7_cast_77, sX7_cast_80, pz_add, pz_mul, pz_neg, pz_sub, pz_lt, pz_le, pz_eq, pz_b0, pz_b1, pz_bb, pz_ix, Int.sub_zero, Int.zero_add, Int.add_zero, Int.mul_zero, mb_qk, mb_qx, if_true, if_false, true_or, or_true, false_or, or_false, and_true, true_and, and_false, false_and, not_true_eq_false, not_false_eq_true, ite_self, List.lookup, List.length_cons, List.length_nil, ite_not, Nat.reduceAdd, Int.reduceEq, Int.reduceLT, Int.reduceLE, pz_n0, pz_n1, pz_n2, pz_n3, pz_n4, pz_n5, pz_n6, pz_n7, pz_n8, pz_n10, pz_n12, pz_n39, pz_n40, pz_n80, pz_n99, pz_n100, pz_n999, pz_nm1, pz_nm999, hsa, hro, pz_gf e0, pz_gf eS, pc_canBeShown, pz_bf x1]) | (simp (disch := first | assumption | omega | exact Nat.le_of_ble_eq_true rfl | (intro _; first | rfl | simp (disch := decide) only [pz_su_t])) only [sX7_cast_36, sX7_cast_43, sX7_cast_51, pz_add, pz_mul, pz_neg, pz_sub, pz_lt, pz_le, pz_eq, pz_b0, pz_b1, pz_bb, pz_ix, Int.sub_zero, Int.zero_add, Int.add_zero, Int.mul_zero, mb_qk, mb_qx, if_true, if_false, true_or, or_true, false_or, or_false, and_true, true_and, and_false, false_and, not_true_eq_false, not_false_eq_true, ite_self, List.lookup, List.length_cons, List.length_nil, ite_not, Nat.reduceAdd, Int.reduceEq, Int.reduceLT, Int.reduceLE, pz_n0, pz_n1, pz_n2, pz_n3, pz_n4, pz_n5, pz_n6, pz_n7, pz_n8, pz_n10, pz_n12, pz_n39, pz_n40, pz_n80, pz_n99, pz_n100, pz_n999, pz_nm1, pz_nm999]; first | split | skip) | split)
    all_goals first | rfl | omega | ((try unfold pz_b); (repeat' split) <;> first | rfl | omega | (simp_all only []; done) | (exfalso; simp_all only [not_true_eq_false, not_false_eq_true]; omega) | skip)
set_option maxRecDepth 20000 in
set_option maxHeartbeats 4000000 in
theorem fc_cast {s a v f g : Int} (hW : pz_W S) (h : rz_R σ S ad Fo) (hs1 : -2147483648 ≤ s) (hs2 : s ≤ 2147483647) (ha1 : -2147483648 ≤ a) (ha2 : a ≤ 2147483647) (hv1 : -2147483648 ≤ v) (hv2 : v ≤ 2147483647) (hf1 : -2147483648 ≤ f) (hf2 : f ≤ 2147483647) (hg1 : -2147483648 ≤ g) (hg2 : g ≤ 2147483647) (hI : pz_I S) (c : (0 ≤ s ∧ s ≤ S 9 0 - 1) ∧ pz_isR S a v) (c2 : (0 ≤ f ∧ f ≤ 39) ∧ f ≤ g ∧ g ≤ 39) : ∃ σ' ad', ad' 0 0 = ad 0 0 ∧ rz_R σ' (pz_cst S (8 * s + a) v f g) ad' Fo ∧ rz_F Fo σ σ' ∧ ∀ (d : Nat) (Q : mb_O → mb_S → Prop), 9 ≤ d → mb_Ex d 50 [.ref (ad 0 0), .int (iI s), .int (iI a), .int (iI v), .int (iI f), .int (iI g)] σ Q = Q (.inl (some (.int (iI (pz_sm (fun a_1 => pz_ca (pz_cst S (8 * s + a) v f g) a_1 s) 0 (S 1 0).toNat))))) σ' := by
  have e0 := rz_geq h (t := 0) (i := 0) rfl (fun _ k => k)
  have cs := c.1
  have cr := c.2
  have hsa : ∀ (d : Nat) (Q : mb_O → mb_S → Prop), mb_Ex d 63 [.ref (ad 0 0), .int (iI s)] σ Q = Q (.inl (some (.ref (ad 14 s)))) σ := fun d Q => (pc_sceneAt hW (rz_C hW h) hs1 hs2).trans (if_pos cs)
  have hS := rz_Sc hW h cs.1 (show s < S 9 0 by omega)
  have eS := hS.1
  have hro : ∀ (d : Nat) (Q : mb_O → mb_S → Prop), 1 ≤ d → mb_Ex d 66 [.ref (ad 0 0), .int (iI a), .int (iI v)] σ Q = Q (.inl (some (.ref (ad 6 (pz_rg a v))))) σ := fun d Q hd => (pc_rigOfC hW hd (rz_C hW h) ha1 ha2 hv1 hv2).trans (if_pos cr)
  have x1 := c2.1
  have x2 : 0 ≤ g ∧ g ≤ 39 := by omega
  have w1 := pw_1 hW 0
  have w9 := pw_9 hW 0
  have a0 : 0 ≤ a := cr.1.1
  have a8 : a < 8 := by have := cr.1.2; omega
  have ls : rz_lv S 14 s := ⟨cs.1, by omega⟩
  have s11 : ∀ x, (pz_cst S (8 * s + a) v f g) 11 x = if x = 8 * s + a then 1 else S 11 x := fun x => by unfold pz_cst; rw [pz_su_t (by decide), pz_su_t (by decide), pz_su_t (by decide), pz_su_i]
  have s12 : ∀ x, (pz_cst S (8 * s + a) v f g) 12 x = if x = 8 * s + a then v else S 12 x := fun x => by unfold pz_cst; rw [pz_su_t (by decide), pz_su_t (by decide), pz_su_i, pz_su_t (by decide)]
  have s13 : ∀ x, (pz_cst S (8 * s + a) v f g) 13 x = if x = 8 * s + a then f else S 13 x := fun x => by unfold pz_cst; rw [pz_su_t (by decide), pz_su_i, pz_su_t (by decide), pz_su_t (by decide)]
  have s14 : ∀ x, (pz_cst S (8 * s + a) v f g) 14 x = if x = 8 * s + a then g else S 14 x := fun x => by unfold pz_cst; rw [pz_su_i, pz_su_t (by decide), pz_su_t (by decide), pz_su_t (by decide)]
  have hS' : ∀ x, x ∉ [11, 12, 13, 14] → (pz_cst S (8 * s + a) v f g) x = S x := fun x hx => by unfold pz_cst; rw [pz_su_t (fun e => hx (by rw [e]; decide)), pz_su_t (fun e => hx (by rw [e]; decide)), pz_su_t (fun e => hx (by rw [e]; decide)), pz_su_t (fun e => hx (by rw [e]; decide))]
  have hans : pz_sm (fun a_1 => pz_ca (pz_cst S (8 * s + a) v f g) a_1 s) 0 8 = pz_sm (fun a_1 => pz_ca (pz_cst S (8 * s + a) v f g) a_1 s) 0 (S 1 0).toNat := by
    rw [show (8 : Nat) = (S 1 0).toNat + (8 - (S 1 0).toNat) by omega, pz_sm_add, pz_sm_zero2 (8 - (S 1 0).toNat) (0 + ((S 1 0).toNat : Int)) (fun j j1 j2 => ?_), Int.add_zero]
    · show pz_b (¬ (pz_cst S (8 * s + a) v f g) 11 (8 * s + j) = 0) = 0
      have ja := cr.1.2
      rw [s11, if_neg (by omega)]
      by_cases e : S 11 (8 * s + j) = 0
      · exact pz_bf (fun g => g e)
      · have := (hI.1 s j cs.1 (by omega) (by omega) (by omega) e).1; omega
  obtain ⟨q, q1, q2⟩ := rz_gaq h (t := 16) (i := s) ls (fun _ k => k)
  have q3 := q2 a a0 a8
  have n146 : ad 14 s ≠ ad 16 s := rz_ne h (t := 14) (t' := 16) ls ls (by omega)
  by_cases ca : S 11 (8 * s + a) = 0
  · rw [if_pos ca] at q3
    have hset := fun d Q hd => wc_setC2 (v := v) (f := f) (g := g) eS q1 q3 (h.1 14 s ls).2.1 (h.1 16 s ls).2.1 n146 a0 a8 d Q hd
    obtain ⟨ad', adE⟩ : ∃ ad' : rz_A, ad' = (fun t i => if t = 19 ∧ i = 8 * s + a then σ.2.1 else ad t i) := ⟨_, rfl⟩
    have adn : ad' 19 (8 * s + a) = σ.2.1 := by rw [adE]; exact if_pos ⟨rfl, rfl⟩
    have ado : ∀ t i, ¬ (t = 19 ∧ i = 8 * s + a) → ad' t i = ad t i := fun t i k => by rw [adE]; exact if_neg k
    have had : ∀ t i, rz_lv S t i → ad' t i = ad t i := fun t i hl => ado t i (fun k => by
      obtain ⟨k1, k3⟩ := k
      subst k1
      subst k3
      exact hl.2.2 ca)
    have hcnt : pz_sm (fun a_1 => pz_ca (pz_cst S (8 * s + a) v f g) a_1 s) 0 8 = pz_sm (fun a_1 => pz_ca S a_1 s) 0 8 + 1 := pz_sm_one (k := a) 8 0 a0 (by omega) (fun j jn => by
      show pz_b (¬ (pz_cst S (8 * s + a) v f g) 11 (8 * s + j) = 0) = pz_b (¬ S 11 (8 * s + j) = 0)
      rw [s11, if_neg (by omega)]) (by
      show pz_b (¬ (pz_cst S (8 * s + a) v f g) 11 (8 * s + a) = 0) = pz_b (¬ S 11 (8 * s + a) = 0) + 1
      rw [s11, if_pos rfl, pz_bt (by decide), pz_bf (fun g => g ca)]; rfl)
    obtain ⟨σ2, σE⟩ : ∃ σ2 : mb_S, σ2 = mb_up (mb_up (mb_up (mb_al σ (.inr (1, [.int 0, .int 0, .int 0])) 3) (ad 16 s) (.inl (11, 8, .inr (.inr (.inr (.inr (va_up q (iI a).toNatClampNeg (some σ.2.1)))))))) (ad 14 s) (.inr (6, [.ref (ad 15 s), .ref (ad 16 s), .int (iI (S 10 s)), .int (iI (pz_sm (fun a => pz_ca S a s) 0 8 + 1))]))) σ.2.1 (.inr (1, [.int (iI v), .int (iI f), .int (iI g)])) := ⟨_, rfl⟩
    have l14 := (h.1 14 s ls).2
    have l16 := (h.1 16 s ls).2
    have c14 : σ2.1 (ad 14 s) = some (.inr (6, [.ref (ad 15 s), .ref (ad 16 s), .int (iI (S 10 s)), .int (iI (pz_sm (fun a => pz_ca S a s) 0 8 + 1))])) := by rw [σE, gu_at (by omega)]; exact gu_ae
    have c16 : σ2.1 (ad 16 s) = some (.inl (11, 8, .inr (.inr (.inr (.inr (va_up q (iI a).toNatClampNeg (some σ.2.1))))))) := by rw [σE, gu_at (by omega), gu_at n146.symm]; exact gu_ae
    have c19 : σ2.1 σ.2.1 = some (.inr (1, [.int (iI v), .int (iI f), .int (iI g)])) := by rw [σE]; exact gu_ae
    have cm : σ2.2 = (σ.2.1 + 1, σ.2.2 + 3) := by rw [σE]; rfl
    have cs' : ∀ q, q < σ.2.1 → q ≠ ad 14 s → q ≠ ad 16 s → σ2.1 q = σ.1 q := fun q hq q0 q1 => by rw [σE, gu_at (by omega), gu_at q0, gu_at q1, ga_at (by omega)]
    have ag : ∀ t i, rz_lv S t i → (t ∉ [14, 16] ∨ i ≠ s) → σ2.1 (ad t i) = σ.1 (ad t i) := fun t i hl k => cs' _ (h.1 t i hl).2.1 (rz_ne h hl (t' := 14) ls (fun g => k.elim (fun k => k (by rw [g.1]; decide)) (fun k => k g.2))) (rz_ne h hl (t' := 16) ls (fun g => k.elim (fun k => k (by rw [g.1]; decide)) (fun k => k g.2)))
    refine ⟨σ2, ad', ado 0 0 (by omega), rz_g2 hW h (by rw [cm]; omega) (fun t i => t = 19 ∧ i = 8 * s + a) [11, 12, 13, 14] [14, 16, 19] hS' had ?_ (rz_tag (by decide) (by decide) (by decide) (by decide) (by decide) (by decide) (by decide) (by decide) (by decide) (by decide) (by decide) (by decide) (by decide) (by decide) (by decide) (by decide) (by decide) (by decide) (by decide) (by decide) (by decide) (fun t _ x hx => absurd hx (by simp [rz_ds]))) (fun t i hl hm => ag t i hl (Or.inl (fun g => hm (by revert g; revert t; simp; omega)))) ?_ ?_ ?_, ⟨fun q hq => ?_, by rw [cm]; omega, by rw [cm]; omega, by rw [cm]; omega⟩, fun d Q hd => ?_⟩
    · have hS := hS'
      have e1 := hS 1 (by decide)
      have e2 := hS 2 (by decide)
      have e3 := hS 3 (by decide)
      have e9 := hS 9 (by decide)
      have e10 := hS 10 (by decide)
      have e21 := hS 21 (by decide)
      have hrl : ∀ r, rz_rl (pz_cst S (8 * s + a) v f g) r → rz_rl S r := fun r ⟨k1, k2, k3, k4⟩ => ⟨k1, k2, by rw [← e1]; exact k3, by rw [← e1, ← e2]; exact k4⟩
      exact rz_tag (fun i k => Or.inl k) (fun i k => Or.inl k) (fun i k => Or.inl k) (fun i k => Or.inl k) (fun i k => Or.inl ⟨k.1, by rw [← e1]; exact k.2⟩) (fun i k => Or.inl ⟨k.1, by rw [← e1]; exact k.2⟩) (fun i k => Or.inl (hrl i k)) (fun i k => Or.inl (hrl i k)) (fun i k => Or.inl (hrl i k)) (fun i k => Or.inl ⟨hrl i k.1, k.2⟩) (fun i k => Or.inl ⟨hrl _ k.1, by rw [← e3]; exact k.2⟩) (fun i k => Or.inl ⟨hrl _ k.1, by rw [← e3]; exact k.2⟩) (fun i k => Or.inl ⟨hrl _ k.1, by rw [← e3]; exact k.2⟩) (fun i k => Or.inl ⟨hrl _ k.1, by rw [← e3]; exact k.2⟩) (fun i k => Or.inl ⟨k.1, by rw [← e9]; exact k.2⟩) (fun i k => Or.inl ⟨k.1, by rw [← e9]; exact k.2⟩) (fun i k => Or.inl ⟨k.1, by rw [← e9]; exact k.2⟩) (fun i k => Or.inl ⟨k.1, by rw [← e9]; exact k.2.1, by rw [← e10]; exact k.2.2⟩) (fun i k => Or.inl ⟨k.1, by rw [← e9]; exact k.2.1, by rw [← e10]; exact k.2.2⟩) (fun i k => by obtain ⟨k1, k2, k3⟩ := k; rw [e9] at k2; rw [s11] at k3; by_cases e : i = 8 * s + a; exact Or.inr ⟨rfl, e⟩; rw [if_neg e] at k3; exact Or.inl ⟨k1, k2, k3⟩) (fun i k => Or.inl ⟨k.1, by rw [← e21]; exact k.2⟩) (fun t i k => Or.inl k)
    · intro t i hm k' k
      simp only [List.mem_cons, List.not_mem_nil, or_false] at hm
      rcases hm with e | e | e <;> subst e
      · by_cases e : i = s
        · subst e
          refine Or.inr ⟨_, c14, ?_⟩
          show _ = _
          rw [ado 15 i (by omega), ado 16 i (by omega), hS' 10 (by decide), hcnt]
        · exact Or.inl ⟨ag 14 i k (Or.inr e), by rw [hS' 10 (by decide)], fun j j1 j2 => by rw [s11, if_neg (by omega)], rfl, rfl⟩
      · by_cases e : i = s
        · subst e
          refine Or.inr ⟨_, c16, _, rfl, fun j j1 j2 => ?_⟩
          rw [rz_vup a0 (by omega) j1 (by omega)]
          show _ = if _ then _ else _
          rw [s11]
          by_cases ej : j = a
          · subst ej
            rw [if_pos rfl, if_pos rfl, if_neg (by decide)]
            exact congrArg some adn.symm
          · rw [if_neg ej, if_neg (show ¬ 8 * i + j = 8 * i + a by omega), q2 j j1 j2]
            by_cases e0 : S 11 (8 * i + j) = 0
            · rw [if_pos e0, if_pos e0]
            · rw [if_neg e0, if_neg e0, had 19 _ (rz_la cs.1 (by omega) j1 (by omega) e0)]
        · exact Or.inl ⟨ag 16 i k (Or.inr e), fun j j1 j2 => ⟨by rw [s11, if_neg (by omega)], fun _ => rfl⟩⟩
      · have kn : ¬ i = 8 * s + a := fun e => k.2.2 (by rw [e]; exact ca)
        exact Or.inl ⟨ag 19 i k (Or.inl (by decide)), by rw [s12, if_neg kn], by rw [s13, if_neg kn], by rw [s14, if_neg kn]⟩
    · intro t i ⟨t1, ei⟩
      subst ei
      subst t1
      rw [adn]
      refine ⟨by omega, by rw [cm]; omega, _, c19, ?_⟩
      show _ = _
      rw [s12, if_pos rfl, s13, if_pos rfl, s14, if_pos rfl]
    · intro t i t' i' ⟨t1, ei⟩ ⟨t3, ei'⟩ e
      exact ⟨by omega, by omega⟩
    · exact cs' q (h.2.2 q hq) (fun e => l14.2 (e ▸ hq)) (fun e => l16.2 (e ▸ hq))
    · rw [hcnt] at hans
      rw [← hans]
      rw [σE]
      have l14' := l14.1

      show mb_Rn d 50 0 [some (.ref (ad 0 0)), some (.int (iI s)), some (.int (iI a)), some (.int (iI v)), some (.int (iI f)), some (.int (iI g)), none] [] σ Q = _
      repeat' (first | (simp (config := {maxSteps := 1000000}) (disch := first | assumption | omega | exact Nat.le_of_ble_eq_true rfl | (intro _; first | rfl | simp (disch := decide) only [pz_su_t])) only [sX7_cast_0, sX7_cast_0n, sX7_cast_1, sX7_cast_2, sX7_cast_5, sX7_cast_5n, sX7_cast_7, sX7_cast_7n, sX7_cast_9, sX7_cast_9n, sX7_cast_12, sX7_cast_12n, sX7_cast_13, sX7_cast_14, sX7_cast_15, sX7_cast_18, sX7_cast_18n, sX7_cast_21, sX7_cast_31, sX7_cast_33, sX7_cast_39, sX7_cast_41, sX7_cast_46, sX7_cast_48, sX7_cast_54, sX7_cast_64, sX7_cast_64n, sX7_cast_66, sX7_cast_67, sX7_cast_68, sX7_cast_70, sX7_cast_72, sX7_cast_75, sX7_cast_75n, sX7_cast_77, sX7_cast_80, pz_add, pz_mul, pz_neg, pz_sub, pz_lt, pz_le, pz_eq, pz_b0, pz_b1, pz_bb, pz_ix, Int.sub_zero, Int.zero_add, Int.add_zero, Int.mul_zero, mb_qk, mb_qx, if_true, if_false, true_or, or_true, false_or, or_false, and_true, true_and, and_false, false_and, not_true_eq_false, not_false_eq_true, ite_self, List.lookup, List.length_cons, List.length_nil, ite_not, Nat.reduceAdd, Int.reduceEq, Int.reduceLT, Int.reduceLE, pz_n0, pz_n1, pz_n2, pz_n3, pz_n4, pz_n5, pz_n6, pz_n7, pz_n8, pz_n10, pz_n12, pz_n39, pz_n40, pz_n80, pz_n99, pz_n100, pz_n999, pz_nm1, pz_nm999, hsa, hro, pz_gf e0, pz_gf eS, pc_canBeShown, pz_bt x1, pz_bt x2, hset, gu_gf, gu_gi, gu_gq, gu_gfe, gu_gie, gu_gqe, List.set_cons_zero, List.set_cons_succ, Nat.reduceLT, Nat.reduceLeDiff, List.getD_cons_zero, List.getD_cons_succ]) | (simp (disch := first | assumption | omega | exact Nat.le_of_ble_eq_true rfl | (intro _; first | rfl | simp (disch := decide) only [pz_su_t])) only [sX7_cast_36, sX7_cast_43, sX7_cast_51, pz_add, pz_mul, pz_neg, pz_sub, pz_lt, pz_le, pz_eq, pz_b0, pz_b1, pz_bb, pz_ix, Int.sub_zero, Int.zero_add, Int.add_zero, Int.mul_zero, mb_qk, mb_qx, if_true, if_false, true_or, or_true, false_or, or_false, and_true, true_and, and_false, false_and, not_true_eq_false, not_false_eq_true, ite_self, List.lookup, List.length_cons, List.length_nil, ite_not, Nat.reduceAdd, Int.reduceEq, Int.reduceLT, Int.reduceLE, pz_n0, pz_n1, pz_n2, pz_n3, pz_n4, pz_n5, pz_n6, pz_n7, pz_n8, pz_n10, pz_n12, pz_n39, pz_n40, pz_n80, pz_n99, pz_n100, pz_n999, pz_nm1, pz_nm999]; first | split | skip) | split)
      all_goals first | rfl | omega | ((try unfold pz_b); (repeat' split) <;> first | rfl | omega | (simp_all only []; done) | (exfalso; simp_all only [not_true_eq_false, not_false_eq_true]; omega) | skip)

  · rw [if_neg ca] at q3
    have lc : rz_lv S 19 (8 * s + a) := rz_la cs.1 (by omega) a0 a8 ca
    have eC := rz_geq h (t := 19) lc (fun _ k => k)
    have hset := fun d Q => wc_setC1 (v := v) (f := f) (g := g) eS q1 q3 eC a0 a8 d Q
    have w11 := pw_11 hW (8 * s + a)
    have s11' : (pz_cst S (8 * s + a) v f g) 11 = S 11 := funext (fun x => by
      rw [s11]
      by_cases e : x = 8 * s + a
      · rw [if_pos e, e]; omega
      · rw [if_neg e])
    obtain ⟨σ2, σE⟩ : ∃ σ2 : mb_S, σ2 = mb_up σ (ad 19 (8 * s + a)) (.inr (1, [.int (iI v), .int (iI f), .int (iI g)])) := ⟨_, rfl⟩
    have c19 : σ2.1 (ad 19 (8 * s + a)) = some (.inr (1, [.int (iI v), .int (iI f), .int (iI g)])) := by rw [σE]; exact gu_ae
    have cm : σ2.2 = σ.2 := by rw [σE]; rfl
    have cs' : ∀ q, q ≠ ad 19 (8 * s + a) → σ2.1 q = σ.1 q := fun q q0 => by rw [σE, gu_at q0]
    have hS3 : ∀ x, x ∉ [12, 13, 14] → (pz_cst S (8 * s + a) v f g) x = S x := fun x hx => by
      by_cases e : x = 11
      · rw [e]; exact s11'
      · exact hS' x (fun g => hx (by revert g; simp; omega))
    have c14 : σ2.1 (ad 14 s) = _ := (cs' _ (rz_ne h (t := 14) ls lc (by omega))).trans eS
    refine ⟨σ2, ad, rfl, rz_w2 h (by rw [cm]; exact Nat.le_refl _) [12, 13, 14] [19] hS3 (fun t i => rz_lvs (fun x hx => hS3 x (by revert x; decide)) t) (rz_tag (by decide) (by decide) (by decide) (by decide) (by decide) (by decide) (by decide) (by decide) (by decide) (by decide) (by decide) (by decide) (by decide) (by decide) (by decide) (by decide) (by decide) (by decide) (by decide) (by decide) (by decide) (fun t _ x hx => absurd hx (by simp [rz_ds]))) (fun t i hl hm => cs' _ (rz_ne h hl lc (fun g => hm (by rw [g.1]; decide)))) (fun t i hm k' k => ?_), ⟨fun q hq => cs' q (fun e => (h.1 19 _ lc).2.2 (e ▸ hq)), by rw [cm]; omega, by rw [cm]; omega, by rw [cm]; omega⟩, fun d Q hd => ?_⟩
    · simp only [List.mem_cons, List.not_mem_nil, or_false] at hm
      subst hm
      by_cases e : i = 8 * s + a
      · subst e
        refine Or.inr ⟨_, c19, ?_⟩
        show _ = _
        rw [s12, if_pos rfl, s13, if_pos rfl, s14, if_pos rfl]
      · exact Or.inl ⟨cs' _ (rz_ne h k lc (fun g => e g.2)), by rw [s12, if_neg e], by rw [s13, if_neg e], by rw [s14, if_neg e]⟩
    · have hcnt : pz_sm (fun a_1 => pz_ca (pz_cst S (8 * s + a) v f g) a_1 s) 0 8 = pz_sm (fun a_1 => pz_ca S a_1 s) 0 8 := pz_sm_congr _ _ (fun j j1 j2 => by
        show pz_b (¬ (pz_cst S (8 * s + a) v f g) 11 (8 * s + j) = 0) = pz_b (¬ S 11 (8 * s + j) = 0)
        rw [s11'])
      rw [hcnt] at hans
      rw [← hans]

      show mb_Rn d 50 0 [some (.ref (ad 0 0)), some (.int (iI s)), some (.int (iI a)), some (.int (iI v)), some (.int (iI f)), some (.int (iI g)), none] [] σ Q = _
      repeat' (first | (simp (config := {maxSteps := 1000000}) (disch := first | assumption | omega | exact Nat.le_of_ble_eq_true rfl | (intro _; first | rfl | simp (disch := decide) only [pz_su_t])) only [sX7_cast_0, sX7_cast_0n, sX7_cast_1, sX7_cast_2, sX7_cast_5, sX7_cast_5n, sX7_cast_7, sX7_cast_7n, sX7_cast_9, sX7_cast_9n, sX7_cast_12, sX7_cast_12n, sX7_cast_13, sX7_cast_14, sX7_cast_15, sX7_cast_18, sX7_cast_18n, sX7_cast_21, sX7_cast_31, sX7_cast_33, sX7_cast_39, sX7_cast_41, sX7_cast_46, sX7_cast_48, sX7_cast_54, sX7_cast_64, sX7_cast_64n, sX7_cast_66, sX7_cast_67, sX7_cast_68, sX7_cast_70, sX7_cast_72, sX7_cast_75, sX7_cast_75n, sX7_cast_77, sX7_cast_80, pz_add, pz_mul, pz_neg, pz_sub, pz_lt, pz_le, pz_eq, pz_b0, pz_b1, pz_bb, pz_ix, Int.sub_zero, Int.zero_add, Int.add_zero, Int.mul_zero, mb_qk, mb_qx, if_true, if_false, true_or, or_true, false_or, or_false, and_true, true_and, and_false, false_and, not_true_eq_false, not_false_eq_true, ite_self, List.lookup, List.length_cons, List.length_nil, ite_not, Nat.reduceAdd, Int.reduceEq, Int.reduceLT, Int.reduceLE, pz_n0, pz_n1, pz_n2, pz_n3, pz_n4, pz_n5, pz_n6, pz_n7, pz_n8, pz_n10, pz_n12, pz_n39, pz_n40, pz_n80, pz_n99, pz_n100, pz_n999, pz_nm1, pz_nm999, hsa, hro, pz_gf e0, pz_gf eS, pc_canBeShown, pz_bt x1, pz_bt x2, hset, ← σE, pz_gf c14, List.getD_cons_zero, List.getD_cons_succ]) | (simp (disch := first | assumption | omega | exact Nat.le_of_ble_eq_true rfl | (intro _; first | rfl | simp (disch := decide) only [pz_su_t])) only [sX7_cast_36, sX7_cast_43, sX7_cast_51, pz_add, pz_mul, pz_neg, pz_sub, pz_lt, pz_le, pz_eq, pz_b0, pz_b1, pz_bb, pz_ix, Int.sub_zero, Int.zero_add, Int.add_zero, Int.mul_zero, mb_qk, mb_qx, if_true, if_false, true_or, or_true, false_or, or_false, and_true, true_and, and_false, false_and, not_true_eq_false, not_false_eq_true, ite_self, List.lookup, List.length_cons, List.length_nil, ite_not, Nat.reduceAdd, Int.reduceEq, Int.reduceLT, Int.reduceLE, pz_n0, pz_n1, pz_n2, pz_n3, pz_n4, pz_n5, pz_n6, pz_n7, pz_n8, pz_n10, pz_n12, pz_n39, pz_n40, pz_n80, pz_n99, pz_n100, pz_n999, pz_nm1, pz_nm999]; first | split | skip) | split)
      all_goals first | rfl | omega | ((try unfold pz_b); (repeat' split) <;> first | rfl | omega | (simp_all only []; done) | (exfalso; simp_all only [not_true_eq_false, not_false_eq_true]; omega) | skip)

end
