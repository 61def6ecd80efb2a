/-! publish of the class -/
section
variable {σ σ' : mb_S} {S S' : pz_S} {ad ad' : rz_A} {Fo : Nat → Prop}
theorem rz_vi_Rg {σ0 : mb_S} {a : Int} {T s0 : Nat} (hW : pz_W S) (hJ : rz_J S) (ha0 : 0 ≤ a) (ha1 : a < 8) (h12 : S 2 a < 12) (h : rz_vi σ0 S a T s0 (S 3 a) σ) : pz_Rg σ (pz_pub S a) (8 + 12 * a + S 2 a) T (T + 1) (T + 2) .null (fun b => (T + 3 + 4 * b.toNat, T + 3 + 4 * b.toNat + 1, T + 3 + 4 * b.toNat + 2, T + 3 + 4 * b.toNat + 3)) := by
  have w2 := pw_2 hW a
  have w3 := pw_3 hW a
  have z3 := hJ.1.2 a (S 2 a) ha0 ha1 (Int.le_refl _) h12
  obtain ⟨k0, k1, ⟨t1, k2, k3⟩, ⟨t2, k4, k5⟩, k6, k7, k8⟩ := h
  have e3 : pz_pub S a 3 (8 + 12 * a + S 2 a) = S 3 a := by rw [rz_pub_3, if_pos rfl]
  refine ⟨by rw [e3]; exact k1, ⟨t1, k2, fun j j0 j1 => ?_⟩, t2, k4, fun b b0 b1 => ?_⟩
  · rw [k3 j j0 j1]
    refine congrArg iI ?_
    show (if j < S 3 a then S 4 (10 * a + j) else 0) = pz_pub S a 4 (10 * (8 + 12 * a + S 2 a) + j)
    rw [rz_pub_4 hW ha0 ha1]
    by_cases c : j < S 3 a
    · rw [if_pos c, if_pos (by omega)]; exact congrArg (S 4) (by omega)
    · rw [if_neg c, if_neg (by omega)]
      exact (hJ.2.1 (8 + 12 * a + S 2 a) j (by omega) (by omega) (by rw [z3]; exact j0) (by omega)).1.symm
  · rw [e3] at b1
    refine ⟨k5 b b0 b1, ?_⟩
    obtain ⟨c0, ⟨g1, c1, c2⟩, ⟨g2, c3, c4⟩, ⟨g3, c5, c6⟩⟩ := k6 b b0 b1
    have e5 : pz_pub S a 5 (10 * (8 + 12 * a + S 2 a) + b) = S 5 (10 * a + b) := by
      rw [rz_pub_5 hW ha0 ha1, if_pos (by omega)]; exact congrArg (S 5) (by omega)
    refine ⟨by rw [e5]; exact c0, ⟨g1, c1, fun j j0 j1 => ?_⟩, ⟨g2, c3, fun j j0 j1 => ?_⟩, ⟨g3, c5, fun j j0 j1 => ?_⟩⟩
    · exact (c2 j j0 j1).trans (congrArg iI (rz_pub_6 hW hJ ha0 ha1 h12 b0 b1 j0 (by omega)).symm)
    · exact (c4 j j0 j1).trans (congrArg iI (rz_pub_7 hW hJ ha0 ha1 h12 b0 b1 j0 (by omega)).symm)
    · exact (c6 j j0 j1).trans (congrArg iI (rz_pub_8 hW hJ ha0 ha1 h12 b0 b1 j0 (by omega)).symm)
set_option maxRecDepth 20000 in
set_option maxHeartbeats 4000000 in
theorem wc_ver {a : Int} {p pp pc : Nat} {pv : Value} {ac : Int → Nat × Nat × Nat × Nat} (hW : pz_W S) (hV : pz_V S) (hJ : rz_J S) (ha0 : 0 ≤ a) (ha1 : a < 8) (h12 : S 2 a < 12) (hR : pz_Rg σ S a p pp pc pv ac) (l1 : p < σ.2.1) (l2 : pp < σ.2.1) (l3 : pc < σ.2.1) (l4 : ∀ b, 0 ≤ b → b < S 3 a → (ac b).1 < σ.2.1 ∧ (ac b).2.1 < σ.2.1 ∧ (ac b).2.2.1 < σ.2.1 ∧ (ac b).2.2.2 < σ.2.1) : ∃ σ', pz_Rg σ' (pz_pub S a) (8 + 12 * a + S 2 a) σ.2.1 (σ.2.1 + 1) (σ.2.1 + 2) (.ref (σ.2.1 + 3 + 4 * (S 3 a).toNat)) (fun b => (σ.2.1 + 3 + 4 * b.toNat, σ.2.1 + 3 + 4 * b.toNat + 1, σ.2.1 + 3 + 4 * b.toNat + 2, σ.2.1 + 3 + 4 * b.toNat + 3)) ∧ pz_Tb σ' (pz_pub S a) (8 + 12 * a + S 2 a) (σ.2.1 + 3 + 4 * (S 3 a).toNat) ∧ (∀ q, q < σ.2.1 → σ'.1 q = σ.1 q) ∧ (σ'.2.1 = σ.2.1 + 4 + 4 * (S 3 a).toNat ∧ σ'.2.2 ≤ σ.2.2 + 824) ∧ ∀ (d : Nat) (Q : mb_O → mb_S → Prop), 5 ≤ d → mb_Ex d 30 [.ref p] σ Q = Q (.inl (some (.ref σ.2.1))) σ' := by
  have w2 := pw_2 hW a
  have w3 := pw_3 hW a
  obtain ⟨σ1, a1, ⟨a2, a3⟩, a4, ⟨a5, a6⟩, a7⟩ := wc_initRg (σ := mb_al σ (.inr (5, [.null, .null, .int 0, .null])) 4) (c := σ.2.1) (if_pos rfl) (by simp only [ga_n]; omega)
  simp only [ga_n, ga_m, Nat.add_assoc, Nat.reduceAdd] at a1 a2 a3 a4 a5 a6
  have hI0 : rz_vi σ S a σ.2.1 (σ.2.2 + 24) 0 σ1 := ⟨fun q hq => by rw [a4 q (by omega) (by omega), ga_at (by omega)], a1, ⟨_, a2, fun j j0 j1 => by
    show (0 : Int32) = iI (if j < 0 then S 4 (10 * a + j) else 0)
    rw [if_neg (by omega)]; rfl⟩, ⟨_, a3, fun j j0 j1 => by omega⟩, fun j j0 j1 => by omega, by rw [a5]; rfl, by rw [a6]; rfl⟩
  obtain ⟨σ2, b1, b2⟩ := wl_ver (s0 := σ.2.2 + 24) hW hR l1 l2 l3 l4 (S 3 a).toNat 0 σ1 hI0 (by omega) (by omega)
  have hRg := rz_vi_Rg hW hJ ha0 ha1 h12 b1
  obtain ⟨k0, k1, k2, k4, k6, k7, k8⟩ := b1
  have e3 : pz_pub S a 3 (8 + 12 * a + S 2 a) = S 3 a := by rw [rz_pub_3, if_pos rfl]
  obtain ⟨σ3, c1, c2, c3, ⟨c4, c5⟩, c6⟩ := wc_fix (rz_W_pub hW h12) (rz_V_pub hW hV hJ ha0 ha1 h12) (show 0 ≤ (8 + 12 * a + S 2 a) by omega) (show (8 + 12 * a + S 2 a) < 104 by omega) hRg (by omega) (fun b b0 b1 => by
    rw [e3] at b1
    refine ⟨?_, ?_, ?_, ?_⟩
    · show σ.2.1 + 3 + 4 * b.toNat < _; omega
    · show σ.2.1 + 3 + 4 * b.toNat + 1 < _; omega
    · show σ.2.1 + 3 + 4 * b.toNat + 2 < _; omega
    · show σ.2.1 + 3 + 4 * b.toNat + 3 < _; omega)
  rw [k7] at c1 c2 c4
  have mvA : ∀ {x n : Nat} {F : Int → Int}, x < σ2.2.1 → x ≠ σ.2.1 → pz_Ar σ2 x n F → pz_Ar σ3 x n F := fun h1 h2 ⟨g, g1, g2⟩ => ⟨g, (c3 _ h1 h2).trans g1, g2⟩
  obtain ⟨_, h2, ⟨q, q1, q2⟩⟩ := hRg
  refine ⟨σ3, ⟨c1, mvA (by omega) (by omega) h2, q, (c3 _ (by omega) (by omega)).trans q1, fun b b0 b1 => ?_⟩, c2, fun q hq => (c3 q (by omega) (by omega)).trans (k0 q hq), ⟨by rw [c4]; omega, ?_⟩, fun d Q hd => ?_⟩
  · have q3 := q2 b b0 b1
    rw [e3] at b1
    obtain ⟨q4, q5, q6, q7, q8⟩ := q3
    refine ⟨q4, (c3 _ (show σ.2.1 + 3 + 4 * b.toNat < _ by omega) (show σ.2.1 + 3 + 4 * b.toNat ≠ _ by omega)).trans q5, mvA (show σ.2.1 + 3 + 4 * b.toNat + 1 < _ by omega) (show σ.2.1 + 3 + 4 * b.toNat + 1 ≠ _ by omega) q6, mvA (show σ.2.1 + 3 + 4 * b.toNat + 2 < _ by omega) (show σ.2.1 + 3 + 4 * b.toNat + 2 ≠ _ by omega) q7, mvA (show σ.2.1 + 3 + 4 * b.toNat + 3 < _ by omega) (show σ.2.1 + 3 + 4 * b.toNat + 3 ≠ _ by omega) q8⟩
  · rw [c5, k8, e3]; omega
  obtain ⟨lz', b3⟩ := b2 d Q none (by omega)
  have f1 := c6 (d - 1)
  have a8 := fun Q => a7 (d - 1) Q (by omega)
  have f2 := fun Q => f1 Q (by omega)
  have r6 : ∀ s l, mb_Rn d 30 9 [some (.ref p), some (.ref σ.2.1), none, l] [.int 0] s Q = mb_Rn d 30 10 [some (.ref p), some (.ref σ.2.1), some (.int (iI 0)), l] [] s Q := fun s _ => by simp only [sX5_versionOfIt_9]; rfl
  show mb_Rn d 30 0 [some (.ref p), none, none, none] [] σ Q = _
  repeat' (first | (simp (config := {maxSteps := 1000000}) (disch := first | assumption | omega | (simp only [ga_n, gu_n]; omega) | exact Nat.le_of_ble_eq_true rfl | (intro _; first | rfl | simp (disch := decide) only [pz_su_t])) only [sX5_versionOfIt_0, sX5_versionOfIt_3, sX5_versionOfIt_3i, sX5_versionOfIt_4, sX5_versionOfIt_7, sX5_versionOfIt_7n, sX5_versionOfIt_8, sX5_versionOfIt_11, sX5_versionOfIt_11n, sX5_versionOfIt_12, sX5_versionOfIt_18, sX5_versionOfIt_18n, sX5_versionOfIt_19, sX5_versionOfIt_20, sX5_versionOfIt_23, sX5_versionOfIt_23n, sX5_versionOfIt_24, sX5_versionOfIt_24n, sX5_versionOfIt_25, sX5_versionOfIt_25n, sX5_versionOfIt_28, sX5_versionOfIt_28n, sX5_versionOfIt_29, sX5_versionOfIt_29n, sX5_versionOfIt_30, sX5_versionOfIt_33, sX5_versionOfIt_34, sX5_versionOfIt_35, sX5_versionOfIt_35n, sX5_versionOfIt_36, sX5_versionOfIt_39, sX5_versionOfIt_42, sX5_versionOfIt_42i, sX5_versionOfIt_43, sX5_versionOfIt_46, sX5_versionOfIt_49, sX5_versionOfIt_49n, sX5_versionOfIt_50, sX5_versionOfIt_53, sX5_versionOfIt_53n, sX5_versionOfIt_54, sX5_versionOfIt_54n, pz_add, pz_mul, pz_neg, pz_sub, pz_lt, pz_le, pz_eq, pz_b0, pz_b1, pz_bb, pz_ix, Int.sub_zero, Int.zero_add, Int.add_zero, Int.mul_zero, mb_qk, mb_qx, if_true, if_false, true_or, or_true, false_or, or_false, and_true, true_and, and_false, false_and, not_true_eq_false, not_false_eq_true, ite_self, List.lookup, List.length_cons, List.length_nil, ite_not, Nat.reduceAdd, Int.reduceEq, Int.reduceLT, Int.reduceLE, a8, r6, b3, f2, pz_gf k1, gu_gf, gu_gi, gu_gq, gu_gfe, gu_gie, gu_gqe, List.set_cons_zero, List.set_cons_succ, Nat.reduceLT, Nat.reduceLeDiff, List.getD_cons_zero, List.getD_cons_succ]) | (simp (disch := first | assumption | omega | (simp only [ga_n, gu_n]; omega) | exact Nat.le_of_ble_eq_true rfl | (intro _; first | rfl | simp (disch := decide) only [pz_su_t])) only [sX5_versionOfIt_15, pz_add, pz_mul, pz_neg, pz_sub, pz_lt, pz_le, pz_eq, pz_b0, pz_b1, pz_bb, pz_ix, Int.sub_zero, Int.zero_add, Int.add_zero, Int.mul_zero, mb_qk, mb_qx, if_true, if_false, true_or, or_true, false_or, or_false, and_true, true_and, and_false, false_and, not_true_eq_false, not_false_eq_true, ite_self, List.lookup, List.length_cons, List.length_nil, ite_not, Nat.reduceAdd, Int.reduceEq, Int.reduceLT, Int.reduceLE]; first | split | skip) | split)
set_option maxRecDepth 20000 in
set_option maxHeartbeats 4000000 in
theorem wc_addV {p dr va T : Nat} {N : Int} {q : Nat → Option Nat} {fs : List Value} (h0 : σ.1 p = some (.inr (0, [.ref dr, .ref va, .int (iI N)]))) {fd : List Value} (hd0 : σ.1 dr = some (.inr (5, fd))) (n0 : 0 ≤ N) (n1 : N < 12) (hne : p ≠ va) (h1 : σ'.1 p = some (.inr (0, [.ref dr, .ref va, .int (iI N)]))) (h2 : σ'.1 va = some (.inl (15, 12, .inr (.inr (.inr (.inr q)))))) (h3 : σ'.1 T = some (.inr (5, fs))) (hv : ∀ (d : Nat) (Q : mb_O → mb_S → Prop), 5 ≤ d → mb_Ex d 30 [.ref dr] σ Q = Q (.inl (some (.ref T))) σ') (d : Nat) (Q : mb_O → mb_S → Prop) (hd : 6 ≤ d) : mb_Ex d 1 [.ref p] σ Q = Q (.inl (some (.int (iI (N))))) (mb_up (mb_up σ' va (.inl (15, 12, .inr (.inr (.inr (.inr (va_up q (iI N).toNatClampNeg (some T)))))))) p (.inr (0, [.ref dr, .ref va, .int (iI (N + 1))]))) := by
  show mb_Rn d 1 0 [some (.ref p)] [] σ Q = _
  repeat' (first | (simp (config := {maxSteps := 1000000}) (disch := first | assumption | omega | exact Nat.le_of_ble_eq_true rfl | (intro _; first | rfl | simp (disch := decide) only [pz_su_t])) only [sX0_addVersion_0, sX0_addVersion_0n, sX0_addVersion_1, sX0_addVersion_4, sX0_addVersion_9, sX0_addVersion_10, sX0_addVersion_11, sX0_addVersion_11n, sX0_addVersion_12, sX0_addVersion_15, sX0_addVersion_15n, sX0_addVersion_16, sX0_addVersion_19, sX0_addVersion_19n, sX0_addVersion_20, sX0_addVersion_23, sX0_addVersion_26, sX0_addVersion_27, sX0_addVersion_27n, sX0_addVersion_28, sX0_addVersion_28i, sX0_addVersion_29, sX0_addVersion_32, sX0_addVersion_33, sX0_addVersion_34, sX0_addVersion_35, sX0_addVersion_38, pz_add, pz_mul, pz_neg, pz_sub, pz_lt, pz_le, pz_eq, pz_b0, pz_b1, pz_bb, pz_ix, Int.sub_zero, Int.zero_add, Int.add_zero, Int.mul_zero, mb_qk, mb_qx, if_true, if_false, true_or, or_true, false_or, or_false, and_true, true_and, and_false, false_and, not_true_eq_false, not_false_eq_true, ite_self, List.lookup, List.length_cons, List.length_nil, ite_not, Nat.reduceAdd, Int.reduceEq, Int.reduceLT, Int.reduceLE, pz_n0, pz_n1, pz_n2, pz_n3, pz_n4, pz_n5, pz_n6, pz_n7, pz_n8, pz_n10, pz_n12, pz_n39, pz_n40, pz_n80, pz_n99, pz_n100, pz_n999, pz_nm1, pz_nm999, hv, pz_gf h0, pz_gf hd0, pz_gf h1, pz_gq h2, pz_gf h3, gu_gf, gu_gi, gu_gq, gu_gfe, gu_gie, gu_gqe, List.set_cons_zero, List.set_cons_succ, Nat.reduceLT, Nat.reduceLeDiff, List.getD_cons_zero, List.getD_cons_succ]) | (simp (disch := first | assumption | omega | exact Nat.le_of_ble_eq_true rfl | (intro _; first | rfl | simp (disch := decide) only [pz_su_t])) only [sX0_addVersion_6, pz_add, pz_mul, pz_neg, pz_sub, pz_lt, pz_le, pz_eq, pz_b0, pz_b1, pz_bb, pz_ix, Int.sub_zero, Int.zero_add, Int.add_zero, Int.mul_zero, mb_qk, mb_qx, if_true, if_false, true_or, or_true, false_or, or_false, and_true, true_and, and_false, false_and, not_true_eq_false, not_false_eq_true, ite_self, List.lookup, List.length_cons, List.length_nil, ite_not, Nat.reduceAdd, Int.reduceEq, Int.reduceLT, Int.reduceLE, pz_n0, pz_n1, pz_n2, pz_n3, pz_n4, pz_n5, pz_n6, pz_n7, pz_n8, pz_n10, pz_n12, pz_n39, pz_n40, pz_n80, pz_n99, pz_n100, pz_n999, pz_nm1, pz_nm999]; first | split | skip) | split)
  all_goals first | rfl | omega | ((try unfold pz_b); (repeat' split) <;> first | rfl | omega | (simp_all only []; done) | (exfalso; simp_all only [not_true_eq_false, not_false_eq_true]; omega) | skip)
set_option maxRecDepth 20000 in
set_option maxHeartbeats 4000000 in
theorem fc_publish1 {a : Int} (hW : pz_W S) (h : rz_R σ S ad Fo) (ha1 : -2147483648 ≤ a) (ha2 : a ≤ 2147483647) (c : ¬ (0 ≤ a ∧ a ≤ S 1 0 - 1)) : ∀ (d : Nat) (Q : mb_O → mb_S → Prop), 9 ≤ d → mb_Ex d 45 [.ref (ad 0 0), .int (iI a)] σ Q = Q (.inr 2) (mb_th σ) := by
  have hat : ∀ (d : Nat) (Q : mb_O → mb_S → Prop), mb_Ex d 62 [.ref (ad 0 0), .int (iI a)] σ Q = Q (.inl (some .null)) σ := fun d Q => (pc_assetAt hW (rz_C hW h) ha1 ha2).trans (if_neg c)
  have e0 := rz_geq h (t := 0) (i := 0) rfl (fun _ k => k)
  intro d Q hd
  show mb_Rn d 45 0 [some (.ref (ad 0 0)), some (.int (iI a)), none] [] σ Q = _
  repeat' (first | (simp (config := {maxSteps := 1000000}) (disch := first | assumption | omega | exact Nat.le_of_ble_eq_true rfl | (intro _; first | rfl | simp (disch := decide) only [pz_su_t])) only [sX7_publish_0, sX7_publish_0n, sX7_publish_1, sX7_publish_2, sX7_publish_5, sX7_publish_5n, sX7_publish_6, sX7_publish_6n, sX7_publish_7, sX7_publish_7n, sX7_publish_10, sX7_publish_20, sX7_publish_20n, sX7_publish_21, sX7_publish_24, sX7_publish_29, sX7_publish_29n, sX7_publish_30, sX7_publish_33, sX7_publish_39, sX7_publish_49, sX7_publish_49n, sX7_publish_50, sX7_publish_53, pz_add, pz_mul, pz_neg, pz_sub, pz_lt, pz_le, pz_eq, pz_b0, pz_b1, pz_bb, pz_ix, Int.sub_zero, Int.zero_add, Int.add_zero, Int.mul_zero, mb_qk, mb_qx, if_true, if_false, true_or, or_true, false_or, or_false, and_true, true_and, and_false, false_and, not_true_eq_false, not_false_eq_true, ite_self, List.lookup, List.length_cons, List.length_nil, ite_not, Nat.reduceAdd, Int.reduceEq, Int.reduceLT, Int.reduceLE, pz_n0, pz_n1, pz_n2, pz_n3, pz_n4, pz_n5, pz_n6, pz_n7, pz_n8, pz_n10, pz_n12, pz_n39, pz_n40, pz_n80, pz_n99, pz_n100, pz_n999, pz_nm1, pz_nm999, hat, pz_gf e0]) | (simp (disch := first | assumption | omega | exact Nat.le_of_ble_eq_true rfl | (intro _; first | rfl | simp (disch := decide) only [pz_su_t])) only [sX7_publish_26, sX7_publish_36, pz_add, pz_mul, pz_neg, pz_sub, pz_lt, pz_le, pz_eq, pz_b0, pz_b1, pz_bb, pz_ix, Int.sub_zero, Int.zero_add, Int.add_zero, Int.mul_zero, mb_qk, mb_qx, if_true, if_false, true_or, or_true, false_or, or_false, and_true, true_and, and_false, false_and, not_true_eq_false, not_false_eq_true, ite_self, List.lookup, List.length_cons, List.length_nil, ite_not, Nat.reduceAdd, Int.reduceEq, Int.reduceLT, Int.reduceLE, pz_n0, pz_n1, pz_n2, pz_n3, pz_n4, pz_n5, pz_n6, pz_n7, pz_n8, pz_n10, pz_n12, pz_n39, pz_n40, pz_n80, pz_n99, pz_n100, pz_n999, pz_nm1, pz_nm999]; first | split | skip) | split)
  all_goals first | rfl | omega | ((try unfold pz_b); (repeat' split) <;> first | rfl | omega | (simp_all only []; done) | (exfalso; simp_all only [not_true_eq_false, not_false_eq_true]; omega) | skip)
set_option maxRecDepth 20000 in
set_option maxHeartbeats 4000000 in
theorem fc_publish2 {a : Int} (hW : pz_W S) (h : rz_R σ S ad Fo) (ha1 : -2147483648 ≤ a) (ha2 : a ≤ 2147483647) (c : 0 ≤ a ∧ a ≤ S 1 0 - 1) (c2 : S 2 a = 12 ∨ S 3 a = 0) : ∀ (d : Nat) (Q : mb_O → mb_S → Prop), 9 ≤ d → mb_Ex d 45 [.ref (ad 0 0), .int (iI a)] σ Q = Q (.inr 0) (mb_th σ) := by
  have hat : ∀ (d : Nat) (Q : mb_O → mb_S → Prop), mb_Ex d 62 [.ref (ad 0 0), .int (iI a)] σ Q = Q (.inl (some (.ref (ad 4 a)))) σ := fun d Q => (pc_assetAt hW (rz_C hW h) ha1 ha2).trans (if_pos c)
  have e0 := rz_geq h (t := 0) (i := 0) rfl (fun _ k => k)
  have la : rz_lv S 4 a := ⟨c.1, by omega⟩
  have hA := rz_As hW h c.1 (show a < S 1 0 by omega)
  have eA := hA.1
  have hR := hA.2.1
  have eR := hR.1
  have w2 := pw_2 hW a
  have w3 := pw_3 hW a
  intro d Q hd
  show mb_Rn d 45 0 [some (.ref (ad 0 0)), some (.int (iI a)), none] [] σ Q = _
  repeat' (first | (simp (config := {maxSteps := 1000000}) (disch := first | assumption | omega | exact Nat.le_of_ble_eq_true rfl | (intro _; first | rfl | simp (disch := decide) only [pz_su_t])) only [sX7_publish_0, sX7_publish_0n, sX7_publish_1, sX7_publish_2, sX7_publish_5, sX7_publish_5n, sX7_publish_6, sX7_publish_6n, sX7_publish_7, sX7_publish_7n, sX7_publish_10, sX7_publish_20, sX7_publish_20n, sX7_publish_21, sX7_publish_24, sX7_publish_29, sX7_publish_29n, sX7_publish_30, sX7_publish_33, sX7_publish_39, sX7_publish_49, sX7_publish_49n, sX7_publish_50, sX7_publish_53, pz_add, pz_mul, pz_neg, pz_sub, pz_lt, pz_le, pz_eq, pz_b0, pz_b1, pz_bb, pz_ix, Int.sub_zero, Int.zero_add, Int.add_zero, Int.mul_zero, mb_qk, mb_qx, if_true, if_false, true_or, or_true, false_or, or_false, and_true, true_and, and_false, false_and, not_true_eq_false, not_false_eq_true, ite_self, List.lookup, List.length_cons, List.length_nil, ite_not, Nat.reduceAdd, Int.reduceEq, Int.reduceLT, Int.reduceLE, pz_n0, pz_n1, pz_n2, pz_n3, pz_n4, pz_n5, pz_n6, pz_n7, pz_n8, pz_n10, pz_n12, pz_n39, pz_n40, pz_n80, pz_n99, pz_n100, pz_n999, pz_nm1, pz_nm999, hat, pz_gf e0, pz_gf eA, pz_gf eR, List.getD_cons_zero, List.getD_cons_succ]) | (simp (disch := first | assumption | omega | exact Nat.le_of_ble_eq_true rfl | (intro _; first | rfl | simp (disch := decide) only [pz_su_t])) only [sX7_publish_26, sX7_publish_36, pz_add, pz_mul, pz_neg, pz_sub, pz_lt, pz_le, pz_eq, pz_b0, pz_b1, pz_bb, pz_ix, Int.sub_zero, Int.zero_add, Int.add_zero, Int.mul_zero, mb_qk, mb_qx, if_true, if_false, true_or, or_true, false_or, or_false, and_true, true_and, and_false, false_and, not_true_eq_false, not_false_eq_true, ite_self, List.lookup, List.length_cons, List.length_nil, ite_not, Nat.reduceAdd, Int.reduceEq, Int.reduceLT, Int.reduceLE, pz_n0, pz_n1, pz_n2, pz_n3, pz_n4, pz_n5, pz_n6, pz_n7, pz_n8, pz_n10, pz_n12, pz_n39, pz_n40, pz_n80, pz_n99, pz_n100, pz_n999, pz_nm1, pz_nm999]; first | split | skip) | split)
  all_goals first | rfl | omega | ((try unfold pz_b); (repeat' split) <;> first | rfl | omega | (simp_all only []; done) | (exfalso; simp_all only [not_true_eq_false, not_false_eq_true]; omega) | skip)
set_option maxRecDepth 20000 in
set_option maxHeartbeats 4000000 in
theorem fc_publish {a : Int} (hW : pz_W S) (h : rz_R σ S ad Fo) (ha1 : -2147483648 ≤ a) (ha2 : a ≤ 2147483647) (hV : pz_V S) (hJ : rz_J S) (c : 0 ≤ a ∧ a ≤ S 1 0 - 1) (c2 : ¬ (S 2 a = 12 ∨ S 3 a = 0)) : ∃ σ' ad', ad' 0 0 = ad 0 0 ∧ rz_R σ' (pz_pub S a) ad' Fo ∧ rz_F Fo σ σ' ∧ ∀ (d : Nat) (Q : mb_O → mb_S → Prop), 9 ≤ d → mb_Ex d 45 [.ref (ad 0 0), .int (iI a)] σ Q = Q (.inl (some (.int (iI (S 2 a))))) σ' := by
  have hat : ∀ (d : Nat) (Q : mb_O → mb_S → Prop), mb_Ex d 62 [.ref (ad 0 0), .int (iI a)] σ Q = Q (.inl (some (.ref (ad 4 a)))) σ := fun d Q => (pc_assetAt hW (rz_C hW h) ha1 ha2).trans (if_pos c)
  have e0 := rz_geq h (t := 0) (i := 0) rfl (fun _ k => k)
  have la : rz_lv S 4 a := ⟨c.1, by omega⟩
  have hA := rz_As hW h c.1 (show a < S 1 0 by omega)
  have eA := hA.1
  have hR := hA.2.1
  have eR := hR.1
  have w1 := pw_1 hW 0
  have w2 := pw_2 hW a
  have w3 := pw_3 hW a
  have h12 : S 2 a < 12 := by omega
  have ha8 : a < 8 := by omega
  have hrl0 := rz_rlD hW c.1 (show a < S 1 0 by omega)
  have la5 : rz_lv S 5 a := ⟨c.1, by omega⟩
  have n45 : ad 4 a ≠ ad 5 a := rz_ne h (t := 4) (t' := 5) la la5 (by omega)
  have l4 := (h.1 4 a la).2
  have l5 := (h.1 5 a la5).2
  obtain ⟨q, q1, q2⟩ := rz_gaq h (t := 5) (i := a) la5 (fun _ k => k)
  obtain ⟨σ3, a1, a2, a3, ⟨a4, a5⟩, a6⟩ := wc_ver hW hV hJ c.1 ha8 h12 hR (h.1 6 a hrl0).2.1 (h.1 7 a hrl0).2.1 (h.1 8 a hrl0).2.1 (fun b b0 b1 => by
    have lc := rz_lc hW hrl0 b0 b1
    exact ⟨(h.1 10 _ lc).2.1, (h.1 11 _ lc).2.1, (h.1 12 _ lc).2.1, (h.1 13 _ lc).2.1⟩)
  have f4 := (a3 _ l4.1).trans eA
  have f5 := (a3 _ l5.1).trans q1
  obtain ⟨g0, g7, ⟨qq, g8, g10⟩⟩ := a1
  have hadd := fun d Q hd => wc_addV eA eR w2.1 h12 n45 f4 f5 g0 a6 d Q hd
  obtain ⟨σ4, σE⟩ : ∃ σ4 : mb_S, σ4 = mb_up (mb_up σ3 (ad 5 a) ((.inl (15, 12, .inr (.inr (.inr (.inr (va_up q (iI (S 2 a)).toNatClampNeg (some σ.2.1))))))))) (ad 4 a) ((.inr (0, [.ref (ad 6 a), .ref (ad 5 a), .int (iI (S 2 a + 1))]))) := ⟨_, rfl⟩
  have c4 : σ4.1 (ad 4 a) = some (.inr (0, [.ref (ad 6 a), .ref (ad 5 a), .int (iI (S 2 a + 1))])) := by rw [σE]; exact gu_ae
  have c5 : σ4.1 (ad 5 a) = some (.inl (15, 12, .inr (.inr (.inr (.inr (va_up q (iI (S 2 a)).toNatClampNeg (some σ.2.1))))))) := by rw [σE]; exact (gu_at n45.symm).trans gu_ae
  have cm : σ4.2 = σ3.2 := by rw [σE]; rfl
  have cs : ∀ q, q ≠ ad 4 a → q ≠ ad 5 a → σ4.1 q = σ3.1 q := fun q q0 q1 => by rw [σE, gu_at q0, gu_at q1]
  have agn : ∀ q, σ.2.1 ≤ q → σ4.1 q = σ3.1 q := fun q hq => cs q (by omega) (by omega)
  have ag : ∀ t i, rz_lv S t i → (t ∉ [4, 5] ∨ i ≠ a) → σ4.1 (ad t i) = σ.1 (ad t i) := fun t i hl k => by
    rw [cs _ (rz_ne h hl (t' := 4) la (fun g => k.elim (fun k => k (by rw [g.1]; decide)) (fun k => k g.2))) (rz_ne h hl (t' := 5) la5 (fun g => k.elim (fun k => k (by rw [g.1]; decide)) (fun k => k g.2)))]
    exact a3 _ (h.1 t i hl).2.1
  obtain ⟨ad', adE⟩ : ∃ ad' : rz_A, ad' = (fun t i => if ((6 ≤ t ∧ t ≤ 9) ∧ i = (8 + 12 * a + S 2 a)) then (if t = 9 then σ.2.1 + 3 + 4 * (S 3 a).toNat else σ.2.1 + (t - 6)) else if ((10 ≤ t ∧ t ≤ 13) ∧ 10 * (8 + 12 * a + S 2 a) ≤ i ∧ i < 10 * (8 + 12 * a + S 2 a) + S 3 a) then σ.2.1 + 3 + 4 * (i - 10 * (8 + 12 * a + S 2 a)).toNat + (t - 10) else ad t i) := ⟨_, rfl⟩
  have adn : ∀ t, 6 ≤ t → t ≤ 9 → ad' t (8 + 12 * a + S 2 a) = if t = 9 then σ.2.1 + 3 + 4 * (S 3 a).toNat else σ.2.1 + (t - 6) := fun t t1 t2 => by rw [adE]; exact if_pos ⟨⟨t1, t2⟩, rfl⟩
  have adc : ∀ t i, ((10 ≤ t ∧ t ≤ 13) ∧ 10 * (8 + 12 * a + S 2 a) ≤ i ∧ i < 10 * (8 + 12 * a + S 2 a) + S 3 a) → ad' t i = σ.2.1 + 3 + 4 * (i - 10 * (8 + 12 * a + S 2 a)).toNat + (t - 10) := fun t i k => by rw [adE]; exact (if_neg (by omega)).trans (if_pos k)
  have ado : ∀ t i, ¬ ((6 ≤ t ∧ t ≤ 9) ∧ i = (8 + 12 * a + S 2 a)) → ¬ ((10 ≤ t ∧ t ≤ 13) ∧ 10 * (8 + 12 * a + S 2 a) ≤ i ∧ i < 10 * (8 + 12 * a + S 2 a) + S 3 a) → ad' t i = ad t i := fun t i k k2 => by rw [adE]; exact (if_neg k).trans (if_neg k2)
  have nr : ¬ rz_rl S (8 + 12 * a + S 2 a) := fun ⟨k1, k2, k3, k4⟩ => by
    have k5 := (k4 (by omega)).2
    rw [show ((8 + 12 * a + S 2 a) - 8) / 12 = a by omega] at k5
    omega
  have had : ∀ t i, rz_lv S t i → ad' t i = ad t i := fun t i hl => ado t i (fun k => by
    obtain ⟨⟨k1, k2⟩, k3⟩ := k
    rcases (show t = 6 ∨ t = 7 ∨ t = 8 ∨ t = 9 by omega) with e | e | e | e <;> subst e <;> subst k3
    · exact nr hl
    · exact nr hl
    · exact nr hl
    · exact nr hl.1) (fun k => by
    obtain ⟨⟨k1, k2⟩, k3, k4⟩ := k
    have e9 : i / 10 = (8 + 12 * a + S 2 a) := by omega
    rcases (show t = 10 ∨ t = 11 ∨ t = 12 ∨ t = 13 by omega) with e | e | e | e <;> subst e <;> exact nr (e9 ▸ hl.1))
  have hS : ∀ x, x ∉ [2, 3, 4, 5, 6, 7, 8] → pz_pub S a x = S x := fun x hx => rz_pub_t (fun e => hx (by rw [e]; decide)) (fun e => hx (by rw [e]; decide)) (fun e => hx (by rw [e]; decide)) (fun e => hx (by rw [e]; decide)) (fun e => hx (by rw [e]; decide)) (fun e => hx (by rw [e]; decide)) (fun e => hx (by rw [e]; decide))
  have s2 : ∀ x, pz_pub S a 2 x = if x = a then S 2 a + 1 else S 2 x := fun x => rz_pub_2
  have s3 : ∀ x, pz_pub S a 3 x = if x = (8 + 12 * a + S 2 a) then S 3 a else S 3 x := fun x => rz_pub_3
  have hrl : ∀ x, rz_rl (pz_pub S a) x → rz_rl S x ∨ x = (8 + 12 * a + S 2 a) := fun x ⟨k1, k2, k3, k4⟩ => by
    rw [hS 1 (by decide)] at k3 k4
    by_cases e : x = (8 + 12 * a + S 2 a)
    · exact Or.inr e
    · refine Or.inl ⟨k1, k2, k3, fun k8 => ?_⟩
      have k5 := k4 k8
      rw [s2] at k5
      by_cases e2 : (x - 8) / 12 = a
      · rw [if_pos e2] at k5
        rw [e2]
        exact ⟨by omega, by omega⟩
      · rw [if_neg e2] at k5; exact k5
  have hlc : ∀ t i, 10 ≤ t → t ≤ 13 → (rz_rl (pz_pub S a) (i / 10) ∧ i % 10 < pz_pub S a 3 (i / 10)) → (rz_rl S (i / 10) ∧ i % 10 < S 3 (i / 10)) ∨ ((10 ≤ t ∧ t ≤ 13) ∧ 10 * (8 + 12 * a + S 2 a) ≤ i ∧ i < 10 * (8 + 12 * a + S 2 a) + S 3 a) := fun t i t1 t2 ⟨k1, k2⟩ => by
    rw [s3] at k2
    by_cases e : i / 10 = (8 + 12 * a + S 2 a)
    · rw [if_pos e] at k2; exact Or.inr ⟨⟨t1, t2⟩, by omega, by omega⟩
    · rw [if_neg e] at k2; exact Or.inl ⟨(hrl _ k1).resolve_right e, k2⟩
  refine ⟨σ4, ad', ado 0 0 (by omega) (by omega), rz_g2 hW h (by rw [cm]; omega) (fun t i => ((6 ≤ t ∧ t ≤ 9) ∧ i = (8 + 12 * a + S 2 a)) ∨ ((10 ≤ t ∧ t ≤ 13) ∧ 10 * (8 + 12 * a + S 2 a) ≤ i ∧ i < 10 * (8 + 12 * a + S 2 a) + S 3 a)) [2, 3, 4, 5, 6, 7, 8] [4, 5, 6, 7, 8, 9, 10, 11, 12, 13] hS had ?_ (rz_tag (by decide) (by decide) (by decide) (by decide) (by decide) (by decide) (by decide) (by decide) (by decide) (by decide) (by decide) (by decide) (by decide) (by decide) (by decide) (by decide) (by decide) (by decide) (by decide) (by decide) (by decide) (fun t _ x hx => absurd hx (by simp [rz_ds]))) (fun t i hl hm => ag t i hl (Or.inl (fun g => hm (by revert g; revert t; simp; omega)))) ?_ ?_ ?_, ⟨fun q hq => ?_, by rw [cm]; omega, by rw [cm]; omega, by rw [cm]; omega⟩, fun d Q hd => ?_⟩
  · have e1 := hS 1 (by decide)
    have e9 := hS 9 (by decide)
    have e10 := hS 10 (by decide)
    have e11 := hS 11 (by decide)
    have e21 := hS 21 (by decide)
    exact rz_tag (fun i k => Or.inl k) (fun i k => Or.inl k) (fun i k => Or.inl k) (fun i k => Or.inl k) (fun i k => Or.inl ⟨k.1, by rw [← e1]; exact k.2⟩) (fun i k => Or.inl ⟨k.1, by rw [← e1]; exact k.2⟩) (fun i k => (hrl i k).imp id (fun e => Or.inl ⟨by omega, e⟩)) (fun i k => (hrl i k).imp id (fun e => Or.inl ⟨by omega, e⟩)) (fun i k => (hrl i k).imp id (fun e => Or.inl ⟨by omega, e⟩)) (fun i k => (hrl i k.1).elim (fun g => Or.inl ⟨g, k.2⟩) (fun e => Or.inr (Or.inl ⟨by omega, e⟩))) (fun i k => (hlc 10 i (by omega) (by omega) k).imp id Or.inr) (fun i k => (hlc 11 i (by omega) (by omega) k).imp id Or.inr) (fun i k => (hlc 12 i (by omega) (by omega) k).imp id Or.inr) (fun i k => (hlc 13 i (by omega) (by omega) k).imp id Or.inr) (fun i k => Or.inl ⟨k.1, by rw [← e9]; exact k.2⟩) (fun i k => Or.inl ⟨k.1, by rw [← e9]; exact k.2⟩) (fun i k => Or.inl ⟨k.1, by rw [← e9]; exact k.2⟩) (fun i k => Or.inl ⟨k.1, by rw [← e9]; exact k.2.1, by rw [← e10]; exact k.2.2⟩) (fun i k => Or.inl ⟨k.1, by rw [← e9]; exact k.2.1, by rw [← e10]; exact k.2.2⟩) (fun i k => Or.inl ⟨k.1, by rw [← e9]; exact k.2.1, by rw [← e11]; exact k.2.2⟩) (fun i k => Or.inl ⟨k.1, by rw [← e21]; exact k.2⟩) (fun t i k => Or.inl k)
  · intro t i hm k' k
    have ni : ∀ x, rz_rl S x → x ≠ (8 + 12 * a + S 2 a) := fun x hx e => nr (e ▸ hx)
    simp only [List.mem_cons, List.not_mem_nil, or_false] at hm
    rcases hm with e | e | e | e | e | e | e | e | e | e <;> subst e
    · by_cases e : i = a
      · subst e
        refine Or.inr ⟨_, c4, ?_⟩
        show _ = _
        rw [ado 6 i (by omega) (by omega), ado 5 i (by omega) (by omega), s2, if_pos rfl]
      · exact Or.inl ⟨ag 4 i k (Or.inr e), by rw [s2, if_neg e], rfl, rfl⟩
    · by_cases e : i = a
      · subst e
        refine Or.inr ⟨_, c5, _, rfl, fun j j1 j2 => ?_⟩
        rw [s2, if_pos rfl] at j2
        rw [rz_vup w2.1 (by omega) j1 (by omega)]
        by_cases ej : j = S 2 i
        · rw [if_pos ej, ej]; exact congrArg some (adn 6 (by omega) (by omega)).symm
        · rw [if_neg ej, q2 j j1 (by omega)]
          exact congrArg some (had 6 _ (rz_rlV hW c.1 (by omega) j1 (by omega))).symm
      · exact Or.inl ⟨ag 5 i k (Or.inr e), by rw [s2, if_neg e], fun _ _ _ => rfl⟩
    · exact Or.inl ⟨ag 6 i k (Or.inl (by decide)), by rw [s3, if_neg (ni i k)], rfl, rfl, fun _ => rfl⟩
    · have := ni i k
      exact Or.inl ⟨ag 7 i k (Or.inl (by decide)), fun j j1 j2 => by rw [rz_pub_4 hW c.1 ha8, if_neg (by omega)]⟩
    · exact Or.inl ⟨ag 8 i k (Or.inl (by decide)), by rw [s3, if_neg (ni i k)], fun _ _ _ => rfl⟩
    · have w3i := pw_3 hW i
      exact Or.inl ⟨ag 9 i k (Or.inl (by decide)), by rw [s3, if_neg (ni i k.1)], fun f b f1 f2 b1 b2 => rz_po_pub hW c.1 ha8 (ni i k.1) b (by omega) (by omega)⟩
    · have := ni _ k.1
      exact Or.inl ⟨ag 10 i k (Or.inl (by decide)), by rw [rz_pub_5 hW c.1 ha8, if_neg (by omega)], rfl, rfl, rfl⟩
    · have := ni _ k.1
      exact Or.inl ⟨ag 11 i k (Or.inl (by decide)), fun j j1 j2 => rz_pub_6o hW c.1 ha8 (by omega)⟩
    · have := ni _ k.1
      exact Or.inl ⟨ag 12 i k (Or.inl (by decide)), fun j j1 j2 => rz_pub_7o hW c.1 ha8 (by omega)⟩
    · have := ni _ k.1
      exact Or.inl ⟨ag 13 i k (Or.inl (by decide)), fun j j1 j2 => rz_pub_8o hW c.1 ha8 (by omega)⟩
  · intro t i hnw
    have e3 : pz_pub S a 3 (8 + 12 * a + S 2 a) = S 3 a := by rw [s3, if_pos rfl]
    rw [e3] at g0 g10
    rcases hnw with ⟨⟨t1, t2⟩, ei⟩ | kf
    · subst ei
      have q7 : ad' 7 (8 + 12 * a + S 2 a) = σ.2.1 + 1 := adn 7 (by omega) (by omega)
      have q8 : ad' 8 (8 + 12 * a + S 2 a) = σ.2.1 + 2 := adn 8 (by omega) (by omega)
      have q9 : ad' 9 (8 + 12 * a + S 2 a) = σ.2.1 + 3 + 4 * (S 3 a).toNat := adn 9 (by omega) (by omega)
      rcases (show t = 6 ∨ t = 7 ∨ t = 8 ∨ t = 9 by omega) with e | e | e | e <;> subst e
      · have en : ad' 6 (8 + 12 * a + S 2 a) = σ.2.1 := adn 6 (by omega) (by omega)
        rw [en]
        refine ⟨by omega, by rw [cm]; omega, _, (agn _ (by omega)).trans g0, ?_⟩
        show _ = _
        rw [q7, q8, q9, e3, if_neg (by omega)]
      · rw [q7]
        refine ⟨by omega, by rw [cm]; omega, ?_⟩
        obtain ⟨g, g1, g2⟩ := g7
        exact ⟨_, (agn _ (by omega)).trans g1, g, rfl, g2⟩
      · rw [q8]
        refine ⟨by omega, by rw [cm]; omega, _, (agn _ (by omega)).trans g8, qq, rfl, fun j j1 j2 => ?_⟩
        rw [e3] at j2
        rw [(g10 j j1 j2).1]
        refine congrArg some ?_
        rw [adc 10 _ (by omega)]
        show σ.2.1 + 3 + 4 * j.toNat = _
        omega
      · rw [q9]
        refine ⟨by omega, by rw [cm]; omega, ?_⟩
        obtain ⟨g, N, u1, u2, u3⟩ := a2
        exact ⟨_, (agn _ (by omega)).trans u1, g, N, rfl, u2, u3⟩
    · have kk := kf
      obtain ⟨⟨t1, t2⟩, i1, i2⟩ := kf
      have hcv := (g10 (i - 10 * (8 + 12 * a + S 2 a)) (by omega) (by omega)).2
      rw [show 10 * (8 + 12 * a + S 2 a) + (i - 10 * (8 + 12 * a + S 2 a)) = i by omega] at hcv
      obtain ⟨u0, ⟨x1, u1, u2⟩, ⟨x2, u3, u4⟩, ⟨x3, u5, u6⟩⟩ := hcv
      rw [adc t i kk]
      refine ⟨by omega, by rw [cm]; omega, ?_⟩
      rcases (show t = 10 ∨ t = 11 ∨ t = 12 ∨ t = 13 by omega) with e | e | e | e <;> subst e
      · refine ⟨_, (agn _ (by omega)).trans u0, ?_⟩
        show _ = _
        rw [adc 11 i (by omega), adc 12 i (by omega), adc 13 i (by omega)]
      · exact ⟨_, (agn _ (by omega)).trans u1, x1, rfl, u2⟩
      · exact ⟨_, (agn _ (by omega)).trans u3, x2, rfl, u4⟩
      · exact ⟨_, (agn _ (by omega)).trans u5, x3, rfl, u6⟩
  · intro t i t' i' p q e
    rcases p with ⟨⟨t1, t2⟩, ei⟩ | p <;> rcases q with ⟨⟨t3, t4⟩, ei'⟩ | q
    · subst ei
      subst ei'
      rw [adn t t1 t2, adn t' t3 t4] at e
      refine ⟨?_, rfl⟩
      repeat' split at e
      all_goals omega
    · subst ei
      rw [adn t t1 t2, adc t' i' q] at e
      split at e <;> omega
    · subst ei'
      rw [adc t i p, adn t' t3 t4] at e
      split at e <;> omega
    · rw [adc t i p, adc t' i' q] at e
      omega
  · have := h.2.2 q hq
    rw [cs q (fun (e : q = ad 4 a) => l4.2 (e ▸ hq)) (fun (e : q = ad 5 a) => l5.2 (e ▸ hq))]
    exact a3 q this
  show mb_Rn d 45 0 [some (.ref (ad 0 0)), some (.int (iI a)), none] [] σ Q = _
  rw [σE]
  have hadd' := fun Q => hadd (d - 1) Q (by omega)
  repeat' (first | (simp (config := {maxSteps := 1000000}) (disch := first | assumption | omega | exact Nat.le_of_ble_eq_true rfl | (intro _; first | rfl | simp (disch := decide) only [pz_su_t])) only [sX7_publish_0, sX7_publish_0n, sX7_publish_1, sX7_publish_2, sX7_publish_5, sX7_publish_5n, sX7_publish_6, sX7_publish_6n, sX7_publish_7, sX7_publish_7n, sX7_publish_10, sX7_publish_20, sX7_publish_20n, sX7_publish_21, sX7_publish_24, sX7_publish_29, sX7_publish_29n, sX7_publish_30, sX7_publish_33, sX7_publish_39, sX7_publish_49, sX7_publish_49n, sX7_publish_50, sX7_publish_53, pz_add, pz_mul, pz_neg, pz_sub, pz_lt, pz_le, pz_eq, pz_b0, pz_b1, pz_bb, pz_ix, Int.sub_zero, Int.zero_add, Int.add_zero, Int.mul_zero, mb_qk, mb_qx, if_true, if_false, true_or, or_true, false_or, or_false, and_true, true_and, and_false, false_and, not_true_eq_false, not_false_eq_true, ite_self, List.lookup, List.length_cons, List.length_nil, ite_not, Nat.reduceAdd, Int.reduceEq, Int.reduceLT, Int.reduceLE, pz_n0, pz_n1, pz_n2, pz_n3, pz_n4, pz_n5, pz_n6, pz_n7, pz_n8, pz_n10, pz_n12, pz_n39, pz_n40, pz_n80, pz_n99, pz_n100, pz_n999, pz_nm1, pz_nm999, hat, hadd', pz_gf e0, pz_gf eA, pz_gf eR, List.getD_cons_zero, List.getD_cons_succ]) | (simp (disch := first | assumption | omega | exact Nat.le_of_ble_eq_true rfl | (intro _; first | rfl | simp (disch := decide) only [pz_su_t])) only [sX7_publish_26, sX7_publish_36, pz_add, pz_mul, pz_neg, pz_sub, pz_lt, pz_le, pz_eq, pz_b0, pz_b1, pz_bb, pz_ix, Int.sub_zero, Int.zero_add, Int.add_zero, Int.mul_zero, mb_qk, mb_qx, if_true, if_false, true_or, or_true, false_or, or_false, and_true, true_and, and_false, false_and, not_true_eq_false, not_false_eq_true, ite_self, List.lookup, List.length_cons, List.length_nil, ite_not, Nat.reduceAdd, Int.reduceEq, Int.reduceLT, Int.reduceLE, pz_n0, pz_n1, pz_n2, pz_n3, pz_n4, pz_n5, pz_n6, pz_n7, pz_n8, pz_n10, pz_n12, pz_n39, pz_n40, pz_n80, pz_n99, pz_n100, pz_n999, pz_nm1, pz_nm999]; first | split | skip) | split)
  all_goals first | rfl | omega | ((try unfold pz_b); (repeat' split) <;> first | rfl | omega | (simp_all only []; done) | (exfalso; simp_all only [not_true_eq_false, not_false_eq_true]; omega) | skip)
end
