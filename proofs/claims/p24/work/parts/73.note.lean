/-! note and settle of the class -/
section
variable {σ σ' : mb_S} {S S' : pz_S} {ad ad' : rz_A} {Fo : Nat → Prop}
set_option maxRecDepth 20000 in
set_option maxHeartbeats 4000000 in
theorem wc_initNt {c : Nat} {s f : Int} (h0 : σ.1 c = some (.inr (4, [.int 0, .int 0, .int 0, .int 0]))) (d : Nat) (Q : mb_O → mb_S → Prop) (hd : 1 ≤ d) : mb_Ex d 19 [.ref c, .int (iI s), .int (iI f)] σ Q = Q (.inl none) (mb_up σ c (.inr (4, [.int (iI s), .int (iI f), .int 0, .int 0]))) := by
  show mb_Rn d 19 0 [some (.ref c), some (.int (iI s)), some (.int (iI f))] [] σ Q = _
  repeat' (first | (simp (config := {maxSteps := 1000000}) (disch := first | assumption | omega | exact Nat.le_of_ble_eq_true rfl | (intro _; first | rfl | simp (disch := decide) only [pz_su_t])) only [sX4_init_0, sX4_init_0n, sX4_init_1, sX4_init_4, sX4_init_4n, sX4_init_5, sX4_init_6, sX4_init_9, sX4_init_9n, sX4_init_10, sX4_init_11, sX4_init_14, pz_add, pz_mul, pz_neg, pz_sub, pz_lt, pz_le, pz_eq, pz_b0, pz_b1, pz_bb, pz_ix, Int.sub_zero, Int.zero_add, Int.add_zero, Int.mul_zero, mb_qk, mb_qx, if_true, if_false, true_or, or_true, false_or, or_false, and_true, true_and, and_false, false_and, not_true_eq_false, not_false_eq_true, ite_self, List.lookup, List.length_cons, List.length_nil, ite_not, Nat.reduceAdd, Int.reduceEq, Int.reduceLT, Int.reduceLE, pz_gf h0, gu_uu, gu_gf, gu_gi, gu_gq, gu_gfe, gu_gie, gu_gqe, List.set_cons_zero, List.set_cons_succ, Nat.reduceLT, Nat.reduceLeDiff, List.getD_cons_zero, List.getD_cons_succ]) | split)
set_option maxRecDepth 20000 in
set_option maxHeartbeats 4000000 in
theorem fc_note1 {s f : Int} (hW : pz_W S) (h : rz_R σ S ad Fo) (hs1 : -2147483648 ≤ s) (hs2 : s ≤ 2147483647) (hf1 : -2147483648 ≤ f) (hf2 : f ≤ 2147483647) (c : ¬ pz_isF S s f) : ∀ (d : Nat) (Q : mb_O → mb_S → Prop), 9 ≤ d → mb_Ex d 52 [.ref (ad 0 0), .int (iI s), .int (iI f)] σ Q = Q (.inr 2) (mb_th σ) := by
  have e0 := rz_geq h (t := 0) (i := 0) rfl (fun _ k => k)
  intro d Q hd
  show mb_Rn d 52 0 [some (.ref (ad 0 0)), some (.int (iI s)), some (.int (iI f)), none] [] σ Q = _
  by_cases cs : 0 ≤ s ∧ s ≤ S 9 0 - 1
  · have hsa : ∀ (d : Nat) (Q : mb_O → mb_S → Prop), mb_Ex d 63 [.ref (ad 0 0), .int (iI s)] σ Q = Q (.inl (some (.ref (ad 14 s)))) σ := fun d Q => (pc_sceneAt hW (rz_C hW h) hs1 hs2).trans (if_pos cs)
    have hS := rz_Sc hW h cs.1 (show s < S 9 0 by omega)
    have eS := hS.1
    have c2 : ¬ (0 ≤ f ∧ f ≤ S 10 s - 1) := fun g => c ⟨cs, g⟩
    repeat' (first | (simp (config := {maxSteps := 1000000}) (disch := first | assumption | omega | exact Nat.le_of_ble_eq_true rfl | (intro _; first | rfl | simp (disch := decide) only [pz_su_t])) only [sX7_note_0, sX7_note_0n, sX7_note_1, sX7_note_2, sX7_note_5, sX7_note_5n, sX7_note_6, sX7_note_6n, sX7_note_7, sX7_note_7n, sX7_note_10, sX7_note_10n, sX7_note_11, sX7_note_12, sX7_note_18, sX7_note_28, sX7_note_28n, sX7_note_29, sX7_note_32, sX7_note_37, sX7_note_47, sX7_note_47n, sX7_note_48, sX7_note_51, sX7_note_51n, sX7_note_52, sX7_note_55, sX7_note_58, sX7_note_58i, sX7_note_59, sX7_note_60, sX7_note_61, sX7_note_64, sX7_note_65, sX7_note_65n, sX7_note_66, sX7_note_66i, sX7_note_67, sX7_note_70, sX7_note_71, sX7_note_72, sX7_note_73, sX7_note_76, pz_add, pz_mul, pz_neg, pz_sub, pz_lt, pz_le, pz_eq, pz_b0, pz_b1, pz_bb, pz_ix, Int.sub_zero, Int.zero_add, Int.add_zero, Int.mul_zero, mb_qk, mb_qx, if_true, if_false, true_or, or_true, false_or, or_false, and_true, true_and, and_false, false_and, not_true_eq_false, not_false_eq_true, ite_self, List.lookup, List.length_cons, List.length_nil, ite_not, Nat.reduceAdd, Int.reduceEq, Int.reduceLT, Int.reduceLE, pz_n0, pz_n1, pz_n2, pz_n3, pz_n4, pz_n5, pz_n6, pz_n7, pz_n8, pz_n10, pz_n12, pz_n39, pz_n40, pz_n80, pz_n99, pz_n100, pz_n999, pz_nm1, pz_nm999, hsa, pc_hasFrame hW hS, pz_bf c2, pz_gf e0, pz_gf eS]) | (simp (disch := first | assumption | omega | exact Nat.le_of_ble_eq_true rfl | (intro _; first | rfl | simp (disch := decide) only [pz_su_t])) only [sX7_note_15, sX7_note_34, pz_add, pz_mul, pz_neg, pz_sub, pz_lt, pz_le, pz_eq, pz_b0, pz_b1, pz_bb, pz_ix, Int.sub_zero, Int.zero_add, Int.add_zero, Int.mul_zero, mb_qk, mb_qx, if_true, if_false, true_or, or_true, false_or, or_false, and_true, true_and, and_false, false_and, not_true_eq_false, not_false_eq_true, ite_self, List.lookup, List.length_cons, List.length_nil, ite_not, Nat.reduceAdd, Int.reduceEq, Int.reduceLT, Int.reduceLE, pz_n0, pz_n1, pz_n2, pz_n3, pz_n4, pz_n5, pz_n6, pz_n7, pz_n8, pz_n10, pz_n12, pz_n39, pz_n40, pz_n80, pz_n99, pz_n100, pz_n999, pz_nm1, pz_nm999]; first | split | skip) | split)
    all_goals first | rfl | omega | ((try unfold pz_b); (repeat' split) <;> first | rfl | omega | (simp_all only []; done) | (exfalso; simp_all only [not_true_eq_false, not_false_eq_true]; omega) | skip)
  · have hsa : ∀ (d : Nat) (Q : mb_O → mb_S → Prop), mb_Ex d 63 [.ref (ad 0 0), .int (iI s)] σ Q = Q (.inl (some (.null))) σ := fun d Q => (pc_sceneAt hW (rz_C hW h) hs1 hs2).trans (if_neg cs)
    repeat' (first | (simp (config := {maxSteps := 1000000}) (disch := first | assumption | omega | exact Nat.le_of_ble_eq_true rfl | (intro _; first | rfl | simp (disch := decide) only [pz_su_t])) only [sX7_note_0, sX7_note_0n, sX7_note_1, sX7_note_2, sX7_note_5, sX7_note_5n, sX7_note_6, sX7_note_6n, sX7_note_7, sX7_note_7n, sX7_note_10, sX7_note_10n, sX7_note_11, sX7_note_12, sX7_note_18, sX7_note_28, sX7_note_28n, sX7_note_29, sX7_note_32, sX7_note_37, sX7_note_47, sX7_note_47n, sX7_note_48, sX7_note_51, sX7_note_51n, sX7_note_52, sX7_note_55, sX7_note_58, sX7_note_58i, sX7_note_59, sX7_note_60, sX7_note_61, sX7_note_64, sX7_note_65, sX7_note_65n, sX7_note_66, sX7_note_66i, sX7_note_67, sX7_note_70, sX7_note_71, sX7_note_72, sX7_note_73, sX7_note_76, pz_add, pz_mul, pz_neg, pz_sub, pz_lt, pz_le, pz_eq, pz_b0, pz_b1, pz_bb, pz_ix, Int.sub_zero, Int.zero_add, Int.add_zero, Int.mul_zero, mb_qk, mb_qx, if_true, if_false, true_or, or_true, false_or, or_false, and_true, true_and, and_false, false_and, not_true_eq_false, not_false_eq_true, ite_self, List.lookup, List.length_cons, List.length_nil, ite_not, Nat.reduceAdd, Int.reduceEq, Int.reduceLT, Int.reduceLE, pz_n0, pz_n1, pz_n2, pz_n3, pz_n4, pz_n5, pz_n6, pz_n7, pz_n8, pz_n10, pz_n12, pz_n39, pz_n40, pz_n80, pz_n99, pz_n100, pz_n999, pz_nm1, pz_nm999, hsa, pz_gf e0]) | (simp (disch := first | assumption | omega | exact Nat.le_of_ble_eq_true rfl | (intro _; first | rfl | simp (disch := decide) only [pz_su_t])) only [sX7_note_15, sX7_note_34, pz_add, pz_mul, pz_neg, pz_sub, pz_lt, pz_le, pz_eq, pz_b0, pz_b1, pz_bb, pz_ix, Int.sub_zero, Int.zero_add, Int.add_zero, Int.mul_zero, mb_qk, mb_qx, if_true, if_false, true_or, or_true, false_or, or_false, and_true, true_and, and_false, false_and, not_true_eq_false, not_false_eq_true, ite_self, List.lookup, List.length_cons, List.length_nil, ite_not, Nat.reduceAdd, Int.reduceEq, Int.reduceLT, Int.reduceLE, pz_n0, pz_n1, pz_n2, pz_n3, pz_n4, pz_n5, pz_n6, pz_n7, pz_n8, pz_n10, pz_n12, pz_n39, pz_n40, pz_n80, pz_n99, pz_n100, pz_n999, pz_nm1, pz_nm999]; first | split | skip) | split)
    all_goals first | rfl | omega | ((try unfold pz_b); (repeat' split) <;> first | rfl | omega | (simp_all only []; done) | (exfalso; simp_all only [not_true_eq_false, not_false_eq_true]; omega) | skip)
set_option maxRecDepth 20000 in
set_option maxHeartbeats 4000000 in
theorem fc_note2 {s f : Int} (hW : pz_W S) (h : rz_R σ S ad Fo) (hs1 : -2147483648 ≤ s) (hs2 : s ≤ 2147483647) (hf1 : -2147483648 ≤ f) (hf2 : f ≤ 2147483647) (c : pz_isF S s f) (c3 : S 21 0 = 40) : ∀ (d : Nat) (Q : mb_O → mb_S → Prop), 9 ≤ d → mb_Ex d 52 [.ref (ad 0 0), .int (iI s), .int (iI f)] σ Q = Q (.inr 0) (mb_th σ) := by
  have e0 := rz_geq h (t := 0) (i := 0) rfl (fun _ k => k)
  have cs := c.1
  have c2 := c.2
  have hsa : ∀ (d : Nat) (Q : mb_O → mb_S → Prop), mb_Ex d 63 [.ref (ad 0 0), .int (iI s)] σ Q = Q (.inl (some (.ref (ad 14 s)))) σ := fun d Q => (pc_sceneAt hW (rz_C hW h) hs1 hs2).trans (if_pos cs)
  have hS := rz_Sc hW h cs.1 (show s < S 9 0 by omega)
  have eS := hS.1
  intro d Q hd
  show mb_Rn d 52 0 [some (.ref (ad 0 0)), some (.int (iI s)), some (.int (iI f)), none] [] σ Q = _
  repeat' (first | (simp (config := {maxSteps := 1000000}) (disch := first | assumption | omega | exact Nat.le_of_ble_eq_true rfl | (intro _; first | rfl | simp (disch := decide) only [pz_su_t])) only [sX7_note_0, sX7_note_0n, sX7_note_1, sX7_note_2, sX7_note_5, sX7_note_5n, sX7_note_6, sX7_note_6n, sX7_note_7, sX7_note_7n, sX7_note_10, sX7_note_10n, sX7_note_11, sX7_note_12, sX7_note_18, sX7_note_28, sX7_note_28n, sX7_note_29, sX7_note_32, sX7_note_37, sX7_note_47, sX7_note_47n, sX7_note_48, sX7_note_51, sX7_note_51n, sX7_note_52, sX7_note_55, sX7_note_58, sX7_note_58i, sX7_note_59, sX7_note_60, sX7_note_61, sX7_note_64, sX7_note_65, sX7_note_65n, sX7_note_66, sX7_note_66i, sX7_note_67, sX7_note_70, sX7_note_71, sX7_note_72, sX7_note_73, sX7_note_76, pz_add, pz_mul, pz_neg, pz_sub, pz_lt, pz_le, pz_eq, pz_b0, pz_b1, pz_bb, pz_ix, Int.sub_zero, Int.zero_add, Int.add_zero, Int.mul_zero, mb_qk, mb_qx, if_true, if_false, true_or, or_true, false_or, or_false, and_true, true_and, and_false, false_and, not_true_eq_false, not_false_eq_true, ite_self, List.lookup, List.length_cons, List.length_nil, ite_not, Nat.reduceAdd, Int.reduceEq, Int.reduceLT, Int.reduceLE, pz_n0, pz_n1, pz_n2, pz_n3, pz_n4, pz_n5, pz_n6, pz_n7, pz_n8, pz_n10, pz_n12, pz_n39, pz_n40, pz_n80, pz_n99, pz_n100, pz_n999, pz_nm1, pz_nm999, hsa, pc_hasFrame hW hS, pz_bt c2, pz_gf e0, pz_gf eS, List.getD_cons_zero, List.getD_cons_succ]) | (simp (disch := first | assumption | omega | exact Nat.le_of_ble_eq_true rfl | (intro _; first | rfl | simp (disch := decide) only [pz_su_t])) only [sX7_note_15, sX7_note_34, pz_add, pz_mul, pz_neg, pz_sub, pz_lt, pz_le, pz_eq, pz_b0, pz_b1, pz_bb, pz_ix, Int.sub_zero, Int.zero_add, Int.add_zero, Int.mul_zero, mb_qk, mb_qx, if_true, if_false, true_or, or_true, false_or, or_false, and_true, true_and, and_false, false_and, not_true_eq_false, not_false_eq_true, ite_self, List.lookup, List.length_cons, List.length_nil, ite_not, Nat.reduceAdd, Int.reduceEq, Int.reduceLT, Int.reduceLE, pz_n0, pz_n1, pz_n2, pz_n3, pz_n4, pz_n5, pz_n6, pz_n7, pz_n8, pz_n10, pz_n12, pz_n39, pz_n40, pz_n80, pz_n99, pz_n100, pz_n999, pz_nm1, pz_nm999]; first | split | skip) | split)
  all_goals first | rfl | omega | ((try unfold pz_b); (repeat' split) <;> first | rfl | omega | (simp_all only []; done) | (exfalso; simp_all only [not_true_eq_false, not_false_eq_true]; omega) | skip)
set_option maxRecDepth 20000 in
set_option maxHeartbeats 4000000 in
theorem fc_note {s f : Int} (hW : pz_W S) (h : rz_R σ S ad Fo) (hs1 : -2147483648 ≤ s) (hs2 : s ≤ 2147483647) (hf1 : -2147483648 ≤ f) (hf2 : f ≤ 2147483647) (hJ : rz_J S) (c : pz_isF S s f) (c3 : ¬ S 21 0 = 40) : ∃ σ' ad', ad' 0 0 = ad 0 0 ∧ rz_R σ' (pz_su (pz_su (pz_su S 22 (S 21 0) s) 23 (S 21 0) f) 21 0 (S 21 0 + 1)) ad' Fo ∧ rz_F Fo σ σ' ∧ ∀ (d : Nat) (Q : mb_O → mb_S → Prop), 9 ≤ d → mb_Ex d 52 [.ref (ad 0 0), .int (iI s), .int (iI f)] σ Q = Q (.inl (some (.int (iI (S 21 0))))) σ' := by
  have e0 := rz_geq h (t := 0) (i := 0) rfl (fun _ k => k)
  have cs := c.1
  have c2 := c.2
  have hsa : ∀ (d : Nat) (Q : mb_O → mb_S → Prop), mb_Ex d 63 [.ref (ad 0 0), .int (iI s)] σ Q = Q (.inl (some (.ref (ad 14 s)))) σ := fun d Q => (pc_sceneAt hW (rz_C hW h) hs1 hs2).trans (if_pos cs)
  have hS := rz_Sc hW h cs.1 (show s < S 9 0 by omega)
  have eS := hS.1
  have w1 := pw_21 hW 0
  have l0 := (h.1 0 0 rfl).2
  have l3 := (h.1 3 0 rfl).2
  have n03 : ad 0 0 ≠ ad 3 0 := rz_ne h (t := 0) (t' := 3) (i := 0) (i' := 0) rfl rfl (by omega)
  obtain ⟨g, e1, e2⟩ := rz_gaq h (t := 3) (i := 0) rfl (fun _ k => k)
  have hz := hJ.2.2.2 (S 21 0) (Int.le_refl _) (by omega)
  obtain ⟨ad', adE⟩ : ∃ ad' : rz_A, ad' = (fun t i => if t = 20 ∧ i = S 21 0 then σ.2.1 else ad t i) := ⟨_, rfl⟩
  have adn : ad' 20 (S 21 0) = σ.2.1 := by rw [adE]; exact if_pos ⟨rfl, rfl⟩
  have ado : ∀ t i, ¬ (t = 20 ∧ i = S 21 0) → ad' t i = ad t i := fun t i k => by rw [adE]; exact if_neg k
  have had : ∀ t i, rz_lv S t i → ad' t i = ad t i := fun t i hl => ado t i (fun k => by
    obtain ⟨k1, k3⟩ := k
    subst k1
    have := hl.2; omega)
  have hS' : ∀ x, x ∉ [21, 22, 23] → (pz_su (pz_su (pz_su S 22 (S 21 0) s) 23 (S 21 0) f) 21 0 (S 21 0 + 1)) x = S x := fun x hx => by rw [pz_su_t (fun e => hx (by rw [e]; decide)), pz_su_t (fun e => hx (by rw [e]; decide)), pz_su_t (fun e => hx (by rw [e]; decide))]
  have s21 : (pz_su (pz_su (pz_su S 22 (S 21 0) s) 23 (S 21 0) f) 21 0 (S 21 0 + 1)) 21 0 = S 21 0 + 1 := pz_su_e
  have s22 : ∀ x, (pz_su (pz_su (pz_su S 22 (S 21 0) s) 23 (S 21 0) f) 21 0 (S 21 0 + 1)) 22 x = if x = S 21 0 then s else S 22 x := fun x => by rw [pz_su_t (by decide), pz_su_t (by decide), pz_su_i]
  have s23 : ∀ x, (pz_su (pz_su (pz_su S 22 (S 21 0) s) 23 (S 21 0) f) 21 0 (S 21 0 + 1)) 23 x = if x = S 21 0 then f else S 23 x := fun x => by rw [pz_su_t (by decide), pz_su_i, pz_su_t (by decide)]
  obtain ⟨σ2, σE⟩ : ∃ σ2 : mb_S, σ2 = mb_up (mb_up (mb_up (mb_al σ (.inr (4, [.int 0, .int 0, .int 0, .int 0])) 4) σ.2.1 ((.inr (4, [.int (iI s), .int (iI f), .int 0, .int 0])))) (ad 3 0) ((.inl (14, 40, .inr (.inr (.inr (.inr (va_up g (iI (S 21 0)).toNatClampNeg (some σ.2.1))))))))) (ad 0 0) ((.inr (7, [.ref (ad 1 0), .ref (ad 2 0), .ref (ad 3 0), .int (iI (S 1 0)), .int (iI (S 9 0)), .int (iI (S 21 0 + 1)), .int (iI (S 20 0))]))) := ⟨_, rfl⟩
  have c0 : σ2.1 (ad 0 0) = some (.inr (7, [.ref (ad 1 0), .ref (ad 2 0), .ref (ad 3 0), .int (iI (S 1 0)), .int (iI (S 9 0)), .int (iI (S 21 0 + 1)), .int (iI (S 20 0))])) := by rw [σE]; exact gu_ae
  have c1 : σ2.1 (ad 3 0) = some (.inl (14, 40, .inr (.inr (.inr (.inr (va_up g (iI (S 21 0)).toNatClampNeg (some σ.2.1))))))) := by rw [σE]; exact (gu_at n03.symm).trans gu_ae
  have c4 : σ2.1 σ.2.1 = some (.inr (4, [.int (iI s), .int (iI f), .int 0, .int 0])) := by rw [σE, gu_at (by omega), gu_at (by omega)]; exact gu_ae
  have cm : σ2.2 = (σ.2.1 + 1, σ.2.2 + 4) := by rw [σE]; rfl
  have cs' : ∀ q, q < σ.2.1 → q ≠ ad 0 0 → q ≠ ad 3 0 → σ2.1 q = σ.1 q := fun q hq q0 q1 => by rw [σE, gu_at q0, gu_at q1, gu_at (by omega), ga_at (by omega)]
  refine ⟨σ2, ad', ado 0 0 (by omega), rz_g2 hW h (by rw [cm]; omega) (fun t i => t = 20 ∧ i = S 21 0) [21, 22, 23] [0, 3, 20] hS' had ?_ (rz_tag (by decide) (by decide) (by decide) (by decide) (by decide) (by decide) (by decide) (by decide) (by decide) (by decide) (by decide) (by decide) (by decide) (by decide) (by decide) (by decide) (by decide) (by decide) (by decide) (by decide) (by decide) (fun t _ x hx => absurd hx (by simp [rz_ds]))) (fun t i hl hm => cs' _ (h.1 t i hl).2.1 (rz_ne h hl (t' := 0) (i' := 0) rfl (fun g => hm (by rw [g.1]; decide))) (rz_ne h hl (t' := 3) (i' := 0) rfl (fun g => hm (by rw [g.1]; decide)))) ?_ ?_ ?_, ⟨fun q hq => ?_, by rw [cm]; omega, by rw [cm]; omega, by rw [cm]; omega⟩, fun d Q hd => ?_⟩
  · have hS := hS'
    have e1 := hS 1 (by decide)
    have e2 := hS 2 (by decide)
    have e3 := hS 3 (by decide)
    have e9 := hS 9 (by decide)
    have e10 := hS 10 (by decide)
    have e11 := hS 11 (by decide)
    have hrl : ∀ r, rz_rl (pz_su (pz_su (pz_su S 22 (S 21 0) s) 23 (S 21 0) f) 21 0 (S 21 0 + 1)) r → rz_rl S r := fun r ⟨k1, k2, k3, k4⟩ => ⟨k1, k2, by rw [← e1]; exact k3, by rw [← e1, ← e2]; exact k4⟩
    exact rz_tag (fun i k => Or.inl k) (fun i k => Or.inl k) (fun i k => Or.inl k) (fun i k => Or.inl k) (fun i k => Or.inl ⟨k.1, by rw [← e1]; exact k.2⟩) (fun i k => Or.inl ⟨k.1, by rw [← e1]; exact k.2⟩) (fun i k => Or.inl (hrl i k)) (fun i k => Or.inl (hrl i k)) (fun i k => Or.inl (hrl i k)) (fun i k => Or.inl ⟨hrl i k.1, k.2⟩) (fun i k => Or.inl ⟨hrl _ k.1, by rw [← e3]; exact k.2⟩) (fun i k => Or.inl ⟨hrl _ k.1, by rw [← e3]; exact k.2⟩) (fun i k => Or.inl ⟨hrl _ k.1, by rw [← e3]; exact k.2⟩) (fun i k => Or.inl ⟨hrl _ k.1, by rw [← e3]; exact k.2⟩) (fun i k => Or.inl ⟨k.1, by rw [← e9]; exact k.2⟩) (fun i k => Or.inl ⟨k.1, by rw [← e9]; exact k.2⟩) (fun i k => Or.inl ⟨k.1, by rw [← e9]; exact k.2⟩) (fun i k => Or.inl ⟨k.1, by rw [← e9]; exact k.2.1, by rw [← e10]; exact k.2.2⟩) (fun i k => Or.inl ⟨k.1, by rw [← e9]; exact k.2.1, by rw [← e10]; exact k.2.2⟩) (fun i k => Or.inl ⟨k.1, by rw [← e9]; exact k.2.1, by rw [← e11]; exact k.2.2⟩) (fun i k => by have k2 := k.2; rw [s21] at k2; by_cases e : i = S 21 0; exact Or.inr ⟨rfl, e⟩; exact Or.inl ⟨k.1, by omega⟩) (fun t i k => Or.inl k)
  · intro t i hm k' k
    simp only [List.mem_cons, List.not_mem_nil, or_false] at hm
    rcases hm with e | e | e <;> subst e
    · have k0 : i = 0 := k
      subst k0
      refine Or.inr ⟨_, c0, ?_⟩
      show _ = _
      rw [ado 1 0 (by omega), ado 2 0 (by omega), ado 3 0 (by omega), s21, hS' 1 (by decide), hS' 9 (by decide), hS' 20 (by decide)]
    · have k0 : i = 0 := k
      subst k0
      refine Or.inr ⟨_, c1, _, rfl, fun j j1 j2 => ?_⟩
      rw [s21] at j2
      rw [rz_vup w1.1 (by omega) j1 (by omega)]
      by_cases ej : j = S 21 0
      · rw [if_pos ej, ej]; exact congrArg some adn.symm
      · rw [if_neg ej, e2 j j1 (by omega)]
        exact congrArg some (had 20 j ⟨j1, by omega⟩).symm
    · have kn : ¬ i = S 21 0 := by have := k.2; omega
      refine Or.inl ⟨cs' _ (h.1 20 i k).2.1 (rz_ne h k (t' := 0) (i' := 0) rfl (by omega)) (rz_ne h k (t' := 3) (i' := 0) rfl (by omega)), by rw [s22, if_neg kn], by rw [s23, if_neg kn], by rw [hS' 24 (by decide)], by rw [hS' 25 (by decide)]⟩
  · intro t i ⟨t1, ei⟩
    subst ei
    subst t1
    rw [adn]
    refine ⟨by omega, by rw [cm]; omega, _, c4, ?_⟩
    show _ = _
    rw [s22, if_pos rfl, s23, if_pos rfl, hS' 24 (by decide), hS' 25 (by decide), hz.1, hz.2]
    rfl
  · intro t i t' i' ⟨t1, ei⟩ ⟨t3, ei'⟩ e
    exact ⟨by omega, by omega⟩
  · exact cs' q (h.2.2 q hq) (fun e => l0.2 (e ▸ hq)) (fun e => l3.2 (e ▸ hq))
  show mb_Rn d 52 0 [some (.ref (ad 0 0)), some (.int (iI s)), some (.int (iI f)), none] [] σ Q = _
  rw [σE]
  have z10 : (iI 1 = (0 : Int32)) = False := eq_false (by decide)
  have hi := fun Q => wc_initNt (σ := mb_al σ (.inr (4, [.int 0, .int 0, .int 0, .int 0])) 4) (c := σ.2.1) (s := s) (f := f) (if_pos rfl) (d - 1) Q (by omega)
  repeat' (first | (simp (config := {maxSteps := 1000000}) (disch := first | assumption | omega | exact Nat.le_of_ble_eq_true rfl | (intro _; first | rfl | simp (disch := decide) only [pz_su_t])) only [sX7_note_0, sX7_note_0n, sX7_note_1, sX7_note_2, sX7_note_5, sX7_note_5n, sX7_note_6, sX7_note_6n, sX7_note_7, sX7_note_7n, sX7_note_10, sX7_note_10n, sX7_note_11, sX7_note_12, sX7_note_18, sX7_note_28, sX7_note_28n, sX7_note_29, sX7_note_32, sX7_note_37, sX7_note_47, sX7_note_47n, sX7_note_48, sX7_note_51, sX7_note_51n, sX7_note_52, sX7_note_55, sX7_note_58, sX7_note_58i, sX7_note_59, sX7_note_60, sX7_note_61, sX7_note_64, sX7_note_65, sX7_note_65n, sX7_note_66, sX7_note_66i, sX7_note_67, sX7_note_70, sX7_note_71, sX7_note_72, sX7_note_73, sX7_note_76, pz_add, pz_mul, pz_neg, pz_sub, pz_lt, pz_le, pz_eq, pz_b0, pz_b1, pz_bb, pz_n40, pz_n1, z10, pz_ix, Int.sub_zero, Int.zero_add, Int.add_zero, Int.mul_zero, mb_qk, mb_qx, if_true, if_false, true_or, or_true, false_or, or_false, and_true, true_and, and_false, false_and, not_true_eq_false, not_false_eq_true, ite_self, List.lookup, List.length_cons, List.length_nil, ite_not, Nat.reduceAdd, Int.reduceEq, Int.reduceLT, Int.reduceLE, hsa, pc_hasFrame hW hS, pz_bt c2, pz_gf e0, pz_gf eS, hi, pz_gq e1, ga_n, gu_n, ga_gf, ga_gi, ga_gq, ga_gfe, ga_gie, ga_gqe, ga_n, gu_n, gu_gf, gu_gi, gu_gq, gu_gfe, gu_gie, gu_gqe, List.set_cons_zero, List.set_cons_succ, Nat.reduceLT, Nat.reduceLeDiff, List.getD_cons_zero, List.getD_cons_succ]) | (simp (disch := first | assumption | omega | exact Nat.le_of_ble_eq_true rfl | (intro _; first | rfl | simp (disch := decide) only [pz_su_t])) only [sX7_note_15, sX7_note_34, pz_add, pz_mul, pz_neg, pz_sub, pz_lt, pz_le, pz_eq, pz_b0, pz_b1, pz_bb, pz_n40, pz_n1, z10, pz_ix, Int.sub_zero, Int.zero_add, Int.add_zero, Int.mul_zero, mb_qk, mb_qx, if_true, if_false, true_or, or_true, false_or, or_false, and_true, true_and, and_false, false_and, not_true_eq_false, not_false_eq_true, ite_self, List.lookup, List.length_cons, List.length_nil, ite_not, Nat.reduceAdd, Int.reduceEq, Int.reduceLT, Int.reduceLE]; first | split | skip) | split)
  all_goals first | rfl | omega | ((try unfold pz_b); (repeat' split) <;> first | rfl | omega | (simp_all only []; done) | (exfalso; simp_all only [not_true_eq_false, not_false_eq_true]; omega) | skip)
set_option maxRecDepth 20000 in
set_option maxHeartbeats 4000000 in
theorem fc_settle1 {n : Int} (hW : pz_W S) (h : rz_R σ S ad Fo) (hn1 : -2147483648 ≤ n) (hn2 : n ≤ 2147483647) (c : ¬ (0 ≤ n ∧ n ≤ S 21 0 - 1)) : ∀ (d : Nat) (Q : mb_O → mb_S → Prop), 9 ≤ d → mb_Ex d 53 [.ref (ad 0 0), .int (iI n)] σ Q = Q (.inr 2) (mb_th σ) := by
  have e0 := rz_geq h (t := 0) (i := 0) rfl (fun _ k => k)
  have hna : ∀ (d : Nat) (Q : mb_O → mb_S → Prop), mb_Ex d 64 [.ref (ad 0 0), .int (iI n)] σ Q = Q (.inl (some (.null))) σ := fun d Q => (pc_noteAt hW (rz_C hW h) hn1 hn2).trans (if_neg c)
  intro d Q hd
  show mb_Rn d 53 0 [some (.ref (ad 0 0)), some (.int (iI n)), none] [] σ Q = _
  repeat' (first | (simp (config := {maxSteps := 1000000}) (disch := first | assumption | omega | exact Nat.le_of_ble_eq_true rfl | (intro _; first | rfl | simp (disch := decide) only [pz_su_t])) only [sX7_settle_0, sX7_settle_0n, sX7_settle_1, sX7_settle_2, sX7_settle_5, sX7_settle_5n, sX7_settle_6, sX7_settle_6n, sX7_settle_7, sX7_settle_7n, sX7_settle_10, sX7_settle_20, sX7_settle_20n, sX7_settle_21, sX7_settle_27, sX7_settle_37, sX7_settle_37n, sX7_settle_38, sX7_settle_39, sX7_settle_39z, sX7_settle_42, sX7_settle_42n, sX7_settle_43, sX7_settle_43n, sX7_settle_44, sX7_settle_47, sX7_settle_50, pz_add, pz_mul, pz_neg, pz_sub, pz_lt, pz_le, pz_eq, pz_b0, pz_b1, pz_bb, pz_ix, Int.sub_zero, Int.zero_add, Int.add_zero, Int.mul_zero, mb_qk, mb_qx, if_true, if_false, true_or, or_true, false_or, or_false, and_true, true_and, and_false, false_and, not_true_eq_false, not_false_eq_true, ite_self, List.lookup, List.length_cons, List.length_nil, ite_not, Nat.reduceAdd, Int.reduceEq, Int.reduceLT, Int.reduceLE, pz_n0, pz_n1, pz_n2, pz_n3, pz_n4, pz_n5, pz_n6, pz_n7, pz_n8, pz_n10, pz_n12, pz_n39, pz_n40, pz_n80, pz_n99, pz_n100, pz_n999, pz_nm1, pz_nm999, hna, pz_gf e0]) | (simp (disch := first | assumption | omega | exact Nat.le_of_ble_eq_true rfl | (intro _; first | rfl | simp (disch := decide) only [pz_su_t])) only [sX7_settle_24, pz_add, pz_mul, pz_neg, pz_sub, pz_lt, pz_le, pz_eq, pz_b0, pz_b1, pz_bb, pz_ix, Int.sub_zero, Int.zero_add, Int.add_zero, Int.mul_zero, mb_qk, mb_qx, if_true, if_false, true_or, or_true, false_or, or_false, and_true, true_and, and_false, false_and, not_true_eq_false, not_false_eq_true, ite_self, List.lookup, List.length_cons, List.length_nil, ite_not, Nat.reduceAdd, Int.reduceEq, Int.reduceLT, Int.reduceLE, pz_n0, pz_n1, pz_n2, pz_n3, pz_n4, pz_n5, pz_n6, pz_n7, pz_n8, pz_n10, pz_n12, pz_n39, pz_n40, pz_n80, pz_n99, pz_n100, pz_n999, pz_nm1, pz_nm999]; first | split | skip) | split)
  all_goals first | rfl | omega | ((try unfold pz_b); (repeat' split) <;> first | rfl | omega | (simp_all only []; done) | (exfalso; simp_all only [not_true_eq_false, not_false_eq_true]; omega) | skip)
set_option maxRecDepth 20000 in
set_option maxHeartbeats 4000000 in
theorem fc_settle2 {n : Int} (hW : pz_W S) (h : rz_R σ S ad Fo) (hn1 : -2147483648 ≤ n) (hn2 : n ≤ 2147483647) (c : 0 ≤ n ∧ n ≤ S 21 0 - 1) (c2 : ¬ S 24 n = 0) : ∀ (d : Nat) (Q : mb_O → mb_S → Prop), 9 ≤ d → mb_Ex d 53 [.ref (ad 0 0), .int (iI n)] σ Q = Q (.inr 0) (mb_th σ) := by
  have e0 := rz_geq h (t := 0) (i := 0) rfl (fun _ k => k)
  have hna : ∀ (d : Nat) (Q : mb_O → mb_S → Prop), mb_Ex d 64 [.ref (ad 0 0), .int (iI n)] σ Q = Q (.inl (some (.ref (ad 20 n)))) σ := fun d Q => (pc_noteAt hW (rz_C hW h) hn1 hn2).trans (if_pos c)
  have ln : rz_lv S 20 n := ⟨c.1, by omega⟩
  have eN := rz_geq h (t := 20) (i := n) ln (fun _ k => k)
  have w24 := pw_24 hW n
  intro d Q hd
  show mb_Rn d 53 0 [some (.ref (ad 0 0)), some (.int (iI n)), none] [] σ Q = _
  repeat' (first | (simp (config := {maxSteps := 1000000}) (disch := first | assumption | omega | exact Nat.le_of_ble_eq_true rfl | (intro _; first | rfl | simp (disch := decide) only [pz_su_t])) only [sX7_settle_0, sX7_settle_0n, sX7_settle_1, sX7_settle_2, sX7_settle_5, sX7_settle_5n, sX7_settle_6, sX7_settle_6n, sX7_settle_7, sX7_settle_7n, sX7_settle_10, sX7_settle_20, sX7_settle_20n, sX7_settle_21, sX7_settle_27, sX7_settle_37, sX7_settle_37n, sX7_settle_38, sX7_settle_39, sX7_settle_39z, sX7_settle_42, sX7_settle_42n, sX7_settle_43, sX7_settle_43n, sX7_settle_44, sX7_settle_47, sX7_settle_50, pz_add, pz_mul, pz_neg, pz_sub, pz_lt, pz_le, pz_eq, pz_b0, pz_b1, pz_bb, pz_ix, Int.sub_zero, Int.zero_add, Int.add_zero, Int.mul_zero, mb_qk, mb_qx, if_true, if_false, true_or, or_true, false_or, or_false, and_true, true_and, and_false, false_and, not_true_eq_false, not_false_eq_true, ite_self, List.lookup, List.length_cons, List.length_nil, ite_not, Nat.reduceAdd, Int.reduceEq, Int.reduceLT, Int.reduceLE, pz_n0, pz_n1, pz_n2, pz_n3, pz_n4, pz_n5, pz_n6, pz_n7, pz_n8, pz_n10, pz_n12, pz_n39, pz_n40, pz_n80, pz_n99, pz_n100, pz_n999, pz_nm1, pz_nm999, hna, pz_gf e0, pz_gf eN, List.getD_cons_zero, List.getD_cons_succ]) | (simp (disch := first | assumption | omega | exact Nat.le_of_ble_eq_true rfl | (intro _; first | rfl | simp (disch := decide) only [pz_su_t])) only [sX7_settle_24, pz_add, pz_mul, pz_neg, pz_sub, pz_lt, pz_le, pz_eq, pz_b0, pz_b1, pz_bb, pz_ix, Int.sub_zero, Int.zero_add, Int.add_zero, Int.mul_zero, mb_qk, mb_qx, if_true, if_false, true_or, or_true, false_or, or_false, and_true, true_and, and_false, false_and, not_true_eq_false, not_false_eq_true, ite_self, List.lookup, List.length_cons, List.length_nil, ite_not, Nat.reduceAdd, Int.reduceEq, Int.reduceLT, Int.reduceLE, pz_n0, pz_n1, pz_n2, pz_n3, pz_n4, pz_n5, pz_n6, pz_n7, pz_n8, pz_n10, pz_n12, pz_n39, pz_n40, pz_n80, pz_n99, pz_n100, pz_n999, pz_nm1, pz_nm999]; first | split | skip) | split)
  all_goals first | rfl | omega | ((try unfold pz_b); (repeat' split) <;> first | rfl | omega | (simp_all only []; done) | (exfalso; simp_all only [not_true_eq_false, not_false_eq_true]; omega) | skip)
set_option maxRecDepth 20000 in
set_option maxHeartbeats 4000000 in
theorem fc_settle {n : Int} (hW : pz_W S) (h : rz_R σ S ad Fo) (hn1 : -2147483648 ≤ n) (hn2 : n ≤ 2147483647) (c : 0 ≤ n ∧ n ≤ S 21 0 - 1) (c2 : S 24 n = 0) : ∃ σ' ad', ad' 0 0 = ad 0 0 ∧ rz_R σ' (pz_su S 24 n 1) ad' Fo ∧ rz_F Fo σ σ' ∧ ∀ (d : Nat) (Q : mb_O → mb_S → Prop), 9 ≤ d → mb_Ex d 53 [.ref (ad 0 0), .int (iI n)] σ Q = Q (.inl (some (.int (iI (pz_us (pz_su S 24 n 1) (S 22 n) (-1)))))) σ' := by
  have e0 := rz_geq h (t := 0) (i := 0) rfl (fun _ k => k)
  have hna : ∀ (d : Nat) (Q : mb_O → mb_S → Prop), mb_Ex d 64 [.ref (ad 0 0), .int (iI n)] σ Q = Q (.inl (some (.ref (ad 20 n)))) σ := fun d Q => (pc_noteAt hW (rz_C hW h) hn1 hn2).trans (if_pos c)
  have ln : rz_lv S 20 n := ⟨c.1, by omega⟩
  have eN := rz_geq h (t := 20) (i := n) ln (fun _ k => k)
  have w24 := pw_24 hW n
  have w22 := pw_22 hW n
  have hS' : ∀ x, x ∉ [24] → (pz_su S 24 n 1) x = S x := fun x hx => pz_su_t (fun e => hx (by rw [e]; decide))
  obtain ⟨σ2, σE⟩ : ∃ σ2 : mb_S, σ2 = mb_up σ (ad 20 n) (.inr (4, [.int (iI (S 22 n)), .int (iI (S 23 n)), .int (iI (S 25 n)), .int 1])) := ⟨_, rfl⟩
  have c0 : σ2.1 (ad 20 n) = some (.inr (4, [.int (iI (S 22 n)), .int (iI (S 23 n)), .int (iI (S 25 n)), .int 1])) := by rw [σE]; exact gu_ae
  have cm : σ2.2 = σ.2 := by rw [σE]; rfl
  have cs' : ∀ q, q ≠ ad 20 n → σ2.1 q = σ.1 q := fun q q0 => by rw [σE, gu_at q0]
  have hR2 : rz_R σ2 (pz_su S 24 n 1) ad Fo := by
    refine rz_w2 h (by rw [cm]; exact Nat.le_refl _) [24] [20] hS' (fun t i => rz_lvs (fun x hx => hS' x (by revert x; decide)) t) (rz_tag (by decide) (by decide) (by decide) (by decide) (by decide) (by decide) (by decide) (by decide) (by decide) (by decide) (by decide) (by decide) (by decide) (by decide) (by decide) (by decide) (by decide) (by decide) (by decide) (by decide) (by decide) (fun t _ x hx => absurd hx (by simp [rz_ds]))) (fun t i hl hm => cs' _ (rz_ne h hl ln (fun g => hm (by rw [g.1]; decide)))) (fun t i hm k' k => ?_)
    simp only [List.mem_cons, List.not_mem_nil, or_false] at hm
    subst hm
    by_cases e : i = n
    · subst e
      refine Or.inr ⟨_, c0, ?_⟩
      show _ = _
      rw [hS' 22 (by decide), hS' 23 (by decide), hS' 25 (by decide), pz_su_e]
      rfl
    · exact Or.inl ⟨cs' _ (rz_ne h k ln (fun g => e g.2)), by rw [hS' 22 (by decide)], by rw [hS' 23 (by decide)], by rw [pz_su_i, if_neg e], by rw [hS' 25 (by decide)]⟩
  have n0 : ad 0 0 ≠ ad 20 n := rz_ne h (t := 0) (i := 0) rfl ln (by omega)
  have hW2 : pz_W (pz_su S 24 n 1) := pws_24 hW (by decide) (by decide)
  have hon := fun (Q : mb_O → mb_S → Prop) (d : Nat) (hd : 1 ≤ d) => pc_openNotesOfScene (Q := Q) hW2 hd w22.1 (show S 22 n < 8 by omega) (rz_C hW2 hR2)
  refine ⟨σ2, ad, rfl, hR2, ⟨fun q hq => cs' q (fun e => (h.1 20 n ln).2.2 (e ▸ hq)), by rw [cm]; omega, by rw [cm]; omega, by rw [cm]; omega⟩, fun d Q hd => ?_⟩
  show mb_Rn d 53 0 [some (.ref (ad 0 0)), some (.int (iI n)), none] [] σ Q = _
  rw [σE] at hon ⊢
  repeat' (first | (simp (config := {maxSteps := 1000000}) (disch := first | assumption | omega | exact Nat.le_of_ble_eq_true rfl | (intro _; first | rfl | simp (disch := decide) only [pz_su_t])) only [sX7_settle_0, sX7_settle_0n, sX7_settle_1, sX7_settle_2, sX7_settle_5, sX7_settle_5n, sX7_settle_6, sX7_settle_6n, sX7_settle_7, sX7_settle_7n, sX7_settle_10, sX7_settle_20, sX7_settle_20n, sX7_settle_21, sX7_settle_27, sX7_settle_37, sX7_settle_37n, sX7_settle_38, sX7_settle_39, sX7_settle_39z, sX7_settle_42, sX7_settle_42n, sX7_settle_43, sX7_settle_43n, sX7_settle_44, sX7_settle_47, sX7_settle_50, pz_add, pz_mul, pz_neg, pz_sub, pz_lt, pz_le, pz_eq, pz_b0, pz_b1, pz_bb, pz_n0, pz_ix, Int.sub_zero, Int.zero_add, Int.add_zero, Int.mul_zero, mb_qk, mb_qx, if_true, if_false, true_or, or_true, false_or, or_false, and_true, true_and, and_false, false_and, not_true_eq_false, not_false_eq_true, ite_self, List.lookup, List.length_cons, List.length_nil, ite_not, Nat.reduceAdd, Int.reduceEq, Int.reduceLT, Int.reduceLE, hna, hon, pz_gf e0, pz_gf eN, gu_gf, gu_gi, gu_gq, gu_gfe, gu_gie, gu_gqe, List.set_cons_zero, List.set_cons_succ, Nat.reduceLT, Nat.reduceLeDiff, List.getD_cons_zero, List.getD_cons_succ]) | (simp (disch := first | assumption | omega | exact Nat.le_of_ble_eq_true rfl | (intro _; first | rfl | simp (disch := decide) only [pz_su_t])) only [sX7_settle_24, pz_add, pz_mul, pz_neg, pz_sub, pz_lt, pz_le, pz_eq, pz_b0, pz_b1, pz_bb, pz_n0, pz_ix, Int.sub_zero, Int.zero_add, Int.add_zero, Int.mul_zero, mb_qk, mb_qx, if_true, if_false, true_or, or_true, false_or, or_false, and_true, true_and, and_false, false_and, not_true_eq_false, not_false_eq_true, ite_self, List.lookup, List.length_cons, List.length_nil, ite_not, Nat.reduceAdd, Int.reduceEq, Int.reduceLT, Int.reduceLE]; first | split | skip) | split)
  all_goals first | rfl | omega | ((try unfold pz_b); (repeat' split) <;> first | rfl | omega | (simp_all only []; done) | (exfalso; simp_all only [not_true_eq_false, not_false_eq_true]; omega) | skip)
end
