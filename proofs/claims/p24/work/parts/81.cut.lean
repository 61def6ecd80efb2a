/-! cut of the class -/
section
variable {σ σ' : mb_S} {S S' : pz_S} {ad ad' : rz_A} {Fo : Nat → Prop}
set_option maxRecDepth 20000 in
set_option maxHeartbeats 4000000 in
theorem wl_remove {p pf pc : Nat} {N f k : Int} {z4 : Value} (hne : p ≠ pf) (hN : N ≤ 40) (hk : 1 ≤ k) : ∀ (n : Nat) (i : Int) (σ : mb_S) (q0 : Nat → Option Nat), σ.1 p = some (.inr (6, [.ref pf, .ref pc, .int (iI (N)), z4])) → σ.1 pf = some (.inl (13, 40, .inr (.inr (.inr (.inr q0))))) → (∀ j : Int, 0 ≤ j → j < N → ∃ c fs, q0 (iI j).toNatClampNeg = some c ∧ σ.1 c = some (.inr (3, fs)) ∧ c ≠ pf) → i + k + n = N → 0 ≤ i → ∃ σ' q', σ'.1 pf = some (.inl (13, 40, .inr (.inr (.inr (.inr q'))))) ∧ (∀ q, q ≠ pf → σ'.1 q = σ.1 q) ∧ σ'.2 = σ.2 ∧ (∀ j : Int, 0 ≤ j → j < 40 → q' (iI j).toNatClampNeg = if i ≤ j ∧ j < N - k then q0 (iI (j + k)).toNatClampNeg else q0 (iI j).toNatClampNeg) ∧ ∀ (d : Nat) (Q : mb_O → mb_S → Prop), 1 ≤ d → mb_Rn d 37 26 [some (.ref p), some (.int (iI f)), some (.int (iI k)), some (.int (iI (i)))] [] σ Q = mb_Rn d 37 56 [some (.ref p), some (.int (iI f)), some (.int (iI k)), some (.int (iI (N - k)))] [] σ' Q := by
  intro n
  induction n with
  | zero =>
    intro i σ q0 h0 h1 h2 h3 h4
    have hc : (N ≤ i + k) = True := eq_true (by omega)
    refine ⟨σ, q0, h1, fun q _ => rfl, rfl, fun j j0 j1 => by rw [if_neg (by omega)], fun d Q hd => ?_⟩
    rw [sX6_removeFrames_26, show N - k = i by omega]
    repeat' (first | (simp (config := {maxSteps := 1000000}) (disch := first | assumption | omega | exact Nat.le_of_ble_eq_true rfl | (intro _; first | rfl | simp (disch := decide) only [pz_su_t])) only [sX6_removeFrames_0, sX6_removeFrames_0n, sX6_removeFrames_1, sX6_removeFrames_2, sX6_removeFrames_8, sX6_removeFrames_9, sX6_removeFrames_13, sX6_removeFrames_14, sX6_removeFrames_14n, sX6_removeFrames_15, sX6_removeFrames_18, sX6_removeFrames_19, sX6_removeFrames_23, sX6_removeFrames_24, sX6_removeFrames_25, sX6_removeFrames_27, sX6_removeFrames_28, sX6_removeFrames_29, sX6_removeFrames_29n, sX6_removeFrames_30, sX6_removeFrames_36, sX6_removeFrames_36n, sX6_removeFrames_37, sX6_removeFrames_40, sX6_removeFrames_41, sX6_removeFrames_41n, sX6_removeFrames_42, sX6_removeFrames_45, sX6_removeFrames_46, sX6_removeFrames_47, sX6_removeFrames_48, sX6_removeFrames_49, sX6_removeFrames_50, sX6_removeFrames_53, sX6_removeFrames_57, sX6_removeFrames_57i, sX6_removeFrames_58, sX6_removeFrames_61, sX6_removeFrames_62, sX6_removeFrames_63, sX6_removeFrames_66, pz_add, pz_mul, pz_neg, pz_sub, pz_lt, pz_le, pz_eq, pz_b0, pz_b1, pz_bb, pz_ix, Int.sub_zero, Int.zero_add, Int.add_zero, Int.mul_zero, mb_qk, mb_qx, if_true, if_false, true_or, or_true, false_or, or_false, and_true, true_and, and_false, false_and, not_true_eq_false, not_false_eq_true, ite_self, List.lookup, List.length_cons, List.length_nil, ite_not, Nat.reduceAdd, Int.reduceEq, Int.reduceLT, Int.reduceLE, pz_n0, pz_n1, pz_n2, pz_n3, pz_n4, pz_n5, pz_n6, pz_n7, pz_n8, pz_n10, pz_n12, pz_n39, pz_n40, pz_n80, pz_n99, pz_n100, pz_n999, pz_nm1, pz_nm999, hc, pz_gf h0, List.getD_cons_zero, List.getD_cons_succ]) | (simp (disch := first | assumption | omega | exact Nat.le_of_ble_eq_true rfl | (intro _; first | rfl | simp (disch := decide) only [pz_su_t])) only [sX6_removeFrames_5, sX6_removeFrames_10, sX6_removeFrames_20, sX6_removeFrames_33, pz_add, pz_mul, pz_neg, pz_sub, pz_lt, pz_le, pz_eq, pz_b0, pz_b1, pz_bb, pz_ix, Int.sub_zero, Int.zero_add, Int.add_zero, Int.mul_zero, mb_qk, mb_qx, if_true, if_false, true_or, or_true, false_or, or_false, and_true, true_and, and_false, false_and, not_true_eq_false, not_false_eq_true, ite_self, List.lookup, List.length_cons, List.length_nil, ite_not, Nat.reduceAdd, Int.reduceEq, Int.reduceLT, Int.reduceLE, pz_n0, pz_n1, pz_n2, pz_n3, pz_n4, pz_n5, pz_n6, pz_n7, pz_n8, pz_n10, pz_n12, pz_n39, pz_n40, pz_n80, pz_n99, pz_n100, pz_n999, pz_nm1, pz_nm999]; first | split | skip) | split)
    all_goals first | rfl | omega | ((try unfold pz_b); (repeat' split) <;> first | rfl | omega | (simp_all only []; done) | (exfalso; simp_all only [not_true_eq_false, not_false_eq_true]; omega) | skip)
  | succ n ih =>
    intro i σ q0 h0 h1 h2 h3 h4
    have hc : (N ≤ i + k) = False := eq_false (by omega)
    obtain ⟨c, fs, c1, c2, c3⟩ := h2 (i + k) (by omega) (by omega)
    have hv : va_rf (q0 (iI (i + k)).toNatClampNeg) = .ref c := by rw [c1]; rfl
    obtain ⟨σ1, σE⟩ : ∃ σ1 : mb_S, σ1 = mb_up σ pf (.inl (13, 40, .inr (.inr (.inr (.inr (va_up q0 (iI i).toNatClampNeg (some c))))))) := ⟨_, rfl⟩
    obtain ⟨σ2, q', r1, r2, r3, r4, r5⟩ := ih (i + 1) σ1 _ (by rw [σE, gu_at hne]; exact h0) (by rw [σE]; exact gu_ae) (fun j j0 j1 => by
      rw [rz_vup h4 (by omega) j0 (by omega)]
      by_cases e : j = i
      · rw [if_pos e]; exact ⟨c, fs, rfl, by rw [σE, gu_at c3]; exact c2, c3⟩
      · rw [if_neg e]
        obtain ⟨c', fs', a1, a2, a3⟩ := h2 j j0 j1
        exact ⟨c', fs', a1, by rw [σE, gu_at a3]; exact a2, a3⟩) (by omega) (by omega)
    refine ⟨σ2, q', r1, fun q hq => (r2 q hq).trans (by rw [σE, gu_at hq]), r3.trans (by rw [σE]; rfl), fun j j0 j1 => ?_, fun d Q hd => ?_⟩
    · rw [r4 j j0 j1]
      by_cases e : j = i
      · rw [if_neg (by omega), rz_vup h4 (by omega) j0 (by omega), if_pos e, if_pos (by omega), e, c1]
      · by_cases e2 : i + 1 ≤ j ∧ j < N - k
        · rw [if_pos e2, if_pos (by omega), rz_vup h4 (by omega) (by omega) (by omega), if_neg (by omega)]
        · rw [if_neg e2, if_neg (by omega), rz_vup h4 (by omega) j0 (by omega), if_neg e]
    · have r6 := r5 d Q hd
      rw [σE] at r6
      rw [sX6_removeFrames_26]
      repeat' (first | (simp (config := {maxSteps := 1000000}) (disch := first | assumption | omega | exact Nat.le_of_ble_eq_true rfl | (intro _; first | rfl | simp (disch := decide) only [pz_su_t])) only [sX6_removeFrames_0, sX6_removeFrames_0n, sX6_removeFrames_1, sX6_removeFrames_2, sX6_removeFrames_8, sX6_removeFrames_9, sX6_removeFrames_13, sX6_removeFrames_14, sX6_removeFrames_14n, sX6_removeFrames_15, sX6_removeFrames_18, sX6_removeFrames_19, sX6_removeFrames_23, sX6_removeFrames_24, sX6_removeFrames_25, sX6_removeFrames_27, sX6_removeFrames_28, sX6_removeFrames_29, sX6_removeFrames_29n, sX6_removeFrames_30, sX6_removeFrames_36, sX6_removeFrames_36n, sX6_removeFrames_37, sX6_removeFrames_40, sX6_removeFrames_41, sX6_removeFrames_41n, sX6_removeFrames_42, sX6_removeFrames_45, sX6_removeFrames_46, sX6_removeFrames_47, sX6_removeFrames_48, sX6_removeFrames_49, sX6_removeFrames_50, sX6_removeFrames_53, sX6_removeFrames_57, sX6_removeFrames_57i, sX6_removeFrames_58, sX6_removeFrames_61, sX6_removeFrames_62, sX6_removeFrames_63, sX6_removeFrames_66, pz_add, pz_mul, pz_neg, pz_sub, pz_lt, pz_le, pz_eq, pz_b0, pz_b1, pz_bb, pz_ix, Int.sub_zero, Int.zero_add, Int.add_zero, Int.mul_zero, mb_qk, mb_qx, if_true, if_false, true_or, or_true, false_or, or_false, and_true, true_and, and_false, false_and, not_true_eq_false, not_false_eq_true, ite_self, List.lookup, List.length_cons, List.length_nil, ite_not, Nat.reduceAdd, Int.reduceEq, Int.reduceLT, Int.reduceLE, pz_n0, pz_n1, pz_n2, pz_n3, pz_n4, pz_n5, pz_n6, pz_n7, pz_n8, pz_n10, pz_n12, pz_n39, pz_n40, pz_n80, pz_n99, pz_n100, pz_n999, pz_nm1, pz_nm999, hc, r6, hv, pz_gf h0, pz_gq h1, pz_gf c2, List.getD_cons_zero, List.getD_cons_succ]) | (simp (disch := first | assumption | omega | exact Nat.le_of_ble_eq_true rfl | (intro _; first | rfl | simp (disch := decide) only [pz_su_t])) only [sX6_removeFrames_5, sX6_removeFrames_10, sX6_removeFrames_20, sX6_removeFrames_33, pz_add, pz_mul, pz_neg, pz_sub, pz_lt, pz_le, pz_eq, pz_b0, pz_b1, pz_bb, pz_ix, Int.sub_zero, Int.zero_add, Int.add_zero, Int.mul_zero, mb_qk, mb_qx, if_true, if_false, true_or, or_true, false_or, or_false, and_true, true_and, and_false, false_and, not_true_eq_false, not_false_eq_true, ite_self, List.lookup, List.length_cons, List.length_nil, ite_not, Nat.reduceAdd, Int.reduceEq, Int.reduceLT, Int.reduceLE, pz_n0, pz_n1, pz_n2, pz_n3, pz_n4, pz_n5, pz_n6, pz_n7, pz_n8, pz_n10, pz_n12, pz_n39, pz_n40, pz_n80, pz_n99, pz_n100, pz_n999, pz_nm1, pz_nm999]; first | split | skip) | split)
      all_goals first | rfl | omega | ((try unfold pz_b); (repeat' split) <;> first | rfl | omega | (simp_all only []; done) | (exfalso; simp_all only [not_true_eq_false, not_false_eq_true]; omega) | skip)
set_option maxRecDepth 20000 in
set_option maxHeartbeats 4000000 in
theorem wc_remove {p pf pc : Nat} {N f k : Int} {z4 : Value} {q0 : Nat → Option Nat} (hne : p ≠ pf) (hN : N ≤ 40) (hk : 1 ≤ k) (h0 : σ.1 p = some (.inr (6, [.ref pf, .ref pc, .int (iI (N)), z4]))) (h1 : σ.1 pf = some (.inl (13, 40, .inr (.inr (.inr (.inr q0)))))) (h2 : ∀ j : Int, 0 ≤ j → j < N → ∃ c fs, q0 (iI j).toNatClampNeg = some c ∧ σ.1 c = some (.inr (3, fs)) ∧ c ≠ pf) (hf0 : 0 ≤ f) (hf : f ≤ N - k) (hh : ∀ (d : Nat) (Q : mb_O → mb_S → Prop), mb_Ex d 33 [.ref p, .int (iI f)] σ Q = Q (.inl (some (.int (iI (1))))) σ) : ∃ σ' q', σ'.1 p = some (.inr (6, [.ref pf, .ref pc, .int (iI (N - k)), z4])) ∧ σ'.1 pf = some (.inl (13, 40, .inr (.inr (.inr (.inr q'))))) ∧ (∀ q, q ≠ p → q ≠ pf → σ'.1 q = σ.1 q) ∧ σ'.2 = σ.2 ∧ (∀ j : Int, 0 ≤ j → j < 40 → q' (iI j).toNatClampNeg = if f ≤ j ∧ j < N - k then q0 (iI (j + k)).toNatClampNeg else q0 (iI j).toNatClampNeg) ∧ ∀ (d : Nat) (Q : mb_O → mb_S → Prop), 1 ≤ d → mb_Ex d 37 [.ref p, .int (iI f), .int (iI k)] σ Q = Q (.inl none) σ' := by
  obtain ⟨σ1, q', r1, r2, r3, r4, r5⟩ := wl_remove (f := f) hne hN hk (N - k - f).toNat f σ q0 h0 h1 h2 (by omega) hf0
  have b0 := (r2 p hne).trans h0
  refine ⟨mb_up σ1 p (.inr (6, [.ref pf, .ref pc, .int (iI (N - k)), z4])), q', gu_ae, (gu_at hne.symm).trans r1, fun q q0 q1 => (gu_at q0).trans (r2 q q1), r3, r4, fun d Q hd => ?_⟩
  have r6 := r5 d Q hd
  show mb_Rn d 37 0 [some (.ref p), some (.int (iI f)), some (.int (iI k)), none] [] σ Q = _
  repeat' (first | (simp (config := {maxSteps := 1000000}) (disch := first | assumption | omega | exact Nat.le_of_ble_eq_true rfl | (intro _; first | rfl | simp (disch := decide) only [pz_su_t])) only [sX6_removeFrames_0, sX6_removeFrames_0n, sX6_removeFrames_1, sX6_removeFrames_2, sX6_removeFrames_8, sX6_removeFrames_9, sX6_removeFrames_13, sX6_removeFrames_14, sX6_removeFrames_14n, sX6_removeFrames_15, sX6_removeFrames_18, sX6_removeFrames_19, sX6_removeFrames_23, sX6_removeFrames_24, sX6_removeFrames_25, sX6_removeFrames_27, sX6_removeFrames_28, sX6_removeFrames_29, sX6_removeFrames_29n, sX6_removeFrames_30, sX6_removeFrames_36, sX6_removeFrames_36n, sX6_removeFrames_37, sX6_removeFrames_40, sX6_removeFrames_41, sX6_removeFrames_41n, sX6_removeFrames_42, sX6_removeFrames_45, sX6_removeFrames_46, sX6_removeFrames_47, sX6_removeFrames_48, sX6_removeFrames_49, sX6_removeFrames_50, sX6_removeFrames_53, sX6_removeFrames_56, sX6_removeFrames_56n, sX6_removeFrames_57, sX6_removeFrames_57i, sX6_removeFrames_58, sX6_removeFrames_61, sX6_removeFrames_62, sX6_removeFrames_63, sX6_removeFrames_66, pz_add, pz_mul, pz_neg, pz_sub, pz_lt, pz_le, pz_eq, pz_b0, pz_b1, pz_bb, pz_ix, Int.sub_zero, Int.zero_add, Int.add_zero, Int.mul_zero, mb_qk, mb_qx, if_true, if_false, true_or, or_true, false_or, or_false, and_true, true_and, and_false, false_and, not_true_eq_false, not_false_eq_true, ite_self, List.lookup, List.length_cons, List.length_nil, ite_not, Nat.reduceAdd, Int.reduceEq, Int.reduceLT, Int.reduceLE, pz_n0, pz_n1, pz_n2, pz_n3, pz_n4, pz_n5, pz_n6, pz_n7, pz_n8, pz_n10, pz_n12, pz_n39, pz_n40, pz_n80, pz_n99, pz_n100, pz_n999, pz_nm1, pz_nm999, hh, r6, pz_gf h0, pz_gf b0, gu_gf, gu_gi, gu_gq, gu_gfe, gu_gie, gu_gqe, List.set_cons_zero, List.set_cons_succ, Nat.reduceLT, Nat.reduceLeDiff, List.getD_cons_zero, List.getD_cons_succ]) | (simp (disch := first | assumption | omega | exact Nat.le_of_ble_eq_true rfl | (intro _; first | rfl | simp (disch := decide) only [pz_su_t])) only [sX6_removeFrames_5, sX6_removeFrames_10, sX6_removeFrames_20, sX6_removeFrames_33, pz_add, pz_mul, pz_neg, pz_sub, pz_lt, pz_le, pz_eq, pz_b0, pz_b1, pz_bb, pz_ix, Int.sub_zero, Int.zero_add, Int.add_zero, Int.mul_zero, mb_qk, mb_qx, if_true, if_false, true_or, or_true, false_or, or_false, and_true, true_and, and_false, false_and, not_true_eq_false, not_false_eq_true, ite_self, List.lookup, List.length_cons, List.length_nil, ite_not, Nat.reduceAdd, Int.reduceEq, Int.reduceLT, Int.reduceLE, pz_n0, pz_n1, pz_n2, pz_n3, pz_n4, pz_n5, pz_n6, pz_n7, pz_n8, pz_n10, pz_n12, pz_n39, pz_n40, pz_n80, pz_n99, pz_n100, pz_n999, pz_nm1, pz_nm999]; first | split | skip) | split)
  all_goals first | rfl | omega | ((try unfold pz_b); (repeat' split) <;> first | rfl | omega | (simp_all only []; done) | (exfalso; simp_all only [not_true_eq_false, not_false_eq_true]; omega) | skip)
/-- frames go on -/
theorem rz_L3 (hW : pz_W S) (h : rz_R σ S ad Fo) {s g k : Int} (hs0 : 0 ≤ s) (hs1 : s < S 9 0) (hk : 1 ≤ k) (hg0 : 0 ≤ g) (hg : g ≤ S 10 s - k) (hn : σ'.2 = σ.2) (hag : ∀ q, q ≠ ad 14 s → q ≠ ad 15 s → σ'.1 q = σ.1 q) (h14 : σ'.1 (ad 14 s) = some (.inr (6, [.ref (ad 15 s), .ref (ad 16 s), .int (iI (S 10 s - k)), .int (iI (pz_sm (fun a => pz_ca S a s) 0 8))]))) (h15 : ∃ q', σ'.1 (ad 15 s) = some (.inl (13, 40, .inr (.inr (.inr (.inr q'))))) ∧ ∀ j : Int, 0 ≤ j → j < S 10 s - k → q' (iI j).toNatClampNeg = some (ad 17 (40 * s + (if g ≤ j then j + k else j)))) : ∃ ad', ad' 0 0 = ad 0 0 ∧ ad' 14 s = ad 14 s ∧ rz_R σ' (rz_ct S s g k) ad' Fo := by
  obtain ⟨ad', adE⟩ : ∃ ad' : rz_A, ad' = (fun t i => if ((t = 17 ∨ t = 18) ∧ 40 * s + g ≤ i ∧ i < 40 * s + (S 10 s - k)) then ad t (i + k) else ad t i) := ⟨_, rfl⟩
  have adn : ∀ t i, ((t = 17 ∨ t = 18) ∧ 40 * s + g ≤ i ∧ i < 40 * s + (S 10 s - k)) → ad' t i = ad t (i + k) := fun t i c => by rw [adE]; exact if_pos c
  have ado : ∀ t i, ¬ ((t = 17 ∨ t = 18) ∧ 40 * s + g ≤ i ∧ i < 40 * s + (S 10 s - k)) → ad' t i = ad t i := fun t i c => by rw [adE]; exact if_neg c
  have w10 := pw_10 hW s
  have ls : rz_lv S 14 s := ⟨hs0, hs1⟩
  have ls15 : rz_lv S 15 s := ⟨hs0, hs1⟩
  have tt : ∀ t, t ≠ 10 → t ≠ 15 → t ≠ 16 → t ≠ 17 → t ≠ 18 → t ≠ 19 → rz_ct S s g k t = S t := fun t t1 t2 t3 t4 t5 t6 => rz_ct_t t1 t2 t3 t4 t5 t6
  have hS : ∀ x, x ∉ [10, 15, 16, 17, 18, 19] → rz_ct S s g k x = S x := fun x hx => tt x (fun e => hx (by rw [e]; decide)) (fun e => hx (by rw [e]; decide)) (fun e => hx (by rw [e]; decide)) (fun e => hx (by rw [e]; decide)) (fun e => hx (by rw [e]; decide)) (fun e => hx (by rw [e]; decide))
  have ag : ∀ t i, rz_lv S t i → (t ∉ [14, 15] ∨ i ≠ s) → σ'.1 (ad t i) = σ.1 (ad t i) := fun t i hl c => hag _ (rz_ne h hl (t' := 14) ls (fun g => c.elim (fun k => k (by rw [g.1]; decide)) (fun k => k g.2))) (rz_ne h hl (t' := 15) ls15 (fun g => c.elim (fun k => k (by rw [g.1]; decide)) (fun k => k g.2)))
  have e10 : ∀ x, rz_ct S s g k 10 x = if x = s then S 10 s - k else S 10 x := fun x => rz_ct_10
  have hfl : ∀ i, (0 ≤ i ∧ i / 40 < rz_ct S s g k 9 0 ∧ i % 40 < rz_ct S s g k 10 (i / 40)) → (0 ≤ i ∧ i / 40 < S 9 0 ∧ i % 40 < S 10 (i / 40)) ∧ (i / 40 = s → i % 40 < S 10 s - k) := fun i ⟨k1, k2, k3⟩ => by
    rw [hS 9 (by decide)] at k2
    rw [e10] at k3
    by_cases e : i / 40 = s
    · rw [if_pos e] at k3; rw [e]; exact ⟨⟨k1, hs1, by omega⟩, fun _ => k3⟩
    · rw [if_neg e] at k3; exact ⟨⟨k1, k2, k3⟩, fun c => absurd c e⟩
  have hfk : ∀ i, 40 * s + g ≤ i → i < 40 * s + (S 10 s - k) → 0 ≤ i + k ∧ (i + k) / 40 < S 9 0 ∧ (i + k) % 40 < S 10 ((i + k) / 40) := fun i i1 i2 => by
    have e1 : (i + k) / 40 = s := by omega
    rw [e1]
    exact ⟨by omega, hs1, by omega⟩
  have hlv : ∀ t i, rz_lv (rz_ct S s g k) t i → rz_lv S t i := by
    have hrl : ∀ r, rz_rl (rz_ct S s g k) r → rz_rl S r := fun r ⟨k1, k2, k3, k4⟩ => ⟨k1, k2, by rw [hS 1 (by decide)] at k3; exact k3, by rw [hS 1 (by decide), hS 2 (by decide)] at k4; exact k4⟩
    have e1 := hS 1 (by decide)
    have e3 := hS 3 (by decide)
    have e9 := hS 9 (by decide)
    have e11 := hS 11 (by decide)
    have e21 := hS 21 (by decide)
    exact rz_tag (fun i k => k) (fun i k => k) (fun i k => k) (fun i k => k) (fun i k => ⟨k.1, by rw [← e1]; exact k.2⟩) (fun i k => ⟨k.1, by rw [← e1]; exact k.2⟩) (fun i k => hrl i k) (fun i k => hrl i k) (fun i k => hrl i k) (fun i k => ⟨hrl i k.1, k.2⟩) (fun i k => ⟨hrl _ k.1, by rw [← e3]; exact k.2⟩) (fun i k => ⟨hrl _ k.1, by rw [← e3]; exact k.2⟩) (fun i k => ⟨hrl _ k.1, by rw [← e3]; exact k.2⟩) (fun i k => ⟨hrl _ k.1, by rw [← e3]; exact k.2⟩) (fun i k => ⟨k.1, by rw [← e9]; exact k.2⟩) (fun i k => ⟨k.1, by rw [← e9]; exact k.2⟩) (fun i k => ⟨k.1, by rw [← e9]; exact k.2⟩) (fun i k => (hfl i k).1) (fun i k => (hfl i k).1) (fun i k => ⟨k.1, by rw [← e9]; exact k.2.1, by rw [← e11]; exact k.2.2⟩) (fun i k => ⟨k.1, by rw [← e21]; exact k.2⟩) (fun t i k => k)
  have keep : ∀ t i, rz_lv S t i → t ∉ [14, 15, 17, 18] → rz_dp S (rz_ct S s g k) ad ad' t i → ∃ e, σ'.1 (ad' t i) = some e ∧ rz_cp (rz_ct S s g k) ad' t i e := fun t i hl hm hd => rz_k h hl (ado t i (fun c => hm (by have := c.1; revert this; simp; omega))) (ag t i hl (Or.inl (fun c => hm (by revert c; simp; omega)))) hd
  have dps : ∀ t i, rz_lv S t i → t ∉ [14, 15, 17, 18] → rz_dp S (rz_ct S s g k) ad ad' t i := by
    have d0 : ∀ t, t ∉ [14, 15, 17, 18] → ∀ x ∈ rz_ds t, x ∉ [10, 15, 16, 17, 18, 19] := rz_tag (by decide) (by decide) (by decide) (by decide) (by decide) (by decide) (by decide) (by decide) (by decide) (by decide) (by decide) (by decide) (by decide) (by decide) (by decide) (by decide) (by decide) (by decide) (by decide) (by decide) (by decide) (fun t _ x hx => absurd hx (by simp [rz_ds]))
    intro t i hl hm
    have k0 := rz_dss (ad := ad) t (i := i) (fun x hx => hS x (d0 t hm x hx))
    revert i
    revert hm
    revert t
    exact rz_tag (fun hm i hl k0 => ⟨k0.1, ado 1 0 (by omega), ado 2 0 (by omega), ado 3 0 (by omega)⟩) (fun hm i hl k0 => ⟨k0.1, fun a _ _ => ado 4 a (by omega)⟩) (fun hm i hl k0 => ⟨k0.1, fun a _ _ => ado 14 a (by omega)⟩) (fun hm i hl k0 => ⟨k0.1, fun a _ _ => ado 20 a (by omega)⟩) (fun hm i hl k0 => ⟨k0.1, ado 6 i (by omega), ado 5 i (by omega)⟩) (fun hm i hl k0 => ⟨k0.1, fun a _ _ => ado 6 _ (by omega)⟩) (fun hm i hl k0 => ⟨k0.1, ado 7 i (by omega), ado 8 i (by omega), fun _ => ado 9 i (by omega)⟩) (fun hm i hl k0 => k0) (fun hm i hl k0 => ⟨k0.1, fun a _ _ => ado 10 _ (by omega)⟩) (fun hm i hl k0 => k0) (fun hm i hl k0 => ⟨k0.1, ado 11 i (by omega), ado 12 i (by omega), ado 13 i (by omega)⟩) (fun hm i hl k0 => k0) (fun hm i hl k0 => k0) (fun hm i hl k0 => k0) (fun hm => absurd (by decide) hm) (fun hm => absurd (by decide) hm) (fun hm i hl k0 a a0 a1 => ⟨(k0 a a0 a1).1, fun _ => ado 19 _ (by omega)⟩) (fun hm => absurd (by decide) hm) (fun hm => absurd (by decide) hm) (fun hm i hl k0 => k0) (fun hm i hl k0 => k0) (fun t hm i hl k0 => True.intro)
  refine ⟨ad', ado 0 0 (by omega), ado 14 s (by omega), rz_g h (by rw [hn]; exact Nat.le_refl _) (fun t i => if ((t = 17 ∨ t = 18) ∧ 40 * s + g ≤ i ∧ i < 40 * s + (S 10 s - k)) then i + k else i) (fun t i hl' => ?_) (fun t i i' hl hl' e => ?_) (fun t i t' i' hl hl' c e => ?_)⟩
  · have hl := hlv t i hl'
    by_cases hm : t ∉ [14, 15, 17, 18]
    · refine ⟨keep t i hl hm (dps t i hl hm), Or.inl ?_⟩
      have hp : ¬ ((t = 17 ∨ t = 18) ∧ 40 * s + g ≤ i ∧ i < 40 * s + (S 10 s - k)) := fun c => hm (by have := c.1; revert this; simp; omega)
      rw [if_neg hp]
      exact ⟨hl, ado t i hp⟩
    · have hm := Classical.not_not.1 hm
      simp only [List.mem_cons, List.not_mem_nil, or_false] at hm
      rcases hm with e | e | e | e <;> subst e
      · rw [if_neg (by omega), ado 14 i (by omega)]
        refine ⟨?_, Or.inl ⟨hl, rfl⟩⟩
        by_cases e : i = s
        · subst e
          refine ⟨_, h14, ?_⟩
          show _ = _
          rw [ado 15 i (by omega), ado 16 i (by omega), e10, if_pos rfl]
          have qq : pz_sm (fun a => pz_ca (rz_ct S i g k) a i) 0 8 = pz_sm (fun a => pz_ca S a i) 0 8 := pz_sm_congr _ _ (fun j _ _ => by show pz_b _ = pz_b _; rw [hS 11 (by decide)])
          rw [qq]
        · have := rz_k (S' := rz_ct S s g k) (ad' := ad') h hl (ado 14 i (by omega)) (ag 14 i hl (Or.inr e)) ⟨by rw [e10, if_neg e], fun _ _ _ => by rw [hS 11 (by decide)], ado 15 i (by omega), ado 16 i (by omega)⟩
          rw [ado 14 i (by omega)] at this
          exact this
      · rw [if_neg (by omega), ado 15 i (by omega)]
        refine ⟨?_, Or.inl ⟨hl, rfl⟩⟩
        by_cases e : i = s
        · subst e
          obtain ⟨q', q1, q2⟩ := h15
          refine ⟨_, q1, q', rfl, fun j j0 j1 => ?_⟩
          rw [e10, if_pos rfl] at j1
          rw [q2 j j0 j1]
          refine congrArg some ?_
          by_cases c : g ≤ j
          · rw [if_pos c, adn 17 _ ⟨Or.inl rfl, by omega, by omega⟩, Int.add_assoc]
          · rw [if_neg c, ado 17 _ (by omega)]
        · have w10i := pw_10 hW i
          have li := hl.1
          have := rz_k (S' := rz_ct S s g k) (ad' := ad') h hl (ado 15 i (by omega)) (ag 15 i hl (Or.inr e)) ⟨by rw [e10, if_neg e], fun j _ _ => ado 17 _ (by omega)⟩
          rw [ado 15 i (by omega)] at this
          exact this
      · by_cases c : 40 * s + g ≤ i ∧ i < 40 * s + (S 10 s - k)
        · have lk : rz_lv S 17 (i + k) := hfk i c.1 c.2
          rw [if_pos ⟨Or.inl rfl, c⟩, adn 17 i ⟨Or.inl rfl, c⟩]
          refine ⟨⟨_, (ag 17 _ lk (Or.inl (by decide))).trans (rz_geq h lk (fun _ k => k)), ?_⟩, Or.inl ⟨lk, rfl⟩⟩
          show _ = _
          rw [rz_ct_15 hk hg, if_pos c, rz_ct_16 hk hg, if_pos c, adn 18 i ⟨Or.inr rfl, c⟩]
        · rw [if_neg (by omega), ado 17 i (by omega)]
          refine ⟨⟨_, (ag 17 _ hl (Or.inl (by decide))).trans (rz_geq h hl (fun _ k => k)), ?_⟩, Or.inl ⟨hl, rfl⟩⟩
          show _ = _
          rw [rz_ct_15 hk hg, if_neg c, rz_ct_16 hk hg, if_neg c, ado 18 i (by omega)]
      · by_cases c : 40 * s + g ≤ i ∧ i < 40 * s + (S 10 s - k)
        · have lk : rz_lv S 18 (i + k) := hfk i c.1 c.2
          rw [if_pos ⟨Or.inr rfl, c⟩, adn 18 i ⟨Or.inr rfl, c⟩]
          refine ⟨?_, Or.inl ⟨lk, rfl⟩⟩
          obtain ⟨e, e1, e2⟩ := rz_get h lk
          refine ⟨e, (ag 18 _ lk (Or.inl (by decide))).trans e1, rz_ai_c (fun j j0 j1 => ?_) e2⟩
          show (if rz_ct S s g k 16 i = 0 then (-1 : Int) else rz_ct S s g k 17 (8 * i + j)) = if S 16 (i + k) = 0 then (-1 : Int) else S 17 (8 * (i + k) + j)
          have e17 : rz_ct S s g k 17 (8 * i + j) = S 17 (8 * (i + k) + j) := by rw [rz_ct_17 hk hg, if_pos (by omega), show 8 * i + j + 8 * k = 8 * (i + k) + j by omega]
          rw [rz_ct_16 hk hg, if_pos c, e17]
        · rw [if_neg (by omega), ado 18 i (by omega)]
          refine ⟨?_, Or.inl ⟨hl, rfl⟩⟩
          obtain ⟨e, e1, e2⟩ := rz_get h hl
          refine ⟨e, (ag 18 _ hl (Or.inl (by decide))).trans e1, rz_ai_c (fun j j0 j1 => ?_) e2⟩
          show (if rz_ct S s g k 16 i = 0 then (-1 : Int) else rz_ct S s g k 17 (8 * i + j)) = if S 16 i = 0 then (-1 : Int) else S 17 (8 * i + j)
          have e17 : rz_ct S s g k 17 (8 * i + j) = S 17 (8 * i + j) := by rw [rz_ct_17 hk hg, if_neg (by omega)]
          rw [rz_ct_16 hk hg, if_neg c, e17]
  · have e2 : (if ((t = 17 ∨ t = 18) ∧ 40 * s + g ≤ i ∧ i < 40 * s + (S 10 s - k)) then i + k else i) = if ((t = 17 ∨ t = 18) ∧ 40 * s + g ≤ i' ∧ i' < 40 * s + (S 10 s - k)) then i' + k else i' := e
    by_cases ht : t = 17 ∨ t = 18
    · have f1 := hfl i (by rcases ht with e | e <;> subst e <;> exact hl)
      have f2 := hfl i' (by rcases ht with e | e <;> subst e <;> exact hl')
      obtain ⟨⟨a1, a2, a3⟩, a4⟩ := f1
      obtain ⟨⟨b1, b2, b3⟩, b4⟩ := f2
      by_cases c1 : 40 * s + g ≤ i ∧ i < 40 * s + (S 10 s - k) <;> by_cases c2 : 40 * s + g ≤ i' ∧ i' < 40 * s + (S 10 s - k)
      · rw [if_pos ⟨ht, c1⟩, if_pos ⟨ht, c2⟩] at e2; omega
      · rw [if_pos ⟨ht, c1⟩, if_neg (fun g => c2 g.2)] at e2
        have : i' / 40 = s := by omega
        have := b4 this
        omega
      · rw [if_neg (fun g => c1 g.2), if_pos ⟨ht, c2⟩] at e2
        have : i / 40 = s := by omega
        have := a4 this
        omega
      · rw [if_neg (fun g => c1 g.2), if_neg (fun g => c2 g.2)] at e2; exact e2
    · rw [if_neg (fun g => ht g.1), if_neg (fun g => ht g.1)] at e2; exact e2
  · exfalso
    have hl0 := hlv t i hl
    by_cases c1 : ((t = 17 ∨ t = 18) ∧ 40 * s + g ≤ i ∧ i < 40 * s + (S 10 s - k))
    · rw [adn t i c1] at c
      have lk : rz_lv S t (i + k) := by
        have q := hfk i c1.2.1 c1.2.2
        rcases c1.1 with e | e <;> subst e <;> exact q
      have := (h.1 t _ lk).2.1
      omega
    · rw [ado t i c1] at c
      have := (h.1 t _ hl0).2.1
      omega
end
