/-! scene of the class -/
section
variable {σ σ' : mb_S} {S S' : pz_S} {ad ad' : rz_A} {Fo : Nat → Prop}
set_option maxRecDepth 20000 in
set_option maxHeartbeats 4000000 in
theorem wl_initFr {c av : Nat} {v : Int} {fl : Value} (hne : c ≠ av) : ∀ (n : Nat) (i : Int) (σ : mb_S) (g0 : Nat → Int32), σ.1 c = some (.inr (3, [.int (iI v), .ref av, fl])) → σ.1 av = some (.inl (0, 8, .inl g0)) → i + n = 8 → 0 ≤ i → (∀ k : Int, 0 ≤ k → k < i → g0 (iI k).toNatClampNeg = iI (-1)) → ∃ σ', (∃ g, σ'.1 av = some (.inl (0, 8, .inl g)) ∧ (∀ k : Int, 0 ≤ k → k < 8 → g (iI k).toNatClampNeg = iI (-1))) ∧ (∀ q, q ≠ av → σ'.1 q = σ.1 q) ∧ σ'.2 = σ.2 ∧ ∀ (d : Nat) (Q : mb_O → mb_S → Prop), mb_Rn d 16 19 [some (.ref c), some (.int (iI v)), some (.int (iI (i)))] [] σ Q = Q (.inl none) σ' := by
  intro n
  induction n with
  | zero =>
    intro i σ g0 h0 h1 h2 h3 h4
    have hc : (8 ≤ i) = True := eq_true (by omega)
    refine ⟨σ, ⟨g0, h1, fun k k1 k2 => h4 k k1 (by omega)⟩, fun q _ => rfl, rfl, fun d Q => ?_⟩
    rw [sX3_init_19]
    repeat' (first | (simp (config := {maxSteps := 1000000}) (disch := first | assumption | omega | exact Nat.le_of_ble_eq_true rfl | (intro _; first | rfl | simp (disch := decide) only [pz_su_t])) only [sX3_init_0, sX3_init_0n, sX3_init_1, sX3_init_4, sX3_init_4n, sX3_init_5, sX3_init_7, sX3_init_9, sX3_init_9n, sX3_init_12, sX3_init_12n, sX3_init_13, sX3_init_14, sX3_init_17, sX3_init_18, sX3_init_20, sX3_init_25, sX3_init_25n, sX3_init_26, sX3_init_29, sX3_init_30, sX3_init_31, sX3_init_32, sX3_init_35, sX3_init_38, pz_add, pz_mul, pz_neg, pz_sub, pz_lt, pz_le, pz_eq, pz_b0, pz_b1, pz_bb, pz_ix, Int.sub_zero, Int.zero_add, Int.add_zero, Int.mul_zero, mb_qk, mb_qx, if_true, if_false, true_or, or_true, false_or, or_false, and_true, true_and, and_false, false_and, not_true_eq_false, not_false_eq_true, ite_self, List.lookup, List.length_cons, List.length_nil, ite_not, Nat.reduceAdd, Int.reduceEq, Int.reduceLT, Int.reduceLE, pz_n0, pz_n1, pz_n2, pz_n3, pz_n4, pz_n5, pz_n6, pz_n7, pz_n8, pz_n10, pz_n12, pz_n39, pz_n40, pz_n80, pz_n99, pz_n100, pz_n999, pz_nm1, pz_nm999, hc]) | (simp (disch := first | assumption | omega | exact Nat.le_of_ble_eq_true rfl | (intro _; first | rfl | simp (disch := decide) only [pz_su_t])) only [sX3_init_22, pz_add, pz_mul, pz_neg, pz_sub, pz_lt, pz_le, pz_eq, pz_b0, pz_b1, pz_bb, pz_ix, Int.sub_zero, Int.zero_add, Int.add_zero, Int.mul_zero, mb_qk, mb_qx, if_true, if_false, true_or, or_true, false_or, or_false, and_true, true_and, and_false, false_and, not_true_eq_false, not_false_eq_true, ite_self, List.lookup, List.length_cons, List.length_nil, ite_not, Nat.reduceAdd, Int.reduceEq, Int.reduceLT, Int.reduceLE, pz_n0, pz_n1, pz_n2, pz_n3, pz_n4, pz_n5, pz_n6, pz_n7, pz_n8, pz_n10, pz_n12, pz_n39, pz_n40, pz_n80, pz_n99, pz_n100, pz_n999, pz_nm1, pz_nm999]; first | split | skip) | split)
    all_goals first | rfl | omega | ((try unfold pz_b); (repeat' split) <;> first | rfl | omega | (simp_all only []; done) | (exfalso; simp_all only [not_true_eq_false, not_false_eq_true]; omega) | skip)
  | succ n ih =>
    intro i σ g0 h0 h1 h2 h3 h4
    have hc : (8 ≤ i) = False := eq_false (by omega)
    obtain ⟨σ1, a1, a2, a3, a4⟩ := ih (i + 1) (mb_up σ av (.inl (0, 8, .inl (upd g0 (iI i).toNatClampNeg (iI (-1)))))) _ ((gu_at hne).trans h0) gu_ae (by omega) (by omega) (fun k k1 k2 => by
      refine rz_upd (n := 8) (F := fun k => if k < i then -1 else (g0 (iI k).toNatClampNeg).toInt) (F' := fun k => if k = i then -1 else if k < i then -1 else (g0 (iI k).toNatClampNeg).toInt) (fun k k1 k2 => ?_) h3 (by omega) (by decide) (fun k k1 k2 => rfl) k k1 (by omega) |>.trans ?_
      · by_cases e : k < i
        · rw [h4 k k1 e]; simp only [if_pos e]
        · simp only [if_neg e]; exact (pz_of _).symm
      · by_cases e : k = i
        · simp only [if_pos e]
        · simp only [if_neg e, if_pos (show k < i by omega)])
    refine ⟨σ1, a1, fun q hq => (a2 q hq).trans (gu_at hq), a3, fun d Q => ?_⟩
    rw [sX3_init_19]
    have a5 := a4 d Q
    repeat' (first | (simp (config := {maxSteps := 1000000}) (disch := first | assumption | omega | exact Nat.le_of_ble_eq_true rfl | (intro _; first | rfl | simp (disch := decide) only [pz_su_t])) only [sX3_init_0, sX3_init_0n, sX3_init_1, sX3_init_4, sX3_init_4n, sX3_init_5, sX3_init_7, sX3_init_9, sX3_init_9n, sX3_init_12, sX3_init_12n, sX3_init_13, sX3_init_14, sX3_init_17, sX3_init_18, sX3_init_20, sX3_init_25, sX3_init_25n, sX3_init_26, sX3_init_29, sX3_init_30, sX3_init_31, sX3_init_32, sX3_init_35, sX3_init_38, pz_add, pz_mul, pz_neg, pz_sub, pz_lt, pz_le, pz_eq, pz_b0, pz_b1, pz_bb, pz_ix, Int.sub_zero, Int.zero_add, Int.add_zero, Int.mul_zero, mb_qk, mb_qx, if_true, if_false, true_or, or_true, false_or, or_false, and_true, true_and, and_false, false_and, not_true_eq_false, not_false_eq_true, ite_self, List.lookup, List.length_cons, List.length_nil, ite_not, Nat.reduceAdd, Int.reduceEq, Int.reduceLT, Int.reduceLE, pz_n0, pz_n1, pz_n2, pz_n3, pz_n4, pz_n5, pz_n6, pz_n7, pz_n8, pz_n10, pz_n12, pz_n39, pz_n40, pz_n80, pz_n99, pz_n100, pz_n999, pz_nm1, pz_nm999, hc, a5, pz_gf h0, pz_gi h1, List.getD_cons_zero, List.getD_cons_succ]) | (simp (disch := first | assumption | omega | exact Nat.le_of_ble_eq_true rfl | (intro _; first | rfl | simp (disch := decide) only [pz_su_t])) only [sX3_init_22, pz_add, pz_mul, pz_neg, pz_sub, pz_lt, pz_le, pz_eq, pz_b0, pz_b1, pz_bb, pz_ix, Int.sub_zero, Int.zero_add, Int.add_zero, Int.mul_zero, mb_qk, mb_qx, if_true, if_false, true_or, or_true, false_or, or_false, and_true, true_and, and_false, false_and, not_true_eq_false, not_false_eq_true, ite_self, List.lookup, List.length_cons, List.length_nil, ite_not, Nat.reduceAdd, Int.reduceEq, Int.reduceLT, Int.reduceLE, pz_n0, pz_n1, pz_n2, pz_n3, pz_n4, pz_n5, pz_n6, pz_n7, pz_n8, pz_n10, pz_n12, pz_n39, pz_n40, pz_n80, pz_n99, pz_n100, pz_n999, pz_nm1, pz_nm999]; first | split | skip) | split)
    all_goals first | rfl | omega | ((try unfold pz_b); (repeat' split) <;> first | rfl | omega | (simp_all only []; done) | (exfalso; simp_all only [not_true_eq_false, not_false_eq_true]; omega) | skip)

theorem wc_initFr {c : Nat} {v : Int} (h0 : σ.1 c = some (.inr (3, [.int 0, .null, .int 0]))) (h1 : c < σ.2.1) : ∃ σ', σ'.1 c = some (.inr (3, [.int (iI v), .ref σ.2.1, .int 0])) ∧ (∃ g, σ'.1 σ.2.1 = some (.inl (0, 8, .inl g)) ∧ (∀ k : Int, 0 ≤ k → k < 8 → g (iI k).toNatClampNeg = iI (-1))) ∧ (∀ q, q < σ.2.1 → q ≠ c → σ'.1 q = σ.1 q) ∧ (σ'.2.1 = σ.2.1 + 1 ∧ σ'.2.2 = σ.2.2 + 8) ∧ ∀ (d : Nat) (Q : mb_O → mb_S → Prop), 1 ≤ d → mb_Ex d 16 [.ref c, .int (iI v)] σ Q = Q (.inl none) σ' := by
  obtain ⟨σ1, a1, a2, a3, a4⟩ := wl_initFr (c := c) (av := σ.2.1) (v := v) (fl := .int 0) (by omega) 8 0 (mb_up (mb_al σ (.inl (0, 8, .inl (fun _ => 0))) 8) c (.inr (3, [.int (iI v), .ref σ.2.1, .int 0]))) (fun _ => 0) gu_ae ((gu_at (by omega)).trans (ga_ae rfl)) (by omega) (by omega) (fun k k1 k2 => by omega)
  refine ⟨σ1, (a2 c (by omega)).trans gu_ae, a1, fun q q1 q2 => (a2 q (by omega)).trans ((gu_at q2).trans (ga_at (by omega))), ⟨by rw [a3]; rfl, by rw [a3]; rfl⟩, fun d Q hd => ?_⟩
  have a5 := a4 d Q
  show mb_Rn d 16 0 [some (.ref c), some (.int (iI v)), none] [] σ Q = _
  have r5 : ∀ s, mb_Rn d 16 18 [some (.ref c), some (.int (iI v)), none] [.int 0] s Q = mb_Rn d 16 19 [some (.ref c), some (.int (iI v)), some (.int (iI 0))] [] s Q := fun s => by simp only [sX3_init_18]; rfl
  repeat' (first | (simp (config := {maxSteps := 1000000}) (disch := first | assumption | omega | exact Nat.le_of_ble_eq_true rfl | (intro _; first | rfl | simp (disch := decide) only [pz_su_t])) only [sX3_init_0, sX3_init_0n, sX3_init_1, sX3_init_4, sX3_init_4n, sX3_init_5, sX3_init_7, sX3_init_9, sX3_init_9n, sX3_init_12, sX3_init_12n, sX3_init_13, sX3_init_14, sX3_init_17, sX3_init_20, sX3_init_25, sX3_init_25n, sX3_init_26, sX3_init_29, sX3_init_30, sX3_init_31, sX3_init_32, sX3_init_35, sX3_init_38, pz_add, pz_mul, pz_neg, pz_sub, pz_lt, pz_le, pz_eq, pz_b0, pz_b1, pz_bb, pz_ix, Int.sub_zero, Int.zero_add, Int.add_zero, Int.mul_zero, mb_qk, mb_qx, if_true, if_false, true_or, or_true, false_or, or_false, and_true, true_and, and_false, false_and, not_true_eq_false, not_false_eq_true, ite_self, List.lookup, List.length_cons, List.length_nil, ite_not, Nat.reduceAdd, Int.reduceEq, Int.reduceLT, Int.reduceLE, r5, a5, pz_gf h0, gu_uu, ga_gf, ga_gi, ga_gq, ga_gfe, ga_gie, ga_gqe, ga_n, gu_n, gu_gf, gu_gi, gu_gq, gu_gfe, gu_gie, gu_gqe, List.set_cons_zero, List.set_cons_succ, Nat.reduceLT, Nat.reduceLeDiff, List.getD_cons_zero, List.getD_cons_succ]) | (simp (disch := first | assumption | omega | exact Nat.le_of_ble_eq_true rfl | (intro _; first | rfl | simp (disch := decide) only [pz_su_t])) only [sX3_init_22, pz_add, pz_mul, pz_neg, pz_sub, pz_lt, pz_le, pz_eq, pz_b0, pz_b1, pz_bb, pz_ix, Int.sub_zero, Int.zero_add, Int.add_zero, Int.mul_zero, mb_qk, mb_qx, if_true, if_false, true_or, or_true, false_or, or_false, and_true, true_and, and_false, false_and, not_true_eq_false, not_false_eq_true, ite_self, List.lookup, List.length_cons, List.length_nil, ite_not, Nat.reduceAdd, Int.reduceEq, Int.reduceLT, Int.reduceLE]; first | split | skip) | split)
/-- a scene that is being made: i frames stand -/
def rz_si (p pf pc B s0 : Nat) (i : Int) (σ : mb_S) : Prop := σ.1 p = some (.inr (6, [.ref pf, .ref pc, .int (iI i), .int 0])) ∧ (∃ g, σ.1 pf = some (.inl (13, 40, .inr (.inr (.inr (.inr g))))) ∧ ∀ k : Int, 0 ≤ k → k < i → g (iI k).toNatClampNeg = some (B + 2 * k.toNat)) ∧ (∀ k : Int, 0 ≤ k → k < i → σ.1 (B + 2 * k.toNat) = some (.inr (3, [.int (iI k), .ref (B + 2 * k.toNat + 1), .int 0])) ∧ ∃ g, σ.1 (B + 2 * k.toNat + 1) = some (.inl (0, 8, .inl g)) ∧ (∀ j : Int, 0 ≤ j → j < 8 → g (iI j).toNatClampNeg = iI (-1))) ∧ σ.2.1 = B + 2 * i.toNat ∧ σ.2.2 = s0 + 11 * i.toNat
set_option maxRecDepth 20000 in
set_option maxHeartbeats 4000000 in
theorem wl_initSc {p pf pc B s0 : Nat} {m : Int} (hp : p < B) (hf : pf < B) (hne : p ≠ pf) (hm : m ≤ 40) : ∀ (n : Nat) (i : Int) (σ : mb_S), rz_si p pf pc B s0 i σ → i + n = m → 0 ≤ i → ∃ σ', rz_si p pf pc B s0 m σ' ∧ (∀ q, q < B → q ≠ p → q ≠ pf → σ'.1 q = σ.1 q) ∧ ∀ (d : Nat) (Q : mb_O → mb_S → Prop), 2 ≤ d → mb_Rn d 32 24 [some (.ref p), some (.int (iI m)), some (.int (iI (i)))] [] σ Q = Q (.inl none) σ' := by
  intro n
  induction n with
  | zero =>
    intro i σ h0 h1 h2
    have e : i = m := by omega
    subst e
    have hc : (i ≤ i) = True := eq_true (by omega)
    refine ⟨σ, h0, fun q _ _ _ => rfl, fun d Q hd => ?_⟩
    rw [sX6_init_24]
    repeat' (first | (simp (config := {maxSteps := 1000000}) (disch := first | assumption | omega | exact Nat.le_of_ble_eq_true rfl | (intro _; first | rfl | simp (disch := decide) only [pz_su_t])) only [sX6_init_0, sX6_init_0n, sX6_init_1, sX6_init_4, sX6_init_4n, sX6_init_5, sX6_init_7, sX6_init_10, sX6_init_10n, sX6_init_13, sX6_init_13n, sX6_init_14, sX6_init_16, sX6_init_19, sX6_init_19n, sX6_init_22, sX6_init_23, sX6_init_25, sX6_init_29, sX6_init_30, sX6_init_35, sX6_init_35n, sX6_init_36, sX6_init_39, sX6_init_40, sX6_init_43, sX6_init_43i, sX6_init_44, sX6_init_45, sX6_init_48, sX6_init_49, sX6_init_49n, sX6_init_50, sX6_init_50i, sX6_init_51, sX6_init_54, sX6_init_55, sX6_init_56, sX6_init_59, sX6_init_62, sX6_init_65, pz_add, pz_mul, pz_neg, pz_sub, pz_lt, pz_le, pz_eq, pz_b0, pz_b1, pz_bb, pz_ix, Int.sub_zero, Int.zero_add, Int.add_zero, Int.mul_zero, mb_qk, mb_qx, if_true, if_false, true_or, or_true, false_or, or_false, and_true, true_and, and_false, false_and, not_true_eq_false, not_false_eq_true, ite_self, List.lookup, List.length_cons, List.length_nil, ite_not, Nat.reduceAdd, Int.reduceEq, Int.reduceLT, Int.reduceLE, pz_n0, pz_n1, pz_n2, pz_n3, pz_n4, pz_n5, pz_n6, pz_n7, pz_n8, pz_n10, pz_n12, pz_n39, pz_n40, pz_n80, pz_n99, pz_n100, pz_n999, pz_nm1, pz_nm999, hc]) | (simp (disch := first | assumption | omega | exact Nat.le_of_ble_eq_true rfl | (intro _; first | rfl | simp (disch := decide) only [pz_su_t])) only [sX6_init_26, sX6_init_32, pz_add, pz_mul, pz_neg, pz_sub, pz_lt, pz_le, pz_eq, pz_b0, pz_b1, pz_bb, pz_ix, Int.sub_zero, Int.zero_add, Int.add_zero, Int.mul_zero, mb_qk, mb_qx, if_true, if_false, true_or, or_true, false_or, or_false, and_true, true_and, and_false, false_and, not_true_eq_false, not_false_eq_true, ite_self, List.lookup, List.length_cons, List.length_nil, ite_not, Nat.reduceAdd, Int.reduceEq, Int.reduceLT, Int.reduceLE, pz_n0, pz_n1, pz_n2, pz_n3, pz_n4, pz_n5, pz_n6, pz_n7, pz_n8, pz_n10, pz_n12, pz_n39, pz_n40, pz_n80, pz_n99, pz_n100, pz_n999, pz_nm1, pz_nm999]; first | split | skip) | split)
    all_goals first | rfl | omega | ((try unfold pz_b); (repeat' split) <;> first | rfl | omega | (simp_all only []; done) | (exfalso; simp_all only [not_true_eq_false, not_false_eq_true]; omega) | skip)
  | succ n ih =>
    intro i σ h0 h1 h2
    have hc : (m ≤ i) = False := eq_false (by omega)
    have hc4 : (40 ≤ i) = False := eq_false (by omega)
    obtain ⟨c0, ⟨g, c1, c2⟩, c3, c4, c5⟩ := h0
    obtain ⟨σ1, a1, a2, a3, ⟨a4, a5⟩, a6⟩ := wc_initFr (σ := mb_al σ (.inr (3, [.int 0, .null, .int 0])) 3) (c := σ.2.1) (v := i) (if_pos rfl) (by simp only [ga_n]; omega)
    simp only [ga_n, ga_m, Nat.add_assoc, Nat.reduceAdd] at a1 a2 a3 a4 a5
    have ks : ∀ q, q < σ.2.1 → σ1.1 q = σ.1 q := fun q hq => by rw [a3 q (by omega) (by omega), ga_at (by omega)]
    have f0 := (ks p (by omega)).trans c0
    have f1 := (ks pf (by omega)).trans c1
    obtain ⟨σ2, σE⟩ : ∃ σ2 : mb_S, σ2 = mb_up (mb_up σ1 pf (.inl (13, 40, .inr (.inr (.inr (.inr (va_up g (iI i).toNatClampNeg (some σ.2.1)))))))) p (.inr (6, [.ref pf, .ref pc, .int (iI (i + 1)), .int 0])) := ⟨_, rfl⟩
    have b0 : σ2.1 p = some (.inr (6, [.ref pf, .ref pc, .int (iI (i + 1)), .int 0])) := by rw [σE]; exact gu_ae
    have b1 : σ2.1 pf = some (.inl (13, 40, .inr (.inr (.inr (.inr (va_up g (iI i).toNatClampNeg (some σ.2.1))))))) := by rw [σE]; exact (gu_at hne.symm).trans gu_ae
    have bs : ∀ q, q ≠ p → q ≠ pf → σ2.1 q = σ1.1 q := fun q q0 q1 => by rw [σE, gu_at q0, gu_at q1]
    have bm : σ2.2 = σ1.2 := by rw [σE]; rfl
    have hI2 : rz_si p pf pc B s0 (i + 1) σ2 := by
      refine ⟨b0, ⟨_, b1, fun k k1 k2 => ?_⟩, fun k k1 k2 => ?_, by rw [bm]; omega, by rw [bm]; omega⟩
      · rw [rz_vup h2 (by omega) k1 (by omega)]
        by_cases e : k = i
        · rw [if_pos e, e, c4]
        · rw [if_neg e]; exact c2 k k1 (by omega)
      · by_cases e : k = i
        · subst e
          rw [← c4]
          obtain ⟨g9, a21, a22⟩ := a2
          refine ⟨(bs _ (by omega) (by omega)).trans a1, g9, (bs _ (by omega) (by omega)).trans a21, a22⟩
        · have k3 := c3 k k1 (by omega)
          obtain ⟨k31, g9, k32, k33⟩ := k3
          exact ⟨(bs _ (by omega) (by omega)).trans ((ks _ (by omega)).trans k31), g9, (bs _ (by omega) (by omega)).trans ((ks _ (by omega)).trans k32), k33⟩
    obtain ⟨σ3, r1, r2, r3⟩ := ih (i + 1) σ2 hI2 (by omega) (by omega)
    refine ⟨σ3, r1, fun q q0 q1 q2 => (r2 q q0 q1 q2).trans ((bs q q1 q2).trans (ks q (by omega))), fun d Q hd => ?_⟩
    rw [sX6_init_24]
    have a7 := fun Q => a6 (d - 1) Q (by omega)
    have r4 := r3 d Q hd
    rw [σE] at r4
    repeat' (first | (simp (config := {maxSteps := 1000000}) (disch := first | assumption | omega | exact Nat.le_of_ble_eq_true rfl | (intro _; first | rfl | simp (disch := decide) only [pz_su_t])) only [sX6_init_0, sX6_init_0n, sX6_init_1, sX6_init_4, sX6_init_4n, sX6_init_5, sX6_init_7, sX6_init_10, sX6_init_10n, sX6_init_13, sX6_init_13n, sX6_init_14, sX6_init_16, sX6_init_19, sX6_init_19n, sX6_init_22, sX6_init_23, sX6_init_25, sX6_init_29, sX6_init_30, sX6_init_35, sX6_init_35n, sX6_init_36, sX6_init_39, sX6_init_40, sX6_init_43, sX6_init_43i, sX6_init_44, sX6_init_45, sX6_init_48, sX6_init_49, sX6_init_49n, sX6_init_50, sX6_init_50i, sX6_init_51, sX6_init_54, sX6_init_55, sX6_init_56, sX6_init_59, sX6_init_62, sX6_init_65, pz_add, pz_mul, pz_neg, pz_sub, pz_lt, pz_le, pz_eq, pz_b0, pz_b1, pz_bb, pz_n40, pz_n1, hc, hc4, pz_ix, Int.sub_zero, Int.zero_add, Int.add_zero, Int.mul_zero, mb_qk, mb_qx, if_true, if_false, true_or, or_true, false_or, or_false, and_true, true_and, and_false, false_and, not_true_eq_false, not_false_eq_true, ite_self, List.lookup, List.length_cons, List.length_nil, ite_not, Nat.reduceAdd, Int.reduceEq, Int.reduceLT, Int.reduceLE, hc, hc4, a7, r4, pz_gf c0, pz_gf f0, pz_gq f1, pz_gf a1, gu_gf, gu_gi, gu_gq, gu_gfe, gu_gie, gu_gqe, List.set_cons_zero, List.set_cons_succ, Nat.reduceLT, Nat.reduceLeDiff, List.getD_cons_zero, List.getD_cons_succ]) | (simp (disch := first | assumption | omega | exact Nat.le_of_ble_eq_true rfl | (intro _; first | rfl | simp (disch := decide) only [pz_su_t])) only [sX6_init_26, sX6_init_32, pz_add, pz_mul, pz_neg, pz_sub, pz_lt, pz_le, pz_eq, pz_b0, pz_b1, pz_bb, pz_n40, pz_n1, hc, hc4, pz_ix, Int.sub_zero, Int.zero_add, Int.add_zero, Int.mul_zero, mb_qk, mb_qx, if_true, if_false, true_or, or_true, false_or, or_false, and_true, true_and, and_false, false_and, not_true_eq_false, not_false_eq_true, ite_self, List.lookup, List.length_cons, List.length_nil, ite_not, Nat.reduceAdd, Int.reduceEq, Int.reduceLT, Int.reduceLE]; first | split | skip) | split)
    all_goals first | rfl | omega | ((try unfold pz_b); (repeat' split) <;> first | rfl | omega | (simp_all only []; done) | (exfalso; simp_all only [not_true_eq_false, not_false_eq_true]; omega) | skip)
set_option maxRecDepth 20000 in
set_option maxHeartbeats 4000000 in
theorem wc_initSc {p : Nat} {m : Int} (h0 : σ.1 p = some (.inr (6, [.null, .null, .int 0, .int 0]))) (h1 : p < σ.2.1) (hm0 : 1 ≤ m) (hm : m ≤ 40) : ∃ σ', rz_si p σ.2.1 (σ.2.1 + 1) (σ.2.1 + 2) (σ.2.2 + 48) m σ' ∧ σ'.1 (σ.2.1 + 1) = some (.inl (11, 8, .inr (.inr (.inr (.inr (fun _ => none)))))) ∧ (∀ q, q < σ.2.1 → q ≠ p → σ'.1 q = σ.1 q) ∧ ∀ (d : Nat) (Q : mb_O → mb_S → Prop), 2 ≤ d → mb_Ex d 32 [.ref p, .int (iI m)] σ Q = Q (.inl none) σ' := by
  obtain ⟨σ1, σE⟩ : ∃ σ1 : mb_S, σ1 = mb_up (mb_al (mb_up (mb_al σ (.inl (13, 40, .inr (.inr (.inr (.inr (fun _ => none)))))) 40) p (.inr (6, [.ref σ.2.1, .null, .int 0, .int 0]))) (.inl (11, 8, .inr (.inr (.inr (.inr (fun _ => none)))))) 8) p (.inr (6, [.ref σ.2.1, .ref (σ.2.1 + 1), .int 0, .int 0])) := ⟨_, rfl⟩
  have b0 : σ1.1 p = some (.inr (6, [.ref σ.2.1, .ref (σ.2.1 + 1), .int 0, .int 0])) := by rw [σE]; exact gu_ae
  have b1 : σ1.1 σ.2.1 = some (.inl (13, 40, .inr (.inr (.inr (.inr (fun _ => none)))))) := by rw [σE, gu_at (by omega), ga_at (by simp only [ga_n, gu_n]; omega), gu_at (by omega)]; exact if_pos rfl
  have b2 : σ1.1 (σ.2.1 + 1) = some (.inl (11, 8, .inr (.inr (.inr (.inr (fun _ => none)))))) := by rw [σE, gu_at (by omega)]; exact if_pos rfl
  have bs : ∀ q, q < σ.2.1 → q ≠ p → σ1.1 q = σ.1 q := fun q q0 q1 => by rw [σE, gu_at q1, ga_at (by simp only [ga_n, gu_n]; omega), gu_at q1, ga_at (by omega)]
  have bm : σ1.2.1 = σ.2.1 + 2 ∧ σ1.2.2 = σ.2.2 + 48 := by rw [σE]; exact ⟨rfl, rfl⟩
  obtain ⟨σ2, r1, r2, r3⟩ := wl_initSc (p := p) (pf := σ.2.1) (pc := σ.2.1 + 1) (B := σ.2.1 + 2) (s0 := σ.2.2 + 48) (m := m) (by omega) (by omega) (by omega) hm m.toNat 0 σ1 ⟨b0, ⟨_, b1, fun k k1 k2 => by omega⟩, fun k k1 k2 => by omega, by rw [bm.1]; rfl, by rw [bm.2]; rfl⟩ (by omega) (by omega)
  refine ⟨σ2, r1, (r2 _ (by omega) (by omega) (by omega)).trans b2, fun q q0 q1 => (r2 q (by omega) q1 (by omega)).trans (bs q q0 q1), fun d Q hd => ?_⟩
  have r4 := r3 d Q hd
  rw [σE] at r4
  show mb_Rn d 32 0 [some (.ref p), some (.int (iI m)), none] [] σ Q = _
  have r5 : ∀ s, mb_Rn d 32 23 [some (.ref p), some (.int (iI m)), none] [.int 0] s Q = mb_Rn d 32 24 [some (.ref p), some (.int (iI m)), some (.int (iI 0))] [] s Q := fun s => by simp only [sX6_init_23]; rfl
  repeat' (first | (simp (config := {maxSteps := 1000000}) (disch := first | assumption | omega | (simp only [ga_n, gu_n]; omega) | exact Nat.le_of_ble_eq_true rfl | (intro _; first | rfl | simp (disch := decide) only [pz_su_t])) only [sX6_init_0, sX6_init_0n, sX6_init_1, sX6_init_4, sX6_init_4n, sX6_init_5, sX6_init_7, sX6_init_10, sX6_init_10n, sX6_init_13, sX6_init_13n, sX6_init_14, sX6_init_16, sX6_init_19, sX6_init_19n, sX6_init_22, sX6_init_25, sX6_init_29, sX6_init_30, sX6_init_35, sX6_init_35n, sX6_init_36, sX6_init_39, sX6_init_40, sX6_init_43, sX6_init_43i, sX6_init_44, sX6_init_45, sX6_init_48, sX6_init_49, sX6_init_49n, sX6_init_50, sX6_init_50i, sX6_init_51, sX6_init_54, sX6_init_55, sX6_init_56, sX6_init_59, sX6_init_62, sX6_init_65, pz_add, pz_mul, pz_neg, pz_sub, pz_lt, pz_le, pz_eq, pz_b0, pz_b1, pz_bb, pz_ix, Int.sub_zero, Int.zero_add, Int.add_zero, Int.mul_zero, mb_qk, mb_qx, if_true, if_false, true_or, or_true, false_or, or_false, and_true, true_and, and_false, false_and, not_true_eq_false, not_false_eq_true, ite_self, List.lookup, List.length_cons, List.length_nil, ite_not, Nat.reduceAdd, Int.reduceEq, Int.reduceLT, Int.reduceLE, r5, r4, pz_gf h0, ga_gf, ga_gi, ga_gq, ga_gfe, ga_gie, ga_gqe, ga_n, gu_n, gu_gf, gu_gi, gu_gq, gu_gfe, gu_gie, gu_gqe, List.set_cons_zero, List.set_cons_succ, Nat.reduceLT, Nat.reduceLeDiff, List.getD_cons_zero, List.getD_cons_succ]) | (simp (disch := first | assumption | omega | (simp only [ga_n, gu_n]; omega) | exact Nat.le_of_ble_eq_true rfl | (intro _; first | rfl | simp (disch := decide) only [pz_su_t])) only [sX6_init_26, sX6_init_32, pz_add, pz_mul, pz_neg, pz_sub, pz_lt, pz_le, pz_eq, pz_b0, pz_b1, pz_bb, pz_ix, Int.sub_zero, Int.zero_add, Int.add_zero, Int.mul_zero, mb_qk, mb_qx, if_true, if_false, true_or, or_true, false_or, or_false, and_true, true_and, and_false, false_and, not_true_eq_false, not_false_eq_true, ite_self, List.lookup, List.length_cons, List.length_nil, ite_not, Nat.reduceAdd, Int.reduceEq, Int.reduceLT, Int.reduceLE]; first | split | skip) | split)
end
