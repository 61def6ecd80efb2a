/-! a curve is copied, a rig is copied -/
section
variable {σ σ' : mb_S} {S S' : pz_S} {ad ad' : rz_A} {Fo : Nat → Prop}
set_option maxRecDepth 20000 in
set_option maxHeartbeats 4000000 in
theorem wl_copy {c cf cv cw T : Nat} {N : Int} {F6 F7 F8 : Int → Int} {z : Value} (l1 : c < T) (l2 : cf < T) (l3 : cv < T) (l4 : cw < T) (hN : N ≤ 12) : ∀ (n : Nat) (i : Int) (σ : mb_S), σ.1 c = some (.inr (2, [.ref cf, .ref cv, .ref cw, .int (iI N)])) → pz_Ar σ cf 12 F6 → pz_Ar σ cv 12 F7 → pz_Ar σ cw 12 F8 → σ.1 T = some (.inr (2, [.ref (T + 1), .ref (T + 2), .ref (T + 3), z])) → pz_Ar σ (T + 1) 12 (fun k => if k < i then F6 k else 0) → pz_Ar σ (T + 2) 12 (fun k => if k < i then F7 k else 0) → pz_Ar σ (T + 3) 12 (fun k => if k < i then F8 k else 0) → i + n = N → 0 ≤ i → ∃ σ', (pz_Ar σ' (T + 1) 12 (fun k => if k < N then F6 k else 0) ∧ pz_Ar σ' (T + 2) 12 (fun k => if k < N then F7 k else 0) ∧ pz_Ar σ' (T + 3) 12 (fun k => if k < N then F8 k else 0)) ∧ (∀ q, q ≠ T + 1 → q ≠ T + 2 → q ≠ T + 3 → σ'.1 q = σ.1 q) ∧ σ'.2 = σ.2 ∧ ∀ (d : Nat) (Q : mb_O → mb_S → Prop), mb_Rn d 15 10 [some (.ref c), some (.ref T), some (.int (iI (i)))] [] σ Q = mb_Rn d 15 60 [some (.ref c), some (.ref T), some (.int (iI (N)))] [] σ' Q := by
  intro n
  induction n with
  | zero =>
    intro i σ h0 h6 h7 h8 hT u1 u2 u3 h1 h2
    have e : i = N := by omega
    subst e
    have hc : (i ≤ i) = True := eq_true (by omega)
    refine ⟨σ, ⟨u1, u2, u3⟩, fun q _ _ _ => rfl, rfl, fun d Q => ?_⟩
    rw [sX2_copy_10]
    repeat' (first | (simp (config := {maxSteps := 1000000}) (disch := first | assumption | omega | exact Nat.le_of_ble_eq_true rfl | (intro _; first | rfl | simp (disch := decide) only [pz_su_t])) only [sX2_copy_0, sX2_copy_3, sX2_copy_3i, sX2_copy_4, sX2_copy_7, sX2_copy_7n, sX2_copy_8, sX2_copy_9, sX2_copy_11, sX2_copy_11n, sX2_copy_12, sX2_copy_18, sX2_copy_18n, sX2_copy_19, sX2_copy_22, sX2_copy_23, sX2_copy_23n, sX2_copy_24, sX2_copy_27, sX2_copy_28, sX2_copy_29, sX2_copy_30, sX2_copy_30n, sX2_copy_31, sX2_copy_34, sX2_copy_35, sX2_copy_35n, sX2_copy_36, sX2_copy_39, sX2_copy_40, sX2_copy_41, sX2_copy_42, sX2_copy_42n, sX2_copy_43, sX2_copy_46, sX2_copy_47, sX2_copy_47n, sX2_copy_48, sX2_copy_51, sX2_copy_52, sX2_copy_53, sX2_copy_54, sX2_copy_57, sX2_copy_61, sX2_copy_61n, sX2_copy_62, sX2_copy_65, sX2_copy_68, sX2_copy_68n, sX2_copy_69, sX2_copy_69n, pz_add, pz_mul, pz_neg, pz_sub, pz_lt, pz_le, pz_eq, pz_b0, pz_b1, pz_bb, pz_ix, Int.sub_zero, Int.zero_add, Int.add_zero, Int.mul_zero, mb_qk, mb_qx, if_true, if_false, true_or, or_true, false_or, or_false, and_true, true_and, and_false, false_and, not_true_eq_false, not_false_eq_true, ite_self, List.lookup, List.length_cons, List.length_nil, ite_not, Nat.reduceAdd, Int.reduceEq, Int.reduceLT, Int.reduceLE, pz_n0, pz_n1, pz_n2, pz_n3, pz_n4, pz_n5, pz_n6, pz_n7, pz_n8, pz_n10, pz_n12, pz_n39, pz_n40, pz_n80, pz_n99, pz_n100, pz_n999, pz_nm1, pz_nm999, hc, pz_gf h0, List.getD_cons_zero, List.getD_cons_succ]) | (simp (disch := first | assumption | omega | exact Nat.le_of_ble_eq_true rfl | (intro _; first | rfl | simp (disch := decide) only [pz_su_t])) only [sX2_copy_15, pz_add, pz_mul, pz_neg, pz_sub, pz_lt, pz_le, pz_eq, pz_b0, pz_b1, pz_bb, pz_ix, Int.sub_zero, Int.zero_add, Int.add_zero, Int.mul_zero, mb_qk, mb_qx, if_true, if_false, true_or, or_true, false_or, or_false, and_true, true_and, and_false, false_and, not_true_eq_false, not_false_eq_true, ite_self, List.lookup, List.length_cons, List.length_nil, ite_not, Nat.reduceAdd, Int.reduceEq, Int.reduceLT, Int.reduceLE, pz_n0, pz_n1, pz_n2, pz_n3, pz_n4, pz_n5, pz_n6, pz_n7, pz_n8, pz_n10, pz_n12, pz_n39, pz_n40, pz_n80, pz_n99, pz_n100, pz_n999, pz_nm1, pz_nm999]; first | split | skip) | split)
    all_goals first | rfl | omega | ((try unfold pz_b); (repeat' split) <;> first | rfl | omega | (simp_all only []; done) | (exfalso; simp_all only [not_true_eq_false, not_false_eq_true]; omega) | skip)
  | succ n ih =>
    intro i σ h0 h6 h7 h8 hT u1 u2 u3 h1 h2
    have hc : (N ≤ i) = False := eq_false (by omega)
    obtain ⟨g1, e1, e2⟩ := h6
    obtain ⟨g2, e3, e4⟩ := h7
    obtain ⟨g3, e5, e6⟩ := h8
    obtain ⟨t1, v1, v2⟩ := u1
    obtain ⟨t2, v3, v4⟩ := u2
    obtain ⟨t3, v5, v6⟩ := u3
    obtain ⟨σ1, σE⟩ : ∃ σ1 : mb_S, σ1 = mb_up (mb_up (mb_up σ (T + 1) (.inl (0, 12, .inl (upd t1 (iI i).toNatClampNeg (iI (F6 i)))))) (T + 2) (.inl (0, 12, .inl (upd t2 (iI i).toNatClampNeg (iI (F7 i)))))) (T + 3) (.inl (0, 12, .inl (upd t3 (iI i).toNatClampNeg (iI (F8 i))))) := ⟨_, rfl⟩
    have bs : ∀ q, q ≠ T + 1 → q ≠ T + 2 → q ≠ T + 3 → σ1.1 q = σ.1 q := fun q q1 q2 q3 => by rw [σE, gu_at q3, gu_at q2, gu_at q1]
    have ic : ∀ (F : Int → Int) (k : Int), (if k < i + 1 then F k else 0) = if k = i then F i else if k < i then F k else 0 := fun F k => by
      by_cases e : k = i
      · rw [if_pos (by omega), if_pos e, e]
      · rw [if_neg e]; exact rz_ic (by omega)
    obtain ⟨σ2, r1, r2, r3, r4⟩ := ih (i + 1) σ1 ((bs c (by omega) (by omega) (by omega)).trans h0) ⟨g1, (bs cf (by omega) (by omega) (by omega)).trans e1, e2⟩ ⟨g2, (bs cv (by omega) (by omega) (by omega)).trans e3, e4⟩ ⟨g3, (bs cw (by omega) (by omega) (by omega)).trans e5, e6⟩ ((bs T (by omega) (by omega) (by omega)).trans hT) (rz_ArU (by rw [σE, gu_at (by omega), gu_at (by omega)]; exact gu_ae) v2 h2 (by omega) (by decide) (fun k _ _ => ic F6 k)) (rz_ArU (by rw [σE, gu_at (by omega)]; exact gu_ae) v4 h2 (by omega) (by decide) (fun k _ _ => ic F7 k)) (rz_ArU (by rw [σE]; exact gu_ae) v6 h2 (by omega) (by decide) (fun k _ _ => ic F8 k)) (by omega) (by omega)
    refine ⟨σ2, r1, fun q q1 q2 q3 => (r2 q q1 q2 q3).trans (bs q q1 q2 q3), r3.trans (by rw [σE]; rfl), fun d Q => ?_⟩
    have r5 := r4 d Q
    rw [σE] at r5
    rw [sX2_copy_10]
    repeat' (first | (simp (config := {maxSteps := 1000000}) (disch := first | assumption | omega | exact Nat.le_of_ble_eq_true rfl | (intro _; first | rfl | simp (disch := decide) only [pz_su_t])) only [sX2_copy_0, sX2_copy_3, sX2_copy_3i, sX2_copy_4, sX2_copy_7, sX2_copy_7n, sX2_copy_8, sX2_copy_9, sX2_copy_11, sX2_copy_11n, sX2_copy_12, sX2_copy_18, sX2_copy_18n, sX2_copy_19, sX2_copy_22, sX2_copy_23, sX2_copy_23n, sX2_copy_24, sX2_copy_27, sX2_copy_28, sX2_copy_29, sX2_copy_30, sX2_copy_30n, sX2_copy_31, sX2_copy_34, sX2_copy_35, sX2_copy_35n, sX2_copy_36, sX2_copy_39, sX2_copy_40, sX2_copy_41, sX2_copy_42, sX2_copy_42n, sX2_copy_43, sX2_copy_46, sX2_copy_47, sX2_copy_47n, sX2_copy_48, sX2_copy_51, sX2_copy_52, sX2_copy_53, sX2_copy_54, sX2_copy_57, sX2_copy_61, sX2_copy_61n, sX2_copy_62, sX2_copy_65, sX2_copy_68, sX2_copy_68n, sX2_copy_69, sX2_copy_69n, pz_add, pz_mul, pz_neg, pz_sub, pz_lt, pz_le, pz_eq, pz_b0, pz_b1, pz_bb, pz_ix, Int.sub_zero, Int.zero_add, Int.add_zero, Int.mul_zero, mb_qk, mb_qx, if_true, if_false, true_or, or_true, false_or, or_false, and_true, true_and, and_false, false_and, not_true_eq_false, not_false_eq_true, ite_self, List.lookup, List.length_cons, List.length_nil, ite_not, Nat.reduceAdd, Int.reduceEq, Int.reduceLT, Int.reduceLE, pz_n0, pz_n1, pz_n2, pz_n3, pz_n4, pz_n5, pz_n6, pz_n7, pz_n8, pz_n10, pz_n12, pz_n39, pz_n40, pz_n80, pz_n99, pz_n100, pz_n999, pz_nm1, pz_nm999, hc, r5, pz_gf h0, pz_gf hT, pz_gi e1, pz_gi e3, pz_gi e5, pz_gi v1, pz_gi v3, pz_gi v5, e2, e4, e6, gu_gf, gu_gi, gu_gq, gu_gfe, gu_gie, gu_gqe, List.set_cons_zero, List.set_cons_succ, Nat.reduceLT, Nat.reduceLeDiff, List.getD_cons_zero, List.getD_cons_succ]) | (simp (disch := first | assumption | omega | exact Nat.le_of_ble_eq_true rfl | (intro _; first | rfl | simp (disch := decide) only [pz_su_t])) only [sX2_copy_15, pz_add, pz_mul, pz_neg, pz_sub, pz_lt, pz_le, pz_eq, pz_b0, pz_b1, pz_bb, pz_ix, Int.sub_zero, Int.zero_add, Int.add_zero, Int.mul_zero, mb_qk, mb_qx, if_true, if_false, true_or, or_true, false_or, or_false, and_true, true_and, and_false, false_and, not_true_eq_false, not_false_eq_true, ite_self, List.lookup, List.length_cons, List.length_nil, ite_not, Nat.reduceAdd, Int.reduceEq, Int.reduceLT, Int.reduceLE, pz_n0, pz_n1, pz_n2, pz_n3, pz_n4, pz_n5, pz_n6, pz_n7, pz_n8, pz_n10, pz_n12, pz_n39, pz_n40, pz_n80, pz_n99, pz_n100, pz_n999, pz_nm1, pz_nm999]; first | split | skip) | split)
    all_goals first | rfl | omega | ((try unfold pz_b); (repeat' split) <;> first | rfl | omega | (simp_all only []; done) | (exfalso; simp_all only [not_true_eq_false, not_false_eq_true]; omega) | skip)
/-- a new curve: the keys of bone B, and nothing behind them -/
def rz_nc (σ : mb_S) (S : pz_S) (B : Int) (T : Nat) : Prop := σ.1 T = some (.inr (2, [.ref (T + 1), .ref (T + 2), .ref (T + 3), .int (iI (S 5 B))])) ∧ pz_Ar σ (T + 1) 12 (fun k => if k < S 5 B then S 6 (12 * B + k) else 0) ∧ pz_Ar σ (T + 2) 12 (fun k => if k < S 5 B then S 7 (12 * B + k) else 0) ∧ pz_Ar σ (T + 3) 12 (fun k => if k < S 5 B then S 8 (12 * B + k) else 0)
theorem rz_ncM {B : Int} {T : Nat} (h : rz_nc σ S B T) (hs : ∀ q, T ≤ q → q < T + 4 → σ'.1 q = σ.1 q) : rz_nc σ' S B T := by
  obtain ⟨h0, ⟨g1, e1, e2⟩, ⟨g2, e3, e4⟩, ⟨g3, e5, e6⟩⟩ := h
  exact ⟨(hs T (by omega) (by omega)).trans h0, ⟨g1, (hs _ (by omega) (by omega)).trans e1, e2⟩, ⟨g2, (hs _ (by omega) (by omega)).trans e3, e4⟩, ⟨g3, (hs _ (by omega) (by omega)).trans e5, e6⟩⟩
set_option maxRecDepth 20000 in
set_option maxHeartbeats 4000000 in
theorem wc_copy {c cf cv cw : Nat} {B : Int} (hW : pz_W S) (hC : pz_Cv σ S B c cf cv cw) (l1 : c < σ.2.1) (l2 : cf < σ.2.1) (l3 : cv < σ.2.1) (l4 : cw < σ.2.1) : ∃ σ', rz_nc σ' S B σ.2.1 ∧ (∀ q, q < σ.2.1 → σ'.1 q = σ.1 q) ∧ (σ'.2.1 = σ.2.1 + 4 ∧ σ'.2.2 = σ.2.2 + 40) ∧ ∀ (d : Nat) (Q : mb_O → mb_S → Prop), 2 ≤ d → mb_Ex d 15 [.ref c] σ Q = Q (.inl (some (.ref σ.2.1))) σ' := by
  have w5 := pw_5 hW B
  obtain ⟨h0, h6, h7, h8⟩ := hC
  obtain ⟨σ1, a1, ⟨a2, a3, a4⟩, a5, ⟨a6, a7⟩, a8⟩ := wc_initCv (σ := mb_al σ (.inr (2, [.null, .null, .null, .int 0])) 4) (c := σ.2.1) (if_pos rfl) (by simp only [ga_n]; omega)
  simp only [ga_n, ga_m, Nat.add_assoc, Nat.reduceAdd] at a1 a2 a3 a4 a5 a6 a7
  have ks : ∀ q, q < σ.2.1 → σ1.1 q = σ.1 q := fun q hq => by rw [a5 q (by omega) (by omega), ga_at (by omega)]
  have mv : ∀ {a : Nat} {F : Int → Int}, a < σ.2.1 → pz_Ar σ a 12 F → pz_Ar σ1 a 12 F := fun ha ⟨g, g1, g2⟩ => ⟨g, (ks _ ha).trans g1, g2⟩
  have z0 : ∀ {a : Nat} (F : Int → Int), σ1.1 a = some (.inl (0, 12, .inl (fun _ => 0))) → pz_Ar σ1 a 12 (fun k => if k < 0 then F k else 0) := fun F ha => ⟨_, ha, fun k k0 k1 => by
    show (0 : Int32) = iI (if k < 0 then F k else 0)
    rw [if_neg (by omega)]; rfl⟩
  have b0 := (ks c l1).trans h0
  obtain ⟨σ2, ⟨r1, r1', r1''⟩, r2, r3, r4⟩ := wl_copy (T := σ.2.1) (N := S 5 B) l1 l2 l3 l4 w5.2 (S 5 B).toNat 0 σ1 b0 (mv l2 h6) (mv l3 h7) (mv l4 h8) a1 (z0 (fun i => S 6 (12 * B + i)) a2) (z0 (fun i => S 7 (12 * B + i)) a3) (z0 (fun i => S 8 (12 * B + i)) a4) (by omega) (by omega)
  have c0 := (r2 c (by omega) (by omega) (by omega)).trans b0
  have c1 := (r2 σ.2.1 (by omega) (by omega) (by omega)).trans a1
  have u : ∀ {a : Nat} {F : Int → Int}, a ≠ σ.2.1 → pz_Ar σ2 a 12 F → pz_Ar (mb_up σ2 σ.2.1 (.inr (2, [.ref (σ.2.1 + 1), .ref (σ.2.1 + 2), .ref (σ.2.1 + 3), .int (iI (S 5 B))]))) a 12 F := fun ha ⟨g, g1, g2⟩ => ⟨g, (gu_at ha).trans g1, g2⟩
  refine ⟨mb_up σ2 σ.2.1 (.inr (2, [.ref (σ.2.1 + 1), .ref (σ.2.1 + 2), .ref (σ.2.1 + 3), .int (iI (S 5 B))])), ⟨gu_ae, u (by omega) r1, u (by omega) r1', u (by omega) r1''⟩, fun q hq => (gu_at (by omega)).trans ((r2 q (by omega) (by omega) (by omega)).trans (ks q hq)), ⟨by show σ2.2.1 = _; rw [r3]; exact a6, by show σ2.2.2 = _; rw [r3]; exact a7⟩, fun d Q hd => ?_⟩
  have r5 := r4 d Q
  have r6 : ∀ s, mb_Rn d 15 9 [some (.ref c), some (.ref σ.2.1), none] [.int 0] s Q = mb_Rn d 15 10 [some (.ref c), some (.ref σ.2.1), some (.int (iI 0))] [] s Q := fun s => by simp only [sX2_copy_9]; rfl
  have a9 := fun Q => a8 (d - 1) Q (by omega)
  show mb_Rn d 15 0 [some (.ref c), none, none] [] σ Q = _
  repeat' (first | (simp (config := {maxSteps := 1000000}) (disch := first | assumption | omega | (simp only [ga_n, gu_n]; omega) | exact Nat.le_of_ble_eq_true rfl | (intro _; first | rfl | simp (disch := decide) only [pz_su_t])) only [sX2_copy_0, sX2_copy_3, sX2_copy_3i, sX2_copy_4, sX2_copy_7, sX2_copy_7n, sX2_copy_8, sX2_copy_11, sX2_copy_11n, sX2_copy_12, sX2_copy_18, sX2_copy_18n, sX2_copy_19, sX2_copy_22, sX2_copy_23, sX2_copy_23n, sX2_copy_24, sX2_copy_27, sX2_copy_28, sX2_copy_29, sX2_copy_30, sX2_copy_30n, sX2_copy_31, sX2_copy_34, sX2_copy_35, sX2_copy_35n, sX2_copy_36, sX2_copy_39, sX2_copy_40, sX2_copy_41, sX2_copy_42, sX2_copy_42n, sX2_copy_43, sX2_copy_46, sX2_copy_47, sX2_copy_47n, sX2_copy_48, sX2_copy_51, sX2_copy_52, sX2_copy_53, sX2_copy_54, sX2_copy_57, sX2_copy_60, sX2_copy_60n, sX2_copy_61, sX2_copy_61n, sX2_copy_62, sX2_copy_65, sX2_copy_68, sX2_copy_68n, sX2_copy_69, sX2_copy_69n, pz_add, pz_mul, pz_neg, pz_sub, pz_lt, pz_le, pz_eq, pz_b0, pz_b1, pz_bb, pz_ix, Int.sub_zero, Int.zero_add, Int.add_zero, Int.mul_zero, mb_qk, mb_qx, if_true, if_false, true_or, or_true, false_or, or_false, and_true, true_and, and_false, false_and, not_true_eq_false, not_false_eq_true, ite_self, List.lookup, List.length_cons, List.length_nil, ite_not, Nat.reduceAdd, Int.reduceEq, Int.reduceLT, Int.reduceLE, a9, r6, r5, pz_gf c0, pz_gf c1, gu_gf, gu_gi, gu_gq, gu_gfe, gu_gie, gu_gqe, List.set_cons_zero, List.set_cons_succ, Nat.reduceLT, Nat.reduceLeDiff, List.getD_cons_zero, List.getD_cons_succ]) | (simp (disch := first | assumption | omega | (simp only [ga_n, gu_n]; omega) | exact Nat.le_of_ble_eq_true rfl | (intro _; first | rfl | simp (disch := decide) only [pz_su_t])) only [sX2_copy_15, pz_add, pz_mul, pz_neg, pz_sub, pz_lt, pz_le, pz_eq, pz_b0, pz_b1, pz_bb, pz_ix, Int.sub_zero, Int.zero_add, Int.add_zero, Int.mul_zero, mb_qk, mb_qx, if_true, if_false, true_or, or_true, false_or, or_false, and_true, true_and, and_false, false_and, not_true_eq_false, not_false_eq_true, ite_self, List.lookup, List.length_cons, List.length_nil, ite_not, Nat.reduceAdd, Int.reduceEq, Int.reduceLT, Int.reduceLE]; first | split | skip) | split)
theorem rz_CvM {B : Int} {c cf cv cw n : Nat} (h : pz_Cv σ S B c cf cv cw) (hs : ∀ q, q < n → σ'.1 q = σ.1 q) (l1 : c < n) (l2 : cf < n) (l3 : cv < n) (l4 : cw < n) : pz_Cv σ' S B c cf cv cw := by
  obtain ⟨h0, ⟨g1, e1, e2⟩, ⟨g2, e3, e4⟩, ⟨g3, e5, e6⟩⟩ := h
  exact ⟨(hs _ l1).trans h0, ⟨g1, (hs _ l2).trans e1, e2⟩, ⟨g2, (hs _ l3).trans e3, e4⟩, ⟨g3, (hs _ l4).trans e5, e6⟩⟩
theorem rz_RgM {r : Int} {p pp pc n : Nat} {pv : Value} {ac : Int → Nat × Nat × Nat × Nat} (h : pz_Rg σ S r p pp pc pv ac) (hs : ∀ q, q < n → σ'.1 q = σ.1 q) (l1 : p < n) (l2 : pp < n) (l3 : pc < n) (l4 : ∀ b, 0 ≤ b → b < S 3 r → (ac b).1 < n ∧ (ac b).2.1 < n ∧ (ac b).2.2.1 < n ∧ (ac b).2.2.2 < n) : pz_Rg σ' S r p pp pc pv ac := by
  obtain ⟨h0, ⟨g1, e1, e2⟩, ⟨g2, e3, e4⟩⟩ := h
  exact ⟨(hs _ l1).trans h0, ⟨g1, (hs _ l2).trans e1, e2⟩, g2, (hs _ l3).trans e3, fun b b0 b1 => ⟨(e4 b b0 b1).1, rz_CvM (e4 b b0 b1).2 hs (l4 b b0 b1).1 (l4 b b0 b1).2.1 (l4 b b0 b1).2.2.1 (l4 b b0 b1).2.2.2⟩⟩
/-- a rig that is being copied: i bones stand; T: where it lies -/
def rz_vi (σ0 : mb_S) (S : pz_S) (a : Int) (T s0 : Nat) (i : Int) (σ : mb_S) : Prop := (∀ q, q < T → σ.1 q = σ0.1 q) ∧ σ.1 T = some (.inr (5, [.ref (T + 1), .ref (T + 2), .int (iI i), .null])) ∧ pz_Ar σ (T + 1) 10 (fun k => if k < i then S 4 (10 * a + k) else 0) ∧ (∃ q, σ.1 (T + 2) = some (.inl (12, 10, .inr (.inr (.inr (.inr q))))) ∧ ∀ k : Int, 0 ≤ k → k < i → q (iI k).toNatClampNeg = some (T + 3 + 4 * k.toNat)) ∧ (∀ k : Int, 0 ≤ k → k < i → rz_nc σ S (10 * a + k) (T + 3 + 4 * k.toNat)) ∧ σ.2.1 = T + 3 + 4 * i.toNat ∧ σ.2.2 = s0 + 40 * i.toNat
set_option maxRecDepth 20000 in
set_option maxHeartbeats 4000000 in
theorem wl_ver {σ0 : mb_S} {a : Int} {p pp pc T s0 : Nat} {pv : Value} {ac : Int → Nat × Nat × Nat × Nat} (hW : pz_W S) (hR : pz_Rg σ0 S a p pp pc pv ac) (l1 : p < T) (l2 : pp < T) (l3 : pc < T) (l4 : ∀ b, 0 ≤ b → b < S 3 a → (ac b).1 < T ∧ (ac b).2.1 < T ∧ (ac b).2.2.1 < T ∧ (ac b).2.2.2 < T) : ∀ (n : Nat) (i : Int) (σ : mb_S), rz_vi σ0 S a T s0 i σ → i + n = S 3 a → 0 ≤ i → ∃ σ', rz_vi σ0 S a T s0 (S 3 a) σ' ∧ ∀ (d : Nat) (Q : mb_O → mb_S → Prop) (lz : Option Value), 3 ≤ d → ∃ lz', mb_Rn d 30 10 [some (.ref p), some (.ref T), some (.int (iI (i))), lz] [] σ Q = mb_Rn d 30 49 [some (.ref p), some (.ref T), some (.int (iI (S 3 a))), lz'] [] σ' Q := by
  have w3 := pw_3 hW a
  intro n
  induction n with
  | zero =>
    intro i σ h h1 h2
    have e : i = S 3 a := by omega
    have hR2 := rz_RgM hR h.1 l1 l2 l3 l4
    have h0 := hR2.1
    have hc : (S 3 a ≤ i) = True := eq_true (by omega)
    rw [e] at h
    refine ⟨σ, h, fun d Q lz hd => ⟨lz, ?_⟩⟩
    rw [sX5_versionOfIt_10, ← e]
    rw [← e] at h0 hc
    repeat' (first | (simp (config := {maxSteps := 1000000}) (disch := first | assumption | omega | exact Nat.le_of_ble_eq_true rfl | (intro _; first | rfl | simp (disch := decide) only [pz_su_t])) only [sX5_versionOfIt_0, sX5_versionOfIt_3, sX5_versionOfIt_3i, sX5_versionOfIt_4, sX5_versionOfIt_7, sX5_versionOfIt_7n, sX5_versionOfIt_8, sX5_versionOfIt_9, sX5_versionOfIt_11, sX5_versionOfIt_11n, sX5_versionOfIt_12, sX5_versionOfIt_18, sX5_versionOfIt_18n, sX5_versionOfIt_19, sX5_versionOfIt_20, sX5_versionOfIt_23, sX5_versionOfIt_23n, sX5_versionOfIt_24, sX5_versionOfIt_24n, sX5_versionOfIt_25, sX5_versionOfIt_25n, sX5_versionOfIt_28, sX5_versionOfIt_28n, sX5_versionOfIt_29, sX5_versionOfIt_29n, sX5_versionOfIt_30, sX5_versionOfIt_33, sX5_versionOfIt_34, sX5_versionOfIt_35, sX5_versionOfIt_35n, sX5_versionOfIt_36, sX5_versionOfIt_39, sX5_versionOfIt_42, sX5_versionOfIt_42i, sX5_versionOfIt_43, sX5_versionOfIt_46, sX5_versionOfIt_50, sX5_versionOfIt_53, sX5_versionOfIt_53n, sX5_versionOfIt_54, sX5_versionOfIt_54n, pz_add, pz_mul, pz_neg, pz_sub, pz_lt, pz_le, pz_eq, pz_b0, pz_b1, pz_bb, pz_ix, Int.sub_zero, Int.zero_add, Int.add_zero, Int.mul_zero, mb_qk, mb_qx, if_true, if_false, true_or, or_true, false_or, or_false, and_true, true_and, and_false, false_and, not_true_eq_false, not_false_eq_true, ite_self, List.lookup, List.length_cons, List.length_nil, ite_not, Nat.reduceAdd, Int.reduceEq, Int.reduceLT, Int.reduceLE, pz_n0, pz_n1, pz_n2, pz_n3, pz_n4, pz_n5, pz_n6, pz_n7, pz_n8, pz_n10, pz_n12, pz_n39, pz_n40, pz_n80, pz_n99, pz_n100, pz_n999, pz_nm1, pz_nm999, hc, pz_gf h0, List.getD_cons_zero, List.getD_cons_succ]) | (simp (disch := first | assumption | omega | exact Nat.le_of_ble_eq_true rfl | (intro _; first | rfl | simp (disch := decide) only [pz_su_t])) only [sX5_versionOfIt_15, pz_add, pz_mul, pz_neg, pz_sub, pz_lt, pz_le, pz_eq, pz_b0, pz_b1, pz_bb, pz_ix, Int.sub_zero, Int.zero_add, Int.add_zero, Int.mul_zero, mb_qk, mb_qx, if_true, if_false, true_or, or_true, false_or, or_false, and_true, true_and, and_false, false_and, not_true_eq_false, not_false_eq_true, ite_self, List.lookup, List.length_cons, List.length_nil, ite_not, Nat.reduceAdd, Int.reduceEq, Int.reduceLT, Int.reduceLE, pz_n0, pz_n1, pz_n2, pz_n3, pz_n4, pz_n5, pz_n6, pz_n7, pz_n8, pz_n10, pz_n12, pz_n39, pz_n40, pz_n80, pz_n99, pz_n100, pz_n999, pz_nm1, pz_nm999]; first | split | skip) | split)
    all_goals first | rfl | omega | ((try unfold pz_b); (repeat' split) <;> first | rfl | omega | (simp_all only []; done) | (exfalso; simp_all only [not_true_eq_false, not_false_eq_true]; omega) | skip)
  | succ n ih =>
    intro i σ h h1 h2
    have hc : (S 3 a ≤ i) = False := eq_false (by omega)
    have hR2 := rz_RgM hR h.1 l1 l2 l3 l4
    obtain ⟨k0, k1, ⟨t1, k2, k3⟩, ⟨t2, k4, k5⟩, k6, k7, k8⟩ := h
    have h0 := hR2.1
    obtain ⟨_, ⟨g1, e1, e2⟩, ⟨g2, e3, e4⟩⟩ := hR2
    have hCi := (e4 i h2 (by omega)).2
    have eC := hCi.1
    have la := l4 i h2 (by omega)
    have hco : ∀ (d : Nat) (Q : mb_O → mb_S → Prop), 1 ≤ d → mb_Ex d 23 [.ref p, .int (iI i)] σ Q = Q (.inl (some (.ref (ac i).1))) σ := fun d Q hd => (pc_curveOf hW hd (rz_RgM hR k0 l1 l2 l3 l4) (by omega) (by omega)).trans (if_pos (by omega))
    obtain ⟨σ1, a1, a2, ⟨a3, a4⟩, a5⟩ := wc_copy hW hCi (by omega) (by omega) (by omega) (by omega)
    have b1 := (a2 T (by omega)).trans k1
    have b2 := (a2 (T + 1) (by omega)).trans k2
    have b4 := (a2 (T + 2) (by omega)).trans k4
    have ap := fun d Q => wc_append (v := S 4 (10 * a + i)) b1 b2 b4 a1.1 (by omega) (by omega) (by omega) (by omega) (by omega) h2 (by omega) d Q
    obtain ⟨σ2, σE⟩ : ∃ σ2 : mb_S, σ2 = mb_up (mb_up (mb_up σ1 (T + 1) (.inl (0, 10, .inl (upd t1 (iI i).toNatClampNeg (iI (S 4 (10 * a + i))))))) (T + 2) (.inl (12, 10, .inr (.inr (.inr (.inr (va_up t2 (iI i).toNatClampNeg (some σ.2.1)))))))) T (.inr (5, [.ref (T + 1), .ref (T + 2), .int (iI (i + 1)), .null])) := ⟨_, rfl⟩
    have bs : ∀ q, q ≠ T → q ≠ T + 1 → q ≠ T + 2 → σ2.1 q = σ1.1 q := fun q q0 q1 q2 => by rw [σE, gu_at q0, gu_at q2, gu_at q1]
    have bm : σ2.2 = σ1.2 := by rw [σE]; rfl
    have hI2 : rz_vi σ0 S a T s0 (i + 1) σ2 := by
      refine ⟨fun q hq => (bs q (by omega) (by omega) (by omega)).trans ((a2 q (by omega)).trans (k0 q hq)), by rw [σE]; exact gu_ae, rz_ArU (by rw [σE, gu_at (by omega), gu_at (by omega)]; exact gu_ae) k3 h2 (by omega) (by decide) (fun k _ _ => ?_), ⟨_, by rw [σE, gu_at (by omega)]; exact gu_ae, fun k kk0 kk1 => ?_⟩, fun k kk0 kk1 => ?_, by rw [bm]; omega, by rw [bm]; omega⟩
      · show (if k < i + 1 then S 4 (10 * a + k) else 0) = if k = i then S 4 (10 * a + i) else if k < i then S 4 (10 * a + k) else 0
        by_cases e : k = i
        · rw [if_pos (by omega), if_pos e, e]
        · rw [if_neg e]; exact rz_ic (by omega)
      · rw [rz_vup h2 (by omega) kk0 (by omega)]
        by_cases e : k = i
        · rw [if_pos e, e, k7]
        · rw [if_neg e]; exact k5 k kk0 (by omega)
      · by_cases e : k = i
        · rw [e, ← k7]
          exact rz_ncM a1 (fun q q0 q1 => bs q (by omega) (by omega) (by omega))
        · exact rz_ncM (k6 k kk0 (by omega)) (fun q q0 q1 => (bs q (by omega) (by omega) (by omega)).trans (a2 q (by omega)))
    obtain ⟨σ3, r1, r2⟩ := ih (i + 1) σ2 hI2 (by omega) (by omega)
    refine ⟨σ3, r1, fun d Q lz hd => ?_⟩
    obtain ⟨lz', r3⟩ := r2 d Q (some (.ref (ac i).1)) hd
    refine ⟨lz', ?_⟩
    rw [σE] at r3
    have a6 := fun Q => a5 (d - 1) Q (by omega)
    rw [sX5_versionOfIt_10]
    repeat' (first | (simp (config := {maxSteps := 1000000}) (disch := first | assumption | omega | exact Nat.le_of_ble_eq_true rfl | (intro _; first | rfl | simp (disch := decide) only [pz_su_t])) only [sX5_versionOfIt_0, sX5_versionOfIt_3, sX5_versionOfIt_3i, sX5_versionOfIt_4, sX5_versionOfIt_7, sX5_versionOfIt_7n, sX5_versionOfIt_8, sX5_versionOfIt_9, sX5_versionOfIt_11, sX5_versionOfIt_11n, sX5_versionOfIt_12, sX5_versionOfIt_18, sX5_versionOfIt_18n, sX5_versionOfIt_19, sX5_versionOfIt_20, sX5_versionOfIt_23, sX5_versionOfIt_23n, sX5_versionOfIt_24, sX5_versionOfIt_24n, sX5_versionOfIt_25, sX5_versionOfIt_25n, sX5_versionOfIt_28, sX5_versionOfIt_28n, sX5_versionOfIt_29, sX5_versionOfIt_29n, sX5_versionOfIt_30, sX5_versionOfIt_33, sX5_versionOfIt_34, sX5_versionOfIt_35, sX5_versionOfIt_35n, sX5_versionOfIt_36, sX5_versionOfIt_39, sX5_versionOfIt_42, sX5_versionOfIt_42i, sX5_versionOfIt_43, sX5_versionOfIt_46, sX5_versionOfIt_50, sX5_versionOfIt_53, sX5_versionOfIt_53n, sX5_versionOfIt_54, sX5_versionOfIt_54n, pz_add, pz_mul, pz_neg, pz_sub, pz_lt, pz_le, pz_eq, pz_b0, pz_b1, pz_bb, pz_ix, Int.sub_zero, Int.zero_add, Int.add_zero, Int.mul_zero, mb_qk, mb_qx, if_true, if_false, true_or, or_true, false_or, or_false, and_true, true_and, and_false, false_and, not_true_eq_false, not_false_eq_true, ite_self, List.lookup, List.length_cons, List.length_nil, ite_not, Nat.reduceAdd, Int.reduceEq, Int.reduceLT, Int.reduceLE, pz_n0, pz_n1, pz_n2, pz_n3, pz_n4, pz_n5, pz_n6, pz_n7, pz_n8, pz_n10, pz_n12, pz_n39, pz_n40, pz_n80, pz_n99, pz_n100, pz_n999, pz_nm1, pz_nm999, hc, hco, a6, ap, r3, pz_gf h0, pz_gf eC, pz_gi e1, e2, pz_gf b1, List.getD_cons_zero, List.getD_cons_succ]) | (simp (disch := first | assumption | omega | exact Nat.le_of_ble_eq_true rfl | (intro _; first | rfl | simp (disch := decide) only [pz_su_t])) only [sX5_versionOfIt_15, pz_add, pz_mul, pz_neg, pz_sub, pz_lt, pz_le, pz_eq, pz_b0, pz_b1, pz_bb, pz_ix, Int.sub_zero, Int.zero_add, Int.add_zero, Int.mul_zero, mb_qk, mb_qx, if_true, if_false, true_or, or_true, false_or, or_false, and_true, true_and, and_false, false_and, not_true_eq_false, not_false_eq_true, ite_self, List.lookup, List.length_cons, List.length_nil, ite_not, Nat.reduceAdd, Int.reduceEq, Int.reduceLT, Int.reduceLE, pz_n0, pz_n1, pz_n2, pz_n3, pz_n4, pz_n5, pz_n6, pz_n7, pz_n8, pz_n10, pz_n12, pz_n39, pz_n40, pz_n80, pz_n99, pz_n100, pz_n999, pz_nm1, pz_nm999]; first | split | skip) | split)
    all_goals first | rfl | omega | ((try unfold pz_b); (repeat' split) <;> first | rfl | omega | (simp_all only []; done) | (exfalso; simp_all only [not_true_eq_false, not_false_eq_true]; omega) | skip)
end
