/-! p24: the law's start (written by wip/p24/gen/q99.py; wc_initX and rz_R0 after whole's part 93) -/
/-- the empty house -/
def pz_S0 : pz_S := fun _ _ => 0
set_option maxRecDepth 20000 in
set_option maxHeartbeats 4000000 in
theorem wc_initX {σ : mb_S} {c : Nat} (h0 : σ.1 c = some (.inr (7, [.null, .null, .null, .int 0, .int 0, .int 0, .int 0]))) (h1 : c < σ.2.1) : ∃ σ', σ'.1 c = some (.inr (7, [.ref σ.2.1, .ref (σ.2.1 + 1), .ref (σ.2.1 + 2), .int 0, .int 0, .int 0, .int 0])) ∧ (σ'.1 σ.2.1 = some (.inl (10, 8, .inr (.inr (.inr (.inr (fun _ => none)))))) ∧ σ'.1 (σ.2.1 + 1) = some (.inl (16, 8, .inr (.inr (.inr (.inr (fun _ => none)))))) ∧ σ'.1 (σ.2.1 + 2) = some (.inl (14, 40, .inr (.inr (.inr (.inr (fun _ => none))))))) ∧ (∀ q, q < σ.2.1 → q ≠ c → σ'.1 q = σ.1 q) ∧ (σ'.2.1 = σ.2.1 + 3 ∧ σ'.2.2 = σ.2.2 + 56) ∧ ∀ (d : Nat) (Q : mb_O → mb_S → Prop), 1 ≤ d → mb_Ex d 40 [.ref c] σ Q = Q (.inl none) σ' := by
  refine ⟨(mb_up (mb_al (mb_up (mb_al (mb_up (mb_al σ (.inl (10, 8, .inr (.inr (.inr (.inr (fun _ => none)))))) 8) c (.inr (7, [.ref σ.2.1, .null, .null, .int 0, .int 0, .int 0, .int 0]))) (.inl (16, 8, .inr (.inr (.inr (.inr (fun _ => none)))))) 8) c (.inr (7, [.ref σ.2.1, .ref (σ.2.1 + 1), .null, .int 0, .int 0, .int 0, .int 0]))) (.inl (14, 40, .inr (.inr (.inr (.inr (fun _ => none)))))) 40) c (.inr (7, [.ref σ.2.1, .ref (σ.2.1 + 1), .ref (σ.2.1 + 2), .int 0, .int 0, .int 0, .int 0]))), gu_ae, ⟨by rw [gu_at (by omega), ga_at (by first | omega | (simp only [ga_n, gu_n]; omega)), gu_at (by omega), ga_at (by first | omega | (simp only [ga_n, gu_n]; omega)), gu_at (by omega)] <;> exact if_pos rfl, by rw [gu_at (by omega), ga_at (by first | omega | (simp only [ga_n, gu_n]; omega)), gu_at (by omega), ga_ae (by simp only [ga_n, gu_n])], by rw [gu_at (by omega), ga_ae (by simp only [ga_n, gu_n])]⟩, fun q h2 h3 => by rw [gu_at (by omega), ga_at (by first | omega | (simp only [ga_n, gu_n]; omega)), gu_at (by omega), ga_at (by first | omega | (simp only [ga_n, gu_n]; omega)), gu_at (by omega), ga_at (by first | omega | (simp only [ga_n, gu_n]; omega))], ⟨rfl, rfl⟩, fun d Q hd => ?_⟩
  show mb_Rn d 40 0 [some (.ref c)] [] σ Q = _
  repeat' (first | (simp (config := {maxSteps := 1000000}) (disch := first | assumption | omega | (simp only [ga_n, gu_n]; omega) | exact Nat.le_of_ble_eq_true rfl | (intro _; first | rfl | simp (disch := decide) only [pz_su_t])) only [sX7_init_0, sX7_init_0n, sX7_init_1, sX7_init_4, sX7_init_4n, sX7_init_5, sX7_init_7, sX7_init_10, sX7_init_10n, sX7_init_13, sX7_init_13n, sX7_init_14, sX7_init_16, sX7_init_19, sX7_init_19n, sX7_init_22, sX7_init_22n, sX7_init_23, sX7_init_25, sX7_init_28, sX7_init_28n, sX7_init_31, pz_add, pz_mul, pz_neg, pz_sub, pz_lt, pz_le, pz_eq, pz_b0, pz_b1, pz_bb, pz_ix, Int.sub_zero, Int.zero_add, Int.add_zero, Int.mul_zero, mb_qk, mb_qx, if_true, if_false, true_or, or_true, false_or, or_false, and_true, true_and, and_false, false_and, not_true_eq_false, not_false_eq_true, ite_self, List.lookup, List.length_cons, List.length_nil, ite_not, Nat.reduceAdd, Int.reduceEq, Int.reduceLT, Int.reduceLE, pz_gf h0, ga_gf, ga_gi, ga_gq, ga_gfe, ga_gie, ga_gqe, ga_n, gu_n, gu_gf, gu_gi, gu_gq, gu_gfe, gu_gie, gu_gqe, List.set_cons_zero, List.set_cons_succ, Nat.reduceLT, Nat.reduceLeDiff, Nat.add_assoc, List.getD_cons_zero, List.getD_cons_succ]) | split)
theorem rz_In0 : rz_In pz_S0 := by
  have hb : ∀ t, t < 26 → pz_bl t ≤ 0 ∧ 0 ≤ pz_bh t := by decide
  refine ⟨fun t i h1 h2 => hb t h2, ⟨fun B k _ _ k0 k1 => ?_, fun r b _ _ b0 b1 => ?_⟩, ⟨fun s a _ _ _ _ h => absurd rfl h, fun a v _ _ v0 v1 => ?_, fun s f a s0 s1 _ _ _ _ _ => ?_⟩, ⟨⟨fun _ _ _ => ⟨rfl, rfl⟩, fun _ _ _ _ _ _ => rfl⟩, fun _ _ _ _ _ _ => ⟨rfl, rfl, fun _ _ _ => ⟨rfl, rfl, rfl⟩⟩, fun _ _ _ => ⟨fun _ _ _ => rfl, fun _ _ _ => rfl⟩, fun _ _ _ => ⟨rfl, rfl⟩⟩⟩
  · have : k + 1 < 0 := k1
    omega
  · have : b < 0 := b1
    omega
  · have : v < 0 := v1
    omega
  · have : s < 0 := s1
    omega
def ll_Fo (B : Nat) (q : Nat) : Prop := q < B ∨ (B + 4 ≤ q ∧ q < B + 9)
theorem rz_R0 {σ : mb_S} {B : Nat} {g1 g2 g3 : Nat → Option Nat} (h0 : σ.1 B = some (.inr (7, [.ref (B + 1), .ref (B + 2), .ref (B + 3), .int 0, .int 0, .int 0, .int 0]))) (h1 : σ.1 (B + 1) = some (.inl (10, 8, .inr (.inr (.inr (.inr g1)))))) (h2 : σ.1 (B + 2) = some (.inl (16, 8, .inr (.inr (.inr (.inr g2)))))) (h3 : σ.1 (B + 3) = some (.inl (14, 40, .inr (.inr (.inr (.inr g3)))))) (hn : σ.2.1 = B + 9) : rz_R σ pz_S0 (fun t _ => B + t) (ll_Fo B) := by
  have rl : ∀ r, ¬ rz_rl pz_S0 r := fun r ⟨k1, k2, k3, k4⟩ => by
    by_cases e : r < 8
    · have : r < 0 := k3 e
      omega
    · have : (r - 8) / 12 < 0 := (k4 (by omega)).1
      omega
  have lo : ∀ t i, rz_lv pz_S0 t i → t ≤ 3 ∧ i = 0 := by
    refine rz_tag (fun i k => ⟨by omega, k⟩) (fun i k => ⟨by omega, k⟩) (fun i k => ⟨by omega, k⟩) (fun i k => ⟨by omega, k⟩) (fun i k => ?_) (fun i k => ?_) (fun i k => absurd k (rl i)) (fun i k => absurd k (rl i)) (fun i k => absurd k (rl i)) (fun i k => absurd k.1 (rl i)) (fun i k => absurd k.1 (rl _)) (fun i k => absurd k.1 (rl _)) (fun i k => absurd k.1 (rl _)) (fun i k => absurd k.1 (rl _)) (fun i k => ?_) (fun i k => ?_) (fun i k => ?_) (fun i k => ?_) (fun i k => ?_) (fun i k => ?_) (fun i k => ?_) (fun t i k => False.elim k)
    · have : i < 0 := k.2
      have := k.1; omega
    · have : i < 0 := k.2
      have := k.1; omega
    · have : i < 0 := k.2
      have := k.1; omega
    · have : i < 0 := k.2
      have := k.1; omega
    · have : i < 0 := k.2
      have := k.1; omega
    · have : i / 40 < 0 := k.2.1
      have := k.1; omega
    · have : i / 40 < 0 := k.2.1
      have := k.1; omega
    · have : i / 8 < 0 := k.2.1
      have := k.1; omega
    · have : i < 0 := k.2
      have := k.1; omega
  refine ⟨fun t i hl => ?_, fun t i t' i' hl hl' e => ?_, fun q hq => ?_⟩
  · obtain ⟨ht, hi⟩ := lo t i hl
    refine ⟨?_, (show B + t < σ.2.1 by rw [hn]; omega), fun hf => by
      have hf' : B + t < B ∨ (B + 4 ≤ B + t ∧ B + t < B + 9) := hf
      omega⟩
    rcases (show t = 0 ∨ t = 1 ∨ t = 2 ∨ t = 3 by omega) with e | e | e | e <;> subst e
    · exact ⟨_, h0, rfl⟩
    · exact ⟨_, h1, _, rfl, fun j j0 j1 => by have : j < 0 := j1; omega⟩
    · exact ⟨_, h2, _, rfl, fun j j0 j1 => by have : j < 0 := j1; omega⟩
    · exact ⟨_, h3, _, rfl, fun j j0 j1 => by have : j < 0 := j1; omega⟩
  · have a := lo t i hl
    have b := lo t' i' hl'
    have e2 : B + t = B + t' := e
    exact ⟨by omega, by omega⟩
  · rw [hn]; rcases hq with hq | hq <;> omega
set_option maxRecDepth 20000 in
set_option maxHeartbeats 600000 in
theorem ls_a {d : Nat} {Q : mb_O → mb_S → Prop} {σ σ1 : mb_S} {a0 : Nat} (hd : 12 ≤ d) (hI : ∀ (d : Nat) (Q : mb_O → mb_S → Prop), 1 ≤ d → mb_Ex d 40 [.ref σ.2.1] (mb_al σ (.inr (7, [.null, .null, .null, .int 0, .int 0, .int 0, .int 0])) 7) Q = Q (.inl none) σ1) (h1 : σ1.2.1 = σ.2.1 + 4) : mb_Rn d 90 0 [some (.ref a0), none, none, none, none, none, none, none, none, none, none, none, none, none, none, none, none, none, none, none] [] σ Q = mb_Rn d 90 39 [some (.ref a0), some (.ref σ.2.1), some (.ref (σ.2.1 + 4)), some (.ref (σ.2.1 + 5)), some (.ref (σ.2.1 + 6)), some (.ref (σ.2.1 + 7)), some (.ref (σ.2.1 + 8)), some (.int 0), some (.int 0), none, none, none, none, none, none, none, none, none, none, none] [] (mb_al (mb_al (mb_al (mb_al (mb_al σ1 (.inl (0, 24, .inl (fun _ => 0))) 24) (.inl (0, 24, .inl (fun _ => 0))) 24) (.inl (0, 2, .inl (fun _ => 0))) 2) (.inl (0, 2, .inl (fun _ => 0))) 2) (.inl (0, 2, .inl (fun _ => 0))) 2) Q := by
  have hI' := fun (Q : mb_O → mb_S → Prop) => hI (d - 1) Q (by omega)
  simp (config := {maxSteps := 2000000}) (disch := first | assumption | omega | exact Nat.le_of_ble_eq_true rfl | (intro _; first | rfl | simp (disch := decide) only [pz_su_t])) only [↓reduceIte, sL_law_0, sL_law_3, sL_law_3i, sL_law_4, sL_law_7, sL_law_7n, sL_law_8, sL_law_10, sL_law_12, sL_law_12n, sL_law_13, sL_law_15, sL_law_17, sL_law_17n, sL_law_18, sL_law_19, sL_law_21, sL_law_21n, sL_law_23, sL_law_24, sL_law_26, sL_law_26n, sL_law_28, sL_law_29, sL_law_31, sL_law_31n, sL_law_33, sL_law_34, sL_law_36, sL_law_37, mb_qk, mb_qx, if_true, if_false, true_or, or_true, false_or, or_false, and_true, true_and, and_false, false_and, not_true_eq_false, not_false_eq_true, ite_self, List.lookup, List.length_cons, List.length_nil, ite_not, ga_n, ga_m, Nat.add_assoc, Nat.reduceAdd, hI', h1]
set_option maxRecDepth 20000 in
set_option maxHeartbeats 600000 in
theorem ls_b {d : Nat} {Q : mb_O → mb_S → Prop} {σ σ1 σ2 σ3 σ4 : mb_S} {a0 x sA bA fA vA dA : Nat} {z z1 z2 z3 : List Value} (hd : 12 ≤ d) (hx : σ.1 x = some (.inr (7, z))) (hx1 : σ1.1 x = some (.inr (7, z1))) (hx2 : σ2.1 x = some (.inr (7, z2))) (hx3 : σ3.1 x = some (.inr (7, z3))) (h1 : ∀ (d : Nat) (Q : mb_O → mb_S → Prop), 9 ≤ d → mb_Ex d 41 [.ref x] σ Q = Q (.inl (some (.int (iI (0))))) σ1) (h2 : ∀ (d : Nat) (Q : mb_O → mb_S → Prop), 9 ≤ d → mb_Ex d 41 [.ref x] σ1 Q = Q (.inl (some (.int (iI (1))))) σ2) (h3 : ∀ (d : Nat) (Q : mb_O → mb_S → Prop), 9 ≤ d → mb_Ex d 49 [.ref x, .int (iI 8)] σ2 Q = Q (.inl (some (.int (iI (0))))) σ3) (h4 : ∀ (d : Nat) (Q : mb_O → mb_S → Prop), 9 ≤ d → mb_Ex d 49 [.ref x, .int (iI 7)] σ3 Q = Q (.inl (some (.int (iI (1))))) σ4) : mb_Rn d 90 39 [some (.ref a0), some (.ref x), some (.ref sA), some (.ref bA), some (.ref fA), some (.ref vA), some (.ref dA), some (.int (iI 0)), some (.int (iI 0)), none, none, none, none, none, none, none, none, none, none, none] [] σ Q = mb_Rn d 90 80 [some (.ref a0), some (.ref x), some (.ref sA), some (.ref bA), some (.ref fA), some (.ref vA), some (.ref dA), some (.int (iI 0)), some (.int (iI 0)), some (.int (iI 1)), none, none, none, none, none, none, none, none, none, none] [] σ4 Q := by
  simp (config := {maxSteps := 2000000}) (disch := first | assumption | omega | exact Nat.le_of_ble_eq_true rfl | (intro _; first | rfl | simp (disch := decide) only [pz_su_t])) only [↓reduceIte, sL_law_39, sL_law_39n, sL_law_40, sL_law_43, sL_law_46, sL_law_46n, sL_law_47, sL_law_50, sL_law_51, sL_law_54, sL_law_54n, sL_law_55, sL_law_57, sL_law_60, sL_law_63, sL_law_63n, sL_law_64, sL_law_66, sL_law_69, sL_law_70, sL_law_73, sL_law_74, sL_law_77, sL_law_78, pz_add, pz_mul, pz_neg, pz_sub, pz_lt, pz_le, pz_eq, pz_b0, pz_b1, pz_bb, pz_ix, Int.sub_zero, Int.zero_add, Int.add_zero, Int.mul_zero, mb_qk, mb_qx, if_true, if_false, true_or, or_true, false_or, or_false, and_true, true_and, and_false, false_and, not_true_eq_false, not_false_eq_true, ite_self, List.lookup, List.length_cons, List.length_nil, ite_not, pz_n0, pz_n1, pz_n2, pz_n3, pz_n4, pz_n5, pz_n6, pz_n7, pz_n8, pz_n10, pz_n12, pz_n39, pz_n40, pz_n80, pz_n99, pz_n100, pz_n999, pz_nm1, pz_nm999, lb_n9, lb_n11, lb_n13, lb_n16, lb_n19, lb_n22, lb_n24, lb_n25, lb_n30, lb_n60, lb_n110, lb_n150, lb_n200, lb_n1999, lb_nm11, lb_nm12, lb_nm13, lb_s1, lb_s2, lb_s3, lb_s4, lb_s5, lb_s6, lb_s9, Int.reduceLT, Int.reduceLE, Int.reduceEq, Int.reduceAdd, Int.reduceNeg, Int.lt_irrefl, Int.le_refl, eq_self, h1, h2, h3, h4, pz_gf hx, pz_gf hx1, pz_gf hx2, pz_gf hx3, true_or, List.getD_cons_zero, List.getD_cons_succ]
set_option maxRecDepth 20000 in
set_option maxHeartbeats 600000 in
theorem ls_c {σ : mb_S} {a0 x sA bA fA vA dA n : Nat} {g g0 : Nat → Int32} (hs : σ.1 a0 = some (.inl (9, n, .inl g))) (hn : n ≤ 260) (h4 : σ.1 fA = some (.inl (0, 2, .inl g0))) (hne : a0 ≠ fA) : ∃ tn : Int, 0 ≤ tn ∧ tn ≤ 250 ∧ ∀ (d : Nat) (Q : mb_O → mb_S → Prop), mb_Rn d 90 80 [some (.ref a0), some (.ref x), some (.ref sA), some (.ref bA), some (.ref fA), some (.ref vA), some (.ref dA), some (.int (iI 0)), some (.int (iI 0)), some (.int (iI 1)), none, none, none, none, none, none, none, none, none, none] [] σ Q = mb_Rn d 90 127 [some (.ref a0), some (.ref x), some (.ref sA), some (.ref bA), some (.ref fA), some (.ref vA), some (.ref dA), some (.int (iI 0)), some (.int (iI 0)), some (.int (iI 1)), some (.int (iI tn)), some (.int (iI 0)), none, none, none, none, none, none, none, none] [] (mb_up (mb_up σ fA (.inl (0, 2, .inl (upd g0 (iI 0).toNatClampNeg (iI 8))))) fA (.inl (0, 2, .inl (upd (upd g0 (iI 0).toNatClampNeg (iI 8)) (iI 1).toNatClampNeg (iI 7))))) Q := by
  have hon : Int32.ofNat n = iI (n : Int) := by
    have e := pz_of (nI n)
    rw [nI_toInt (show n < 2 ^ 31 by omega)] at e
    exact e.symm
  have e5 : (mb_up σ fA (.inl (0, 2, .inl (upd g0 (iI 0).toNatClampNeg (iI 8))))).1 fA = some (.inl (0, 2, .inl (upd g0 (iI 0).toNatClampNeg (iI 8)))) := gu_ae
  have e6 : (mb_up (mb_up σ fA (.inl (0, 2, .inl (upd g0 (iI 0).toNatClampNeg (iI 8))))) fA (.inl (0, 2, .inl (upd (upd g0 (iI 0).toNatClampNeg (iI 8)) (iI 1).toNatClampNeg (iI 7))))).1 a0 = some (.inl (9, n, .inl g)) := (gu_at hne).trans ((gu_at hne).trans hs)
  by_cases c1 : (n : Int) < 60
  · have q1 : (60 ≤ (n : Int)) = False := eq_false (by omega)
    exact ⟨150, by omega, by omega, fun d Q => by
      simp (config := {maxSteps := 2000000}) (disch := first | assumption | omega | exact Nat.le_of_ble_eq_true rfl | (intro _; first | rfl | simp (disch := decide) only [pz_su_t])) only [↓reduceIte, sL_law_80, sL_law_80n, sL_law_82, sL_law_83, sL_law_85, sL_law_86, sL_law_86n, sL_law_88, sL_law_89, sL_law_91, sL_law_92, sL_law_92n, sL_law_94, sL_law_96, sL_law_99, sL_law_102, sL_law_105, sL_law_105n, sL_law_107, sL_law_109, sL_law_112, sL_law_113, sL_law_113n, sL_law_115, sL_law_116, sL_law_119, sL_law_122, sL_law_124, sL_law_125, pz_add, pz_mul, pz_neg, pz_sub, pz_lt, pz_le, pz_eq, pz_b0, pz_b1, pz_bb, pz_ix, Int.sub_zero, Int.zero_add, Int.add_zero, Int.mul_zero, mb_qk, mb_qx, if_true, if_false, true_or, or_true, false_or, or_false, and_true, true_and, and_false, false_and, not_true_eq_false, not_false_eq_true, ite_self, List.lookup, List.length_cons, List.length_nil, ite_not, pz_n0, pz_n1, pz_n2, pz_n3, pz_n4, pz_n5, pz_n6, pz_n7, pz_n8, pz_n10, pz_n12, pz_n39, pz_n40, pz_n80, pz_n99, pz_n100, pz_n999, pz_nm1, pz_nm999, lb_n9, lb_n11, lb_n13, lb_n16, lb_n19, lb_n22, lb_n24, lb_n25, lb_n30, lb_n60, lb_n110, lb_n150, lb_n200, lb_n1999, lb_nm11, lb_nm12, lb_nm13, lb_s1, lb_s2, lb_s3, lb_s4, lb_s5, lb_s6, lb_s9, Int.reduceLT, Int.reduceLE, Int.reduceEq, Int.reduceAdd, Int.reduceNeg, Int.lt_irrefl, Int.le_refl, eq_self, q1, hon, sL_law_93 e6, pz_gi h4, pz_gi e5, true_or, List.getD_cons_zero, List.getD_cons_succ]⟩
  · have q1 : (60 ≤ (n : Int)) = True := eq_true (by omega)
    by_cases c2 : (n : Int) < 110
    · have q2 : (110 ≤ (n : Int)) = False := eq_false (by omega)
      exact ⟨2 * n, by omega, by omega, fun d Q => by
        simp (config := {maxSteps := 2000000}) (disch := first | assumption | omega | exact Nat.le_of_ble_eq_true rfl | (intro _; first | rfl | simp (disch := decide) only [pz_su_t])) only [↓reduceIte, sL_law_80, sL_law_80n, sL_law_82, sL_law_83, sL_law_85, sL_law_86, sL_law_86n, sL_law_88, sL_law_89, sL_law_91, sL_law_92, sL_law_92n, sL_law_94, sL_law_96, sL_law_99, sL_law_102, sL_law_105, sL_law_105n, sL_law_107, sL_law_109, sL_law_112, sL_law_113, sL_law_113n, sL_law_115, sL_law_116, sL_law_119, sL_law_122, sL_law_124, sL_law_125, pz_add, pz_mul, pz_neg, pz_sub, pz_lt, pz_le, pz_eq, pz_b0, pz_b1, pz_bb, pz_ix, Int.sub_zero, Int.zero_add, Int.add_zero, Int.mul_zero, mb_qk, mb_qx, if_true, if_false, true_or, or_true, false_or, or_false, and_true, true_and, and_false, false_and, not_true_eq_false, not_false_eq_true, ite_self, List.lookup, List.length_cons, List.length_nil, ite_not, pz_n0, pz_n1, pz_n2, pz_n3, pz_n4, pz_n5, pz_n6, pz_n7, pz_n8, pz_n10, pz_n12, pz_n39, pz_n40, pz_n80, pz_n99, pz_n100, pz_n999, pz_nm1, pz_nm999, lb_n9, lb_n11, lb_n13, lb_n16, lb_n19, lb_n22, lb_n24, lb_n25, lb_n30, lb_n60, lb_n110, lb_n150, lb_n200, lb_n1999, lb_nm11, lb_nm12, lb_nm13, lb_s1, lb_s2, lb_s3, lb_s4, lb_s5, lb_s6, lb_s9, Int.reduceLT, Int.reduceLE, Int.reduceEq, Int.reduceAdd, Int.reduceNeg, Int.lt_irrefl, Int.le_refl, eq_self, q1, q2, hon, sL_law_93 e6, sL_law_106 e6, sL_law_114 e6, pz_gi h4, pz_gi e5, true_or, List.getD_cons_zero, List.getD_cons_succ]⟩
    · have q2 : (110 ≤ (n : Int)) = True := eq_true (by omega)
      exact ⟨200, by omega, by omega, fun d Q => by
        simp (config := {maxSteps := 2000000}) (disch := first | assumption | omega | exact Nat.le_of_ble_eq_true rfl | (intro _; first | rfl | simp (disch := decide) only [pz_su_t])) only [↓reduceIte, sL_law_80, sL_law_80n, sL_law_82, sL_law_83, sL_law_85, sL_law_86, sL_law_86n, sL_law_88, sL_law_89, sL_law_91, sL_law_92, sL_law_92n, sL_law_94, sL_law_96, sL_law_99, sL_law_102, sL_law_105, sL_law_105n, sL_law_107, sL_law_109, sL_law_112, sL_law_113, sL_law_113n, sL_law_115, sL_law_116, sL_law_119, sL_law_122, sL_law_124, sL_law_125, pz_add, pz_mul, pz_neg, pz_sub, pz_lt, pz_le, pz_eq, pz_b0, pz_b1, pz_bb, pz_ix, Int.sub_zero, Int.zero_add, Int.add_zero, Int.mul_zero, mb_qk, mb_qx, if_true, if_false, true_or, or_true, false_or, or_false, and_true, true_and, and_false, false_and, not_true_eq_false, not_false_eq_true, ite_self, List.lookup, List.length_cons, List.length_nil, ite_not, pz_n0, pz_n1, pz_n2, pz_n3, pz_n4, pz_n5, pz_n6, pz_n7, pz_n8, pz_n10, pz_n12, pz_n39, pz_n40, pz_n80, pz_n99, pz_n100, pz_n999, pz_nm1, pz_nm999, lb_n9, lb_n11, lb_n13, lb_n16, lb_n19, lb_n22, lb_n24, lb_n25, lb_n30, lb_n60, lb_n110, lb_n150, lb_n200, lb_n1999, lb_nm11, lb_nm12, lb_nm13, lb_s1, lb_s2, lb_s3, lb_s4, lb_s5, lb_s6, lb_s9, Int.reduceLT, Int.reduceLE, Int.reduceEq, Int.reduceAdd, Int.reduceNeg, Int.lt_irrefl, Int.le_refl, eq_self, q1, q2, hon, sL_law_93 e6, sL_law_106 e6, pz_gi h4, pz_gi e5, true_or, List.getD_cons_zero, List.getD_cons_succ]⟩
theorem lw_start {σ : mb_S} {a0 n : Nat} {g : Nat → Int32} (hs : σ.1 a0 = some (.inl (9, n, .inl g))) (ha : a0 < σ.2.1) (hn : n ≤ 260) : ∃ σ', (σ.2.1 ≤ σ'.2.1 ∧ σ'.2.1 ≤ σ.2.1 + 60000 ∧ σ'.2.2 ≤ σ.2.2 + 700000) ∧ ∀ (d : Nat) (Q : mb_O → mb_S → Prop), 12 ≤ d → mb_Rn d 90 0 [some (.ref a0), none, none, none, none, none, none, none, none, none, none, none, none, none, none, none, none, none, none, none] [] σ Q = Q (.inl (some (.int (iI 1)))) σ' := by
  obtain ⟨σ1, a1, ⟨a2, a3, a4⟩, a5, ⟨a6, a7⟩, a8⟩ := wc_initX (σ := mb_al σ (.inr (7, [.null, .null, .null, .int 0, .int 0, .int 0, .int 0])) 7) (c := σ.2.1) (if_pos rfl) (by simp only [ga_n]; omega)
  simp only [ga_n, ga_m, Nat.add_assoc, Nat.reduceAdd] at a1 a2 a3 a4 a5 a6 a7
  obtain ⟨τ, τE⟩ : ∃ τ : mb_S, τ = (mb_al (mb_al (mb_al (mb_al (mb_al σ1 (.inl (0, 24, .inl (fun _ => 0))) 24) (.inl (0, 24, .inl (fun _ => 0))) 24) (.inl (0, 2, .inl (fun _ => 0))) 2) (.inl (0, 2, .inl (fun _ => 0))) 2) (.inl (0, 2, .inl (fun _ => 0))) 2) := ⟨_, rfl⟩
  have tq : ∀ q, q < σ1.2.1 → τ.1 q = σ1.1 q := fun q hq => by
    rw [τE, ga_at (by simp only [ga_n]; omega), ga_at (by simp only [ga_n]; omega), ga_at (by simp only [ga_n]; omega), ga_at (by simp only [ga_n]; omega), ga_at (by omega)]
  have tn1 : τ.2.1 = σ.2.1 + 9 := by rw [τE]; simp only [ga_n]; omega
  have tm1 : τ.2.2 = σ.2.2 + 117 := by rw [τE]; simp only [ga_m]; omega
  have t4 : τ.1 (σ.2.1 + 4) = some (.inl (0, 24, .inl (fun _ => 0))) := by
    rw [τE, ga_at (by simp only [ga_n]; omega), ga_at (by simp only [ga_n]; omega), ga_at (by simp only [ga_n]; omega), ga_at (by simp only [ga_n]; omega), ga_ae (by omega)]
  have t5 : τ.1 (σ.2.1 + 5) = some (.inl (0, 24, .inl (fun _ => 0))) := by
    rw [τE, ga_at (by simp only [ga_n]; omega), ga_at (by simp only [ga_n]; omega), ga_at (by simp only [ga_n]; omega), ga_ae (by simp only [ga_n]; omega)]
  have t6 : τ.1 (σ.2.1 + 6) = some (.inl (0, 2, .inl (fun _ => 0))) := by
    rw [τE, ga_at (by simp only [ga_n]; omega), ga_at (by simp only [ga_n]; omega), ga_ae (by simp only [ga_n]; omega)]
  have t7 : τ.1 (σ.2.1 + 7) = some (.inl (0, 2, .inl (fun _ => 0))) := by
    rw [τE, ga_at (by simp only [ga_n]; omega), ga_ae (by simp only [ga_n]; omega)]
  have t8 : τ.1 (σ.2.1 + 8) = some (.inl (0, 2, .inl (fun _ => 0))) := by
    rw [τE, ga_ae (by simp only [ga_n]; omega)]
  have hA : ll_Ad (ll_Fo σ.2.1) a0 (σ.2.1 + 4) (σ.2.1 + 5) (σ.2.1 + 6) (σ.2.1 + 7) (σ.2.1 + 8) := ⟨⟨Or.inl ha, Or.inr (by omega), Or.inr (by omega), Or.inr (by omega), Or.inr (by omega), Or.inr (by omega)⟩, by omega, by omega, by omega, by omega, by omega⟩
  have hR := rz_R0 (σ := τ) (B := σ.2.1) (by rw [tq _ (by omega)]; exact a1) (by rw [tq _ (by omega)]; exact a2) (by rw [tq _ (by omega)]; exact a3) (by rw [tq _ (by omega)]; exact a4) tn1
  have hs2 : τ.1 a0 = some (.inl (9, n, .inl g)) := by
    rw [tq a0 (by omega), a5 a0 (by omega) (by omega), ga_at (by omega)]
    exact hs
  -- two assets, two scenes
  obtain ⟨S0, e0⟩ : ∃ S0 : pz_S, S0 = pz_S0 := ⟨_, rfl⟩
  have z0 : ∀ t i, S0 t i = 0 := fun t i => by rw [e0]; rfl
  have I0 : rz_In S0 := by rw [e0]; exact rz_In0
  rw [← e0] at hR
  obtain ⟨τ1, d1, b1, b2, b3, b4⟩ := fc_asset I0.1 hR I0.2.2.2 (by rw [z0]; decide)
  have I1 := rz_In_asset I0 (by rw [z0]; decide)
  obtain ⟨S1, e1⟩ : ∃ S1, S1 = pz_su S0 1 0 (S0 1 0 + 1) := ⟨_, rfl⟩
  rw [← e1] at b2 I1
  have y1 : S1 1 0 = 1 := by rw [e1, pz_su_e, z0]; rfl
  have x1 : ∀ t, t ≠ 1 → S1 t = S0 t := fun t h => by rw [e1]; exact pz_su_t h
  obtain ⟨τ2, d2, b5, b6, b7, b8⟩ := fc_asset I1.1 b2 I1.2.2.2 (by rw [y1]; decide)
  have I2 := rz_In_asset I1 (by rw [y1]; decide)
  obtain ⟨S2, e2⟩ : ∃ S2, S2 = pz_su S1 1 0 (S1 1 0 + 1) := ⟨_, rfl⟩
  rw [← e2] at b6 I2
  have y2 : S2 1 0 = 2 := by rw [e2, pz_su_e, y1]; rfl
  have x2 : ∀ t, t ≠ 1 → S2 t = S0 t := fun t h => by rw [e2]; exact (pz_su_t h).trans (x1 t h)
  have y29 : S2 9 0 = 0 := by rw [x2 9 (by decide), z0]
  obtain ⟨τ3, d3, b9, b10, b11, b12⟩ := fc_scene (n := 8) I2.1 b6 (by omega) (by omega) I2.2.2.2 (by omega) (by rw [y29]; decide)
  have I3 := rz_In_scene I2 (n := 8) (by omega) (by rw [y29]; decide)
  obtain ⟨S3, e3⟩ : ∃ S3, S3 = pz_su (pz_shw (S2 9 0) (8 : Int).toNat 0 (pz_su S2 10 (S2 9 0) 8)) 9 0 (S2 9 0 + 1) := ⟨_, rfl⟩
  rw [← e3] at b10 I3
  have x3 : ∀ t, t ≠ 9 → t ≠ 10 → t ≠ 15 → S3 t = S2 t := fun t h1 h2 h3 => by rw [e3, pz_su_t h1, pz_shw_t h3, pz_su_t h2]
  have y39 : S3 9 0 = 1 := by rw [e3, pz_su_e, y29]; rfl
  have y310 : ∀ c, S3 10 c = if c = 0 then 8 else 0 := fun c => by rw [e3, pz_su_t (by decide), pz_shw_t (by decide), y29, pz_su_i, x2 10 (by decide), z0]
  have y315 : ∀ c, S3 15 c = if 0 ≤ c ∧ c < 8 then c else 0 := fun c => by
    rw [e3, pz_su_t (by decide), pz_shw_15, y29, pz_su_t (by decide), x2 15 (by decide), z0]
    by_cases q : 0 ≤ c ∧ c < 8
    · rw [if_pos q, if_pos (by omega)]; omega
    · rw [if_neg q, if_neg (by omega)]
  obtain ⟨τ4, d4, b13, b14, b15, b16⟩ := fc_scene (n := 7) I3.1 b10 (by omega) (by omega) I3.2.2.2 (by omega) (by rw [y39]; decide)
  have I4 := rz_In_scene I3 (n := 7) (by omega) (by rw [y39]; decide)
  obtain ⟨S4, e4⟩ : ∃ S4, S4 = pz_su (pz_shw (S3 9 0) (7 : Int).toNat 0 (pz_su S3 10 (S3 9 0) 7)) 9 0 (S3 9 0 + 1) := ⟨_, rfl⟩
  rw [← e4] at b14 I4
  have x4 : ∀ t, t ≠ 9 → t ≠ 10 → t ≠ 15 → S4 t = S2 t := fun t h1 h2 h3 => by rw [e4, pz_su_t h1, pz_shw_t h3, pz_su_t h2, x3 t h1 h2 h3]
  have y49 : S4 9 0 = 2 := by rw [e4, pz_su_e, y39]; rfl
  have y410 : ∀ c, S4 10 c = if c = 1 then 7 else if c = 0 then 8 else 0 := fun c => by rw [e4, pz_su_t (by decide), pz_shw_t (by decide), y39, pz_su_i, y310]
  have y415 : ∀ c, S4 15 c = if 40 ≤ c ∧ c < 47 then c - 40 else if 0 ≤ c ∧ c < 8 then c else 0 := fun c => by
    rw [e4, pz_su_t (by decide), pz_shw_15, y39, pz_su_t (by decide), y315]
    by_cases q : 40 ≤ c ∧ c < 47
    · rw [if_pos q, if_pos (by omega)]; omega
    · rw [if_neg q, if_neg (by omega)]
  have w4 : ∀ t, t ≠ 1 → t ≠ 9 → t ≠ 10 → t ≠ 15 → ∀ i, S4 t i = 0 := fun t h1 h2 h3 h4 i => by rw [x4 t h2 h3 h4, x2 t h1, z0]
  have y41 : S4 1 0 = 2 := by rw [x4 1 (by decide) (by decide) (by decide), y2]
  have hI4 : lq_I S4 := by
    refine ⟨⟨y41, y49⟩, fun a a0 a1 => ?_, fun a v a0 a1 v0 v1 => ?_, fun s s0 s1 => ?_, fun B b0 b1 k k0 k1 => ?_, fun s i s0 s1 i0 i1 => ?_, fun s i j s0 s1 i0 i1 i2 => ?_, fun n n0 n1 => ?_⟩
    · rw [w4 3 (by decide) (by decide) (by decide) (by decide)]; decide
    · rw [w4 3 (by decide) (by decide) (by decide) (by decide)]; decide
    · rw [y410]
      rcases (show s = 0 ∨ s = 1 by omega) with e | e <;> subst e <;> decide
    · rw [w4 5 (by decide) (by decide) (by decide) (by decide)] at k1
      omega
    · rw [y410] at i1
      rw [y415]
      rcases (show s = 0 ∨ s = 1 by omega) with e | e <;> subst e
      · rw [if_neg (by decide), if_pos rfl] at i1
        rw [if_neg (by omega), if_pos (by omega)]
        omega
      · rw [if_pos rfl] at i1
        rw [if_pos (by omega)]
        omega
    · rw [y410] at i2
      rw [y415, y415]
      rcases (show s = 0 ∨ s = 1 by omega) with e | e <;> subst e
      · rw [if_neg (by decide), if_pos rfl] at i2
        rw [if_neg (by omega), if_pos (by omega), if_neg (by omega), if_pos (by omega)]
        omega
      · rw [if_pos rfl] at i2
        rw [if_pos (by omega), if_pos (by omega)]
        omega
    · rw [w4 21 (by decide) (by decide) (by decide) (by decide)] at n1
      omega
  have Fk : ∀ q, ll_Fo σ.2.1 q → τ4.1 q = τ.1 q := fun q hq => (b15.1 q hq).trans ((b11.1 q hq).trans ((b7.1 q hq).trans (b3.1 q hq)))
  have f4 : τ4.1 (σ.2.1 + 6) = some (.inl (0, 2, .inl (fun _ => 0))) := (Fk _ hA.1.2.2.2.1).trans t6
  have hC4 : ll_C τ4 a0 n (σ.2.1 + 4) (σ.2.1 + 5) (σ.2.1 + 6) (σ.2.1 + 7) (σ.2.1 + 8) g (fun _ => 0) (fun _ => 0) (fun _ => 0) (fun _ => 0) (fun _ => 0) := ⟨(Fk _ hA.1.1).trans hs2, (Fk _ hA.1.2.1).trans t4, (Fk _ hA.1.2.2.1).trans t5, f4, (Fk _ hA.1.2.2.2.2.1).trans t7, (Fk _ hA.1.2.2.2.2.2).trans t8⟩
  obtain ⟨tn, tn0, tn1', w3⟩ := ls_c (x := σ.2.1) (sA := σ.2.1 + 4) (bA := σ.2.1 + 5) (vA := σ.2.1 + 7) (dA := σ.2.1 + 8) hC4.1 hn f4 (by omega)
  have dx : d4 0 0 = σ.2.1 := b13.trans (b9.trans (b5.trans b1))
  have hS : ll_S (ll_Fo σ.2.1) σ.2.1 a0 n (σ.2.1 + 4) (σ.2.1 + 5) (σ.2.1 + 6) (σ.2.1 + 7) (σ.2.1 + 8) (mb_up (mb_up τ4 (σ.2.1 + 6) (.inl (0, 2, .inl (upd (fun _ => 0) (iI 0).toNatClampNeg (iI 8))))) (σ.2.1 + 6) (.inl (0, 2, .inl (upd (upd (fun _ => 0) (iI 0).toNatClampNeg (iI 8)) (iI 1).toNatClampNeg (iI 7))))) S4 d4 g (fun _ => 0) (fun _ => 0) (upd (upd (fun _ => 0) (iI 0).toNatClampNeg (iI 8)) (iI 1).toNatClampNeg (iI 7)) (fun _ => 0) (fun _ => 0) 0 0 0 := by
    refine ⟨⟨ll_Ru (ll_Ru b14 hA.1.2.2.2.1) hA.1.2.2.2.1, dx, I4, hI4⟩, ⟨ll_Cf hA (ll_Cf hA hC4), ⟨fun c c0 c1 => ?_, fun c c0 c1 => ?_, fun c c0 c1 => ?_⟩, fun a v a0 a1 v0 v1 => ?_⟩, ⟨(w4 21 (by decide) (by decide) (by decide) (by decide) 0).symm, by omega, by omega, fun i => by rw [w4 16 (by decide) (by decide) (by decide) (by decide)]; omega, by rw [w4 20 (by decide) (by decide) (by decide) (by decide)]; omega, by rw [w4 20 (by decide) (by decide) (by decide) (by decide)]; omega⟩, fun c c0 c1 => ⟨fun h => by omega, fun _ => w4 3 (by decide) (by decide) (by decide) (by decide) c⟩⟩
    · rw [ll_u (by omega) (by omega) c0 (by omega), ll_u (by omega) (by omega) c0 (by omega), y410]
      rcases (show c = 0 ∨ c = 1 by omega) with e | e <;> subst e <;> rfl
    · rw [w4 2 (by decide) (by decide) (by decide) (by decide)]; rfl
    · rw [w4 3 (by decide) (by decide) (by decide) (by decide)]; rfl
    · rw [w4 2 (by decide) (by decide) (by decide) (by decide)] at v1
      omega
  obtain ⟨σ', ⟨r1, r2, r3⟩, r4⟩ := lw_loop hA hn tn1' tn.toNat 0 0 0 _ S4 d4 _ _ _ _ _ none none none none none none none none hS (by omega) (by omega)
  have hx0 := ll_x hR
  have hx1 := ll_x b2
  have hx2 := ll_x b6
  have hx3 := ll_x b10
  obtain ⟨z0', hx0⟩ := hx0
  obtain ⟨z1', hx1⟩ := hx1
  obtain ⟨z2', hx2⟩ := hx2
  obtain ⟨z3', hx3⟩ := hx3
  have q1 : d1 0 0 = σ.2.1 := b1
  have q2 : d2 0 0 = σ.2.1 := b5.trans q1
  have q3 : d3 0 0 = σ.2.1 := b9.trans q2
  rw [q1] at hx1 b8
  rw [q2] at hx2 b12
  rw [q3] at hx3 b16
  rw [z0] at b4
  rw [y1] at b8
  rw [y29] at b12
  rw [y39] at b16
  have v0 : (mb_up (mb_up τ4 (σ.2.1 + 6) (.inl (0, 2, .inl (upd (fun _ => 0) (iI 0).toNatClampNeg (iI 8))))) (σ.2.1 + 6) (.inl (0, 2, .inl (upd (upd (fun _ => 0) (iI 0).toNatClampNeg (iI 8)) (iI 1).toNatClampNeg (iI 7))))).2 = τ4.2 := rfl
  rw [v0] at r1 r2 r3
  have k1 := b3.2
  have k2 := b7.2
  have k3 := b11.2
  have k4 := b15.2
  refine ⟨σ', ⟨by omega, by omega, by omega⟩, fun d Q hd => ?_⟩
  rw [ls_a hd a8 a6, ← τE]
  exact (ls_b hd hx0 hx1 hx2 hx3 b4 b8 b12 b16).trans ((w3 d Q).trans (r4 d Q hd))
