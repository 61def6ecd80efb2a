/-! scene of the class: the whole class -/
section
variable {σ σ' : mb_S} {S S' : pz_S} {ad ad' : rz_A} {Fo : Nat → Prop}
theorem pz_shw_15 {c : Int} : ∀ (n : Nat) (f : Int) (S : pz_S) (x : Int), pz_shw c n f S 15 x = if 40 * c + f ≤ x ∧ x < 40 * c + f + n then x - 40 * c else S 15 x := by
  intro n
  induction n with
  | zero => intro f S x; rw [if_neg (by omega)]; rfl
  | succ n ih =>
    intro f S x
    refine (ih (f + 1) (pz_su S 15 (40 * c + f) f) x).trans ?_
    rw [pz_su_i]
    by_cases e : x = 40 * c + f
    · rw [if_neg (by omega), if_pos e, if_pos (by omega)]; omega
    · rw [if_neg e]
      by_cases e2 : 40 * c + (f + 1) ≤ x ∧ x < 40 * c + (f + 1) + n
      · rw [if_pos e2, if_pos (by omega)]
      · rw [if_neg e2, if_neg (by omega)]
set_option maxRecDepth 20000 in
set_option maxHeartbeats 4000000 in
theorem fc_scene1 {n : Int} (hW : pz_W S) (h : rz_R σ S ad Fo) (hn1 : -2147483648 ≤ n) (hn2 : n ≤ 2147483647) (c : ¬ (1 ≤ n ∧ n ≤ 40)) : ∀ (d : Nat) (Q : mb_O → mb_S → Prop), 9 ≤ d → mb_Ex d 49 [.ref (ad 0 0), .int (iI n)] σ Q = Q (.inr 1) (mb_th σ) := by
  have e0 := rz_geq h (t := 0) (i := 0) rfl (fun _ k => k)
  intro d Q hd
  show mb_Rn d 49 0 [some (.ref (ad 0 0)), some (.int (iI n))] [] σ Q = _
  repeat' (first | (simp (config := {maxSteps := 1000000}) (disch := first | assumption | omega | exact Nat.le_of_ble_eq_true rfl | (intro _; first | rfl | simp (disch := decide) only [pz_su_t])) only [sX7_scene_0, sX7_scene_1, sX7_scene_5, sX7_scene_6, sX7_scene_11, sX7_scene_21, sX7_scene_21n, sX7_scene_22, sX7_scene_25, sX7_scene_30, sX7_scene_40, sX7_scene_40n, sX7_scene_41, sX7_scene_44, sX7_scene_44n, sX7_scene_45, sX7_scene_48, sX7_scene_51, sX7_scene_51i, sX7_scene_52, sX7_scene_53, sX7_scene_56, sX7_scene_57, sX7_scene_57n, sX7_scene_58, sX7_scene_58i, sX7_scene_59, sX7_scene_62, sX7_scene_63, sX7_scene_64, sX7_scene_65, sX7_scene_68, pz_add, pz_mul, pz_neg, pz_sub, pz_lt, pz_le, pz_eq, pz_b0, pz_b1, pz_bb, pz_ix, Int.sub_zero, Int.zero_add, Int.add_zero, Int.mul_zero, mb_qk, mb_qx, if_true, if_false, true_or, or_true, false_or, or_false, and_true, true_and, and_false, false_and, not_true_eq_false, not_false_eq_true, ite_self, List.lookup, List.length_cons, List.length_nil, ite_not, Nat.reduceAdd, Int.reduceEq, Int.reduceLT, Int.reduceLE, pz_n0, pz_n1, pz_n2, pz_n3, pz_n4, pz_n5, pz_n6, pz_n7, pz_n8, pz_n10, pz_n12, pz_n39, pz_n40, pz_n80, pz_n99, pz_n100, pz_n999, pz_nm1, pz_nm999, pz_gf e0]) | (simp (disch := first | assumption | omega | exact Nat.le_of_ble_eq_true rfl | (intro _; first | rfl | simp (disch := decide) only [pz_su_t])) only [sX7_scene_2, sX7_scene_8, sX7_scene_27, pz_add, pz_mul, pz_neg, pz_sub, pz_lt, pz_le, pz_eq, pz_b0, pz_b1, pz_bb, pz_ix, Int.sub_zero, Int.zero_add, Int.add_zero, Int.mul_zero, mb_qk, mb_qx, if_true, if_false, true_or, or_true, false_or, or_false, and_true, true_and, and_false, false_and, not_true_eq_false, not_false_eq_true, ite_self, List.lookup, List.length_cons, List.length_nil, ite_not, Nat.reduceAdd, Int.reduceEq, Int.reduceLT, Int.reduceLE, pz_n0, pz_n1, pz_n2, pz_n3, pz_n4, pz_n5, pz_n6, pz_n7, pz_n8, pz_n10, pz_n12, pz_n39, pz_n40, pz_n80, pz_n99, pz_n100, pz_n999, pz_nm1, pz_nm999]; first | split | skip) | split)
  all_goals first | rfl | omega | ((try unfold pz_b); (repeat' split) <;> first | rfl | omega | (simp_all only []; done) | (exfalso; simp_all only [not_true_eq_false, not_false_eq_true]; omega) | skip)
set_option maxRecDepth 20000 in
set_option maxHeartbeats 4000000 in
theorem fc_scene2 {n : Int} (hW : pz_W S) (h : rz_R σ S ad Fo) (hn1 : -2147483648 ≤ n) (hn2 : n ≤ 2147483647) (c : 1 ≤ n ∧ n ≤ 40) (c2 : S 9 0 = 8) : ∀ (d : Nat) (Q : mb_O → mb_S → Prop), 9 ≤ d → mb_Ex d 49 [.ref (ad 0 0), .int (iI n)] σ Q = Q (.inr 0) (mb_th σ) := by
  have e0 := rz_geq h (t := 0) (i := 0) rfl (fun _ k => k)
  intro d Q hd
  show mb_Rn d 49 0 [some (.ref (ad 0 0)), some (.int (iI n))] [] σ Q = _
  repeat' (first | (simp (config := {maxSteps := 1000000}) (disch := first | assumption | omega | exact Nat.le_of_ble_eq_true rfl | (intro _; first | rfl | simp (disch := decide) only [pz_su_t])) only [sX7_scene_0, sX7_scene_1, sX7_scene_5, sX7_scene_6, sX7_scene_11, sX7_scene_21, sX7_scene_21n, sX7_scene_22, sX7_scene_25, sX7_scene_30, sX7_scene_40, sX7_scene_40n, sX7_scene_41, sX7_scene_44, sX7_scene_44n, sX7_scene_45, sX7_scene_48, sX7_scene_51, sX7_scene_51i, sX7_scene_52, sX7_scene_53, sX7_scene_56, sX7_scene_57, sX7_scene_57n, sX7_scene_58, sX7_scene_58i, sX7_scene_59, sX7_scene_62, sX7_scene_63, sX7_scene_64, sX7_scene_65, sX7_scene_68, pz_add, pz_mul, pz_neg, pz_sub, pz_lt, pz_le, pz_eq, pz_b0, pz_b1, pz_bb, pz_ix, Int.sub_zero, Int.zero_add, Int.add_zero, Int.mul_zero, mb_qk, mb_qx, if_true, if_false, true_or, or_true, false_or, or_false, and_true, true_and, and_false, false_and, not_true_eq_false, not_false_eq_true, ite_self, List.lookup, List.length_cons, List.length_nil, ite_not, Nat.reduceAdd, Int.reduceEq, Int.reduceLT, Int.reduceLE, pz_n0, pz_n1, pz_n2, pz_n3, pz_n4, pz_n5, pz_n6, pz_n7, pz_n8, pz_n10, pz_n12, pz_n39, pz_n40, pz_n80, pz_n99, pz_n100, pz_n999, pz_nm1, pz_nm999, pz_gf e0, List.getD_cons_zero, List.getD_cons_succ]) | (simp (disch := first | assumption | omega | exact Nat.le_of_ble_eq_true rfl | (intro _; first | rfl | simp (disch := decide) only [pz_su_t])) only [sX7_scene_2, sX7_scene_8, sX7_scene_27, pz_add, pz_mul, pz_neg, pz_sub, pz_lt, pz_le, pz_eq, pz_b0, pz_b1, pz_bb, pz_ix, Int.sub_zero, Int.zero_add, Int.add_zero, Int.mul_zero, mb_qk, mb_qx, if_true, if_false, true_or, or_true, false_or, or_false, and_true, true_and, and_false, false_and, not_true_eq_false, not_false_eq_true, ite_self, List.lookup, List.length_cons, List.length_nil, ite_not, Nat.reduceAdd, Int.reduceEq, Int.reduceLT, Int.reduceLE, pz_n0, pz_n1, pz_n2, pz_n3, pz_n4, pz_n5, pz_n6, pz_n7, pz_n8, pz_n10, pz_n12, pz_n39, pz_n40, pz_n80, pz_n99, pz_n100, pz_n999, pz_nm1, pz_nm999]; first | split | skip) | split)
  all_goals first | rfl | omega | ((try unfold pz_b); (repeat' split) <;> first | rfl | omega | (simp_all only []; done) | (exfalso; simp_all only [not_true_eq_false, not_false_eq_true]; omega) | skip)
set_option maxRecDepth 20000 in
set_option maxHeartbeats 4000000 in
theorem fc_scene {n : Int} (hW : pz_W S) (h : rz_R σ S ad Fo) (hn1 : -2147483648 ≤ n) (hn2 : n ≤ 2147483647) (hJ : rz_J S) (c : 1 ≤ n ∧ n ≤ 40) (c2 : ¬ S 9 0 = 8) : ∃ σ' ad', ad' 0 0 = ad 0 0 ∧ rz_R σ' (pz_su (pz_shw (S 9 0) n.toNat 0 (pz_su S 10 (S 9 0) n)) 9 0 (S 9 0 + 1)) ad' Fo ∧ rz_F Fo σ σ' ∧ ∀ (d : Nat) (Q : mb_O → mb_S → Prop), 9 ≤ d → mb_Ex d 49 [.ref (ad 0 0), .int (iI n)] σ Q = Q (.inl (some (.int (iI (S 9 0))))) σ' := by
  have e0 := rz_geq h (t := 0) (i := 0) rfl (fun _ k => k)
  have w9 := pw_9 hW 0
  have l0 := (h.1 0 0 rfl).2
  have l2 := (h.1 2 0 rfl).2
  have n02 : ad 0 0 ≠ ad 2 0 := rz_ne h (t := 0) (t' := 2) (i := 0) (i' := 0) rfl rfl (by omega)
  obtain ⟨g, e1, e2⟩ := rz_gaq h (t := 2) (i := 0) rfl (fun _ k => k)
  have hz := hJ.2.2.1 (S 9 0) (Int.le_refl _) (by omega)
  obtain ⟨σ1, ⟨b0, ⟨g', b1, b2⟩, b3, b4, b5⟩, b6, hst, he⟩ := wc_initSc (σ := mb_al σ (.inr (6, [.null, .null, .int 0, .int 0])) 4) (p := σ.2.1) (m := n) (if_pos rfl) (by simp only [ga_n]; omega) c.1 c.2
  simp only [ga_n, ga_m, Nat.add_assoc, Nat.reduceAdd] at b0 b1 b2 b3 b4 b5 b6 hst
  have ks : ∀ q, q < σ.2.1 → σ1.1 q = σ.1 q := fun q hq => by rw [hst q (by omega) (by omega), ga_at (by omega)]
  have f0 := (ks _ l0.1).trans e0
  have f1 := (ks _ l2.1).trans e1
  obtain ⟨ad', adE⟩ : ∃ ad' : rz_A, ad' = (fun t i => if ((14 ≤ t ∧ t ≤ 16) ∧ i = S 9 0) then σ.2.1 + (t - 14) else if ((17 ≤ t ∧ t ≤ 18) ∧ 40 * S 9 0 ≤ i ∧ i < 40 * S 9 0 + n) then σ.2.1 + 3 + 2 * (i - 40 * S 9 0).toNat + (t - 17) else ad t i) := ⟨_, rfl⟩
  have adn : ∀ t, 14 ≤ t → t ≤ 16 → ad' t (S 9 0) = σ.2.1 + (t - 14) := fun t t1 t2 => by rw [adE]; exact if_pos ⟨⟨t1, t2⟩, rfl⟩
  have adf : ∀ t i, ((17 ≤ t ∧ t ≤ 18) ∧ 40 * S 9 0 ≤ i ∧ i < 40 * S 9 0 + n) → ad' t i = σ.2.1 + 3 + 2 * (i - 40 * S 9 0).toNat + (t - 17) := fun t i k => by rw [adE]; exact (if_neg (by omega)).trans (if_pos k)
  have ado : ∀ t i, ¬ ((14 ≤ t ∧ t ≤ 16) ∧ i = S 9 0) → ¬ ((17 ≤ t ∧ t ≤ 18) ∧ 40 * S 9 0 ≤ i ∧ i < 40 * S 9 0 + n) → ad' t i = ad t i := fun t i k k2 => by rw [adE]; exact (if_neg k).trans (if_neg k2)
  have had : ∀ t i, rz_lv S t i → ad' t i = ad t i := fun t i hl => ado t i (fun k => by
    obtain ⟨⟨k1, k2⟩, k3⟩ := k
    rcases (show t = 14 ∨ t = 15 ∨ t = 16 by omega) with e | e | e <;> subst e <;> have := hl.2 <;> omega) (fun k => by
    obtain ⟨⟨k1, k2⟩, k3, k4⟩ := k
    rcases (show t = 17 ∨ t = 18 by omega) with e | e <;> subst e <;> have := hl.2.1 <;> omega)
  have hS : ∀ x, x ∉ [9, 10, 15] → (pz_su (pz_shw (S 9 0) n.toNat 0 (pz_su S 10 (S 9 0) n)) 9 0 (S 9 0 + 1)) x = S x := fun x hx => by rw [pz_su_t (fun e => hx (by rw [e]; decide)), pz_shw_t (fun e => hx (by rw [e]; decide)), pz_su_t (fun e => hx (by rw [e]; decide))]
  have s9 : (pz_su (pz_shw (S 9 0) n.toNat 0 (pz_su S 10 (S 9 0) n)) 9 0 (S 9 0 + 1)) 9 0 = S 9 0 + 1 := pz_su_e
  have s10 : ∀ x, (pz_su (pz_shw (S 9 0) n.toNat 0 (pz_su S 10 (S 9 0) n)) 9 0 (S 9 0 + 1)) 10 x = if x = S 9 0 then n else S 10 x := fun x => by rw [pz_su_t (by decide), pz_shw_t (by decide), pz_su_i]
  have s15 : ∀ x, (pz_su (pz_shw (S 9 0) n.toNat 0 (pz_su S 10 (S 9 0) n)) 9 0 (S 9 0 + 1)) 15 x = if 40 * S 9 0 ≤ x ∧ x < 40 * S 9 0 + n then x - 40 * S 9 0 else S 15 x := fun x => by
    rw [pz_su_t (by decide), pz_shw_15, pz_su_t (by decide)]; exact rz_ic (by omega)
  have hfl : ∀ i, (0 ≤ i ∧ i / 40 < (pz_su (pz_shw (S 9 0) n.toNat 0 (pz_su S 10 (S 9 0) n)) 9 0 (S 9 0 + 1)) 9 0 ∧ i % 40 < (pz_su (pz_shw (S 9 0) n.toNat 0 (pz_su S 10 (S 9 0) n)) 9 0 (S 9 0 + 1)) 10 (i / 40)) → (0 ≤ i ∧ i / 40 < S 9 0 ∧ i % 40 < S 10 (i / 40)) ∨ (40 * S 9 0 ≤ i ∧ i < 40 * S 9 0 + n) := fun i ⟨k1, k2, k3⟩ => by
    rw [s9] at k2
    rw [s10] at k3
    by_cases e : i / 40 = S 9 0
    · rw [if_pos e] at k3; exact Or.inr (by omega)
    · rw [if_neg e] at k3; exact Or.inl ⟨k1, by omega, k3⟩
  obtain ⟨σ2, σE⟩ : ∃ σ2 : mb_S, σ2 = mb_up (mb_up σ1 (ad 2 0) ((.inl (16, 8, .inr (.inr (.inr (.inr (va_up g (iI (S 9 0)).toNatClampNeg (some σ.2.1))))))))) (ad 0 0) ((.inr (7, [.ref (ad 1 0), .ref (ad 2 0), .ref (ad 3 0), .int (iI (S 1 0)), .int (iI (S 9 0 + 1)), .int (iI (S 21 0)), .int (iI (S 20 0))]))) := ⟨_, rfl⟩
  have c0 : σ2.1 (ad 0 0) = some (.inr (7, [.ref (ad 1 0), .ref (ad 2 0), .ref (ad 3 0), .int (iI (S 1 0)), .int (iI (S 9 0 + 1)), .int (iI (S 21 0)), .int (iI (S 20 0))])) := by rw [σE]; exact gu_ae
  have c1 : σ2.1 (ad 2 0) = some (.inl (16, 8, .inr (.inr (.inr (.inr (va_up g (iI (S 9 0)).toNatClampNeg (some σ.2.1))))))) := by rw [σE]; exact (gu_at n02.symm).trans gu_ae
  have cm : σ2.2 = σ1.2 := by rw [σE]; rfl
  have cs : ∀ q, q ≠ ad 0 0 → q ≠ ad 2 0 → σ2.1 q = σ1.1 q := fun q q0 q1 => by rw [σE, gu_at q0, gu_at q1]
  have agn : ∀ q, σ.2.1 ≤ q → σ2.1 q = σ1.1 q := fun q hq => cs q (by omega) (by omega)
  have ag : ∀ t i, rz_lv S t i → t ∉ [0, 2] → σ2.1 (ad t i) = σ.1 (ad t i) := fun t i hl hm => by
    rw [cs _ (rz_ne h hl (t' := 0) (i' := 0) rfl (fun g => hm (by rw [g.1]; decide))) (rz_ne h hl (t' := 2) (i' := 0) rfl (fun g => hm (by rw [g.1]; decide)))]
    exact ks _ (h.1 t i hl).2.1
  refine ⟨σ2, ad', ado 0 0 (by omega) (by omega), rz_g2 hW h (by rw [cm]; omega) (fun t i => ((14 ≤ t ∧ t ≤ 16) ∧ i = S 9 0) ∨ ((17 ≤ t ∧ t ≤ 18) ∧ 40 * S 9 0 ≤ i ∧ i < 40 * S 9 0 + n)) [9, 10, 15] [0, 2, 14, 15, 17] hS had ?_ (rz_tag (by decide) (by decide) (by decide) (by decide) (by decide) (by decide) (by decide) (by decide) (by decide) (by decide) (by decide) (by decide) (by decide) (by decide) (by decide) (by decide) (by decide) (by decide) (by decide) (by decide) (by decide) (fun t _ x hx => absurd hx (by simp [rz_ds]))) (fun t i hl hm => ag t i hl (fun g => hm (by revert g; revert t; simp; omega))) ?_ ?_ ?_, ⟨fun q hq => ?_, by rw [cm]; omega, by rw [cm]; omega, by rw [cm]; omega⟩, fun d Q hd => ?_⟩
  · have e9 := s9
    have e1 := hS 1 (by decide)
    have e2 := hS 2 (by decide)
    have e3 := hS 3 (by decide)
    have e11 := hS 11 (by decide)
    have e21 := hS 21 (by decide)
    have hrl : ∀ r, rz_rl (pz_su (pz_shw (S 9 0) n.toNat 0 (pz_su S 10 (S 9 0) n)) 9 0 (S 9 0 + 1)) r → rz_rl S r := fun r ⟨k1, k2, k3, k4⟩ => ⟨k1, k2, by rw [← e1]; exact k3, by rw [← e1, ← e2]; exact k4⟩
    have hs : ∀ i, (0 ≤ i ∧ i < (pz_su (pz_shw (S 9 0) n.toNat 0 (pz_su S 10 (S 9 0) n)) 9 0 (S 9 0 + 1)) 9 0) → (0 ≤ i ∧ i < S 9 0) ∨ i = S 9 0 := fun i k => by have := k.2; rw [s9] at this; omega
    exact rz_tag (fun i k => Or.inl k) (fun i k => Or.inl k) (fun i k => Or.inl k) (fun i k => Or.inl k) (fun i k => Or.inl ⟨k.1, by rw [← e1]; exact k.2⟩) (fun i k => Or.inl ⟨k.1, by rw [← e1]; exact k.2⟩) (fun i k => Or.inl (hrl i k)) (fun i k => Or.inl (hrl i k)) (fun i k => Or.inl (hrl i k)) (fun i k => Or.inl ⟨hrl i k.1, k.2⟩) (fun i k => Or.inl ⟨hrl _ k.1, by rw [← e3]; exact k.2⟩) (fun i k => Or.inl ⟨hrl _ k.1, by rw [← e3]; exact k.2⟩) (fun i k => Or.inl ⟨hrl _ k.1, by rw [← e3]; exact k.2⟩) (fun i k => Or.inl ⟨hrl _ k.1, by rw [← e3]; exact k.2⟩) (fun i k => (hs i k).imp id (fun e => Or.inl ⟨by omega, e⟩)) (fun i k => (hs i k).imp id (fun e => Or.inl ⟨by omega, e⟩)) (fun i k => (hs i k).imp id (fun e => Or.inl ⟨by omega, e⟩)) (fun i k => (hfl i k).imp id (fun e => Or.inr ⟨by omega, e⟩)) (fun i k => (hfl i k).imp id (fun e => Or.inr ⟨by omega, e⟩)) (fun i k => by obtain ⟨k1, k2, k3⟩ := k; rw [s9] at k2; rw [e11] at k3; by_cases e : i / 8 = S 9 0; exact absurd (by have := hz.2 (i % 8) (by omega) (by omega); rw [← e, show 8 * (i / 8) + i % 8 = i by omega] at this; exact this) k3; exact Or.inl ⟨k1, by omega, k3⟩) (fun i k => Or.inl ⟨k.1, by rw [← e21]; exact k.2⟩) (fun t i k => Or.inl k)
  · intro t i hm k' k
    simp only [List.mem_cons, List.not_mem_nil, or_false] at hm
    rcases hm with e | e | e | e | e <;> subst e
    · have k0 : i = 0 := k
      subst k0
      refine Or.inr ⟨_, c0, ?_⟩
      show _ = _
      rw [ado 1 0 (by omega) (by omega), ado 2 0 (by omega) (by omega), ado 3 0 (by omega) (by omega), s9, hS 1 (by decide), hS 21 (by decide), hS 20 (by decide)]
    · have k0 : i = 0 := k
      subst k0
      refine Or.inr ⟨_, c1, _, rfl, fun j j1 j2 => ?_⟩
      rw [s9] at j2
      rw [rz_vup w9.1 (by omega) j1 (by omega)]
      by_cases ej : j = S 9 0
      · rw [if_pos ej, ej]; exact congrArg some (adn 14 (by omega) (by omega)).symm
      · rw [if_neg ej, e2 j j1 (by omega)]
        exact congrArg some (had 14 j ⟨j1, by omega⟩).symm
    · have kn : ¬ i = S 9 0 := by have := k.2; omega
      exact Or.inl ⟨ag 14 i k (by decide), by rw [s10, if_neg kn], fun _ _ _ => by rw [hS 11 (by decide)], rfl, rfl⟩
    · have kn : ¬ i = S 9 0 := by have := k.2; omega
      exact Or.inl ⟨ag 15 i k (by decide), by rw [s10, if_neg kn], fun _ _ _ => rfl⟩
    · have kn : ¬ (40 * S 9 0 ≤ i ∧ i < 40 * S 9 0 + n) := by have := k.2.1; omega
      exact Or.inl ⟨ag 17 i k (by decide), by rw [s15, if_neg kn], by rw [hS 16 (by decide)], rfl⟩
  · intro t i hnw
    have hz11 := hz.2
    rcases hnw with ⟨⟨t1, t2⟩, ei⟩ | kf
    · subst ei
      rcases (show t = 14 ∨ t = 15 ∨ t = 16 by omega) with e | e | e <;> subst e
      · have en : ad' 14 (S 9 0) = σ.2.1 := adn 14 (by omega) (by omega)
        rw [en]
        refine ⟨by omega, by rw [cm]; omega, _, (agn _ (by omega)).trans b0, ?_⟩
        show _ = _
        have q5 : ad' 15 (S 9 0) = σ.2.1 + 1 := adn 15 (by omega) (by omega)
        have q6 : ad' 16 (S 9 0) = σ.2.1 + 2 := adn 16 (by omega) (by omega)
        have qs : pz_sm (fun a => pz_ca (pz_su (pz_shw (S 9 0) n.toNat 0 (pz_su S 10 (S 9 0) n)) 9 0 (S 9 0 + 1)) a (S 9 0)) 0 8 = 0 := (pz_sm_congr (g := fun _ => 0) _ _ (fun j j1 j2 => by
          show pz_b _ = 0
          rw [hS 11 (by decide)]
          exact pz_bf (fun g => g (hz11 j j1 (by omega))))).trans (pz_sm_zero _ _ (fun _ _ => rfl))
        rw [q5, q6, qs, s10, if_pos rfl]
        rfl
      · have en : ad' 15 (S 9 0) = σ.2.1 + 1 := adn 15 (by omega) (by omega)
        rw [en]
        refine ⟨by omega, by rw [cm]; omega, _, (agn _ (by omega)).trans b1, _, rfl, fun j j1 j2 => ?_⟩
        rw [s10, if_pos rfl] at j2
        rw [b2 j j1 j2]
        refine congrArg some ?_
        rw [adf 17 _ (by omega)]
        omega
      · have en : ad' 16 (S 9 0) = σ.2.1 + 2 := adn 16 (by omega) (by omega)
        rw [en]
        refine ⟨by omega, by rw [cm]; omega, _, (agn _ (by omega)).trans b6, _, rfl, fun j j1 j2 => ?_⟩
        show none = if _ then _ else _
        rw [hS 11 (by decide), if_pos (hz11 j j1 j2)]
    · have kk := kf
      obtain ⟨⟨t1, t2⟩, i1, i2⟩ := kf
      obtain ⟨b31, g9, b32, b33⟩ := b3 (i - 40 * S 9 0) (by omega) (by omega)
      have hz16 := hz.1 (i - 40 * S 9 0) (by omega) (by omega)
      rw [show 40 * S 9 0 + (i - 40 * S 9 0) = i by omega] at hz16
      rw [adf t i kk]
      refine ⟨by omega, by rw [cm]; omega, ?_⟩
      rcases (show t = 17 ∨ t = 18 by omega) with e | e <;> subst e
      · refine ⟨_, (agn _ (by omega)).trans (by rw [show σ.2.1 + 3 + 2 * (i - 40 * S 9 0).toNat + (17 - 17) = σ.2.1 + (3 + 2 * (i - 40 * S 9 0).toNat) by omega]; exact b31), ?_⟩
        show _ = _
        rw [s15, if_pos ⟨i1, i2⟩, hS 16 (by decide), hz16, adf 18 i (by omega), show σ.2.1 + 3 + 2 * (i - 40 * S 9 0).toNat + (18 - 17) = σ.2.1 + (3 + (2 * (i - 40 * S 9 0).toNat + 1)) by omega]
        rfl
      · refine ⟨_, (agn _ (by omega)).trans (by rw [show σ.2.1 + 3 + 2 * (i - 40 * S 9 0).toNat + (18 - 17) = σ.2.1 + (3 + (2 * (i - 40 * S 9 0).toNat + 1)) by omega]; exact b32), g9, rfl, fun j j1 j2 => ?_⟩
        rw [b33 j j1 (by omega)]
        rw [hS 16 (by decide)]
        exact congrArg iI (if_pos hz16).symm
  · intro t i t' i' p q e
    rcases p with ⟨⟨t1, t2⟩, ei⟩ | p <;> rcases q with ⟨⟨t3, t4⟩, ei'⟩ | q
    · subst ei
      subst ei'
      rw [adn t t1 t2, adn t' t3 t4] at e
      exact ⟨by omega, rfl⟩
    · subst ei
      rw [adn t t1 t2, adf t' i' q] at e
      omega
    · subst ei'
      rw [adf t i p, adn t' t3 t4] at e
      omega
    · rw [adf t i p, adf t' i' q] at e
      omega
  · have := h.2.2 q hq
    rw [cs q (fun e => l0.2 (e ▸ hq)) (fun e => l2.2 (e ▸ hq))]
    exact ks q this
  show mb_Rn d 49 0 [some (.ref (ad 0 0)), some (.int (iI n))] [] σ Q = _
  have he' := fun Q => he (d - 1) Q (by omega)
  rw [σE]
  repeat' (first | (simp (config := {maxSteps := 1000000}) (disch := first | assumption | omega | exact Nat.le_of_ble_eq_true rfl | (intro _; first | rfl | simp (disch := decide) only [pz_su_t])) only [sX7_scene_0, sX7_scene_1, sX7_scene_5, sX7_scene_6, sX7_scene_11, sX7_scene_21, sX7_scene_21n, sX7_scene_22, sX7_scene_25, sX7_scene_30, sX7_scene_40, sX7_scene_40n, sX7_scene_41, sX7_scene_44, sX7_scene_44n, sX7_scene_45, sX7_scene_48, sX7_scene_51, sX7_scene_51i, sX7_scene_52, sX7_scene_53, sX7_scene_56, sX7_scene_57, sX7_scene_57n, sX7_scene_58, sX7_scene_58i, sX7_scene_59, sX7_scene_62, sX7_scene_63, sX7_scene_64, sX7_scene_65, sX7_scene_68, pz_add, pz_mul, pz_neg, pz_sub, pz_lt, pz_le, pz_eq, pz_b0, pz_b1, pz_bb, pz_n8, pz_n40, pz_n1, pz_ix, Int.sub_zero, Int.zero_add, Int.add_zero, Int.mul_zero, mb_qk, mb_qx, if_true, if_false, true_or, or_true, false_or, or_false, and_true, true_and, and_false, false_and, not_true_eq_false, not_false_eq_true, ite_self, List.lookup, List.length_cons, List.length_nil, ite_not, Nat.reduceAdd, Int.reduceEq, Int.reduceLT, Int.reduceLE, pz_gf e0, he', pz_gf f0, pz_gq f1, pz_gf b0, gu_gf, gu_gi, gu_gq, gu_gfe, gu_gie, gu_gqe, List.set_cons_zero, List.set_cons_succ, Nat.reduceLT, Nat.reduceLeDiff, List.getD_cons_zero, List.getD_cons_succ]) | (simp (disch := first | assumption | omega | exact Nat.le_of_ble_eq_true rfl | (intro _; first | rfl | simp (disch := decide) only [pz_su_t])) only [sX7_scene_2, sX7_scene_8, sX7_scene_27, pz_add, pz_mul, pz_neg, pz_sub, pz_lt, pz_le, pz_eq, pz_b0, pz_b1, pz_bb, pz_n8, pz_n40, pz_n1, pz_ix, Int.sub_zero, Int.zero_add, Int.add_zero, Int.mul_zero, mb_qk, mb_qx, if_true, if_false, true_or, or_true, false_or, or_false, and_true, true_and, and_false, false_and, not_true_eq_false, not_false_eq_true, ite_self, List.lookup, List.length_cons, List.length_nil, ite_not, Nat.reduceAdd, Int.reduceEq, Int.reduceLT, Int.reduceLE]; first | split | skip) | split)
  all_goals first | rfl | omega | ((try unfold pz_b); (repeat' split) <;> first | rfl | omega | (simp_all only []; done) | (exfalso; simp_all only [not_true_eq_false, not_false_eq_true]; omega) | skip)
end
