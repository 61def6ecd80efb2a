/-! asset, note and settle of the class -/
section
variable {σ σ' : mb_S} {S S' : pz_S} {ad ad' : rz_A} {Fo : Nat → Prop}
set_option maxRecDepth 20000 in
set_option maxHeartbeats 4000000 in
theorem fc_asset1 (hW : pz_W S) (h : rz_R σ S ad Fo) (c : S 1 0 = 8) : ∀ (d : Nat) (Q : mb_O → mb_S → Prop), 9 ≤ d → mb_Ex d 41 [.ref (ad 0 0)] σ Q = Q (.inr 0) (mb_th σ) := by
  have e0 := rz_geq h (t := 0) (i := 0) rfl (fun _ k => k)
  have w1 := pw_1 hW 0
  intro d Q hd
  show mb_Rn d 41 0 [some (.ref (ad 0 0))] [] σ Q = _
  repeat' (first | (simp (config := {maxSteps := 1000000}) (disch := first | assumption | omega | exact Nat.le_of_ble_eq_true rfl | (intro _; first | rfl | simp (disch := decide) only [pz_su_t])) only [sX7_asset_0, sX7_asset_0n, sX7_asset_1, sX7_asset_4, sX7_asset_9, sX7_asset_19, sX7_asset_19n, sX7_asset_20, sX7_asset_23, sX7_asset_23n, sX7_asset_24, sX7_asset_27, sX7_asset_30, sX7_asset_30i, sX7_asset_31, sX7_asset_34, sX7_asset_35, sX7_asset_35n, sX7_asset_36, sX7_asset_36i, sX7_asset_37, sX7_asset_40, sX7_asset_41, sX7_asset_42, sX7_asset_43, sX7_asset_46, pz_add, pz_mul, pz_neg, pz_sub, pz_lt, pz_le, pz_eq, pz_b0, pz_b1, pz_bb, pz_ix, Int.sub_zero, Int.zero_add, Int.add_zero, Int.mul_zero, mb_qk, mb_qx, if_true, if_false, true_or, or_true, false_or, or_false, and_true, true_and, and_false, false_and, not_true_eq_false, not_false_eq_true, ite_self, List.lookup, List.length_cons, List.length_nil, ite_not, Nat.reduceAdd, Int.reduceEq, Int.reduceLT, Int.reduceLE, pz_n0, pz_n1, pz_n2, pz_n3, pz_n4, pz_n5, pz_n6, pz_n7, pz_n8, pz_n10, pz_n12, pz_n39, pz_n40, pz_n80, pz_n99, pz_n100, pz_n999, pz_nm1, pz_nm999, pz_gf e0, List.getD_cons_zero, List.getD_cons_succ]) | (simp (disch := first | assumption | omega | exact Nat.le_of_ble_eq_true rfl | (intro _; first | rfl | simp (disch := decide) only [pz_su_t])) only [sX7_asset_6, pz_add, pz_mul, pz_neg, pz_sub, pz_lt, pz_le, pz_eq, pz_b0, pz_b1, pz_bb, pz_ix, Int.sub_zero, Int.zero_add, Int.add_zero, Int.mul_zero, mb_qk, mb_qx, if_true, if_false, true_or, or_true, false_or, or_false, and_true, true_and, and_false, false_and, not_true_eq_false, not_false_eq_true, ite_self, List.lookup, List.length_cons, List.length_nil, ite_not, Nat.reduceAdd, Int.reduceEq, Int.reduceLT, Int.reduceLE, pz_n0, pz_n1, pz_n2, pz_n3, pz_n4, pz_n5, pz_n6, pz_n7, pz_n8, pz_n10, pz_n12, pz_n39, pz_n40, pz_n80, pz_n99, pz_n100, pz_n999, pz_nm1, pz_nm999]; first | split | skip) | split)
  all_goals first | rfl | omega | ((try unfold pz_b); (repeat' split) <;> first | rfl | omega | (simp_all only []; done) | (exfalso; simp_all only [not_true_eq_false, not_false_eq_true]; omega) | skip)
set_option maxRecDepth 20000 in
set_option maxHeartbeats 4000000 in
theorem fc_asset (hW : pz_W S) (h : rz_R σ S ad Fo) (hJ : rz_J S) (c : ¬ S 1 0 = 8) : ∃ σ' ad', ad' 0 0 = ad 0 0 ∧ rz_R σ' (pz_su S 1 0 (S 1 0 + 1)) ad' Fo ∧ rz_F Fo σ σ' ∧ ∀ (d : Nat) (Q : mb_O → mb_S → Prop), 9 ≤ d → mb_Ex d 41 [.ref (ad 0 0)] σ Q = Q (.inl (some (.int (iI (S 1 0))))) σ' := by
  have e0 := rz_geq h (t := 0) (i := 0) rfl (fun _ k => k)
  have w1 := pw_1 hW 0
  have l0 := (h.1 0 0 rfl).2
  have l1 := (h.1 1 0 rfl).2
  have n01 : ad 0 0 ≠ ad 1 0 := rz_ne h (t := 0) (t' := 1) (i := 0) (i' := 0) rfl rfl (by omega)
  obtain ⟨g, e1, e2⟩ := rz_gaq h (t := 1) (i := 0) rfl (fun _ k => k)
  have hz := hJ.1.1 (S 1 0) (Int.le_refl _) (by omega)
  have hJ2 := fun i (i0 : 0 ≤ i) (i1 : i < 10) => (hJ.2.1 (S 1 0) i w1.1 (by omega) (by rw [hz.2]; exact i0) i1).1
  obtain ⟨σ1, a1, ⟨b1, b2, b3, b4⟩, hst, ⟨m1, m2⟩, he⟩ := wc_initAs (σ := mb_al σ (.inr (0, [.null, .null, .int 0])) 3) (c := σ.2.1) (if_pos rfl) (by simp only [ga_n]; omega)
  simp only [ga_n, ga_m, Nat.add_assoc, Nat.reduceAdd] at a1 b1 b2 b3 b4 hst m1 m2
  have ks : ∀ q, q < σ.2.1 → σ1.1 q = σ.1 q := fun q hq => by rw [hst q (by omega) (by omega), ga_at (by omega)]
  have f0 := (ks _ l0.1).trans e0
  have f1 := (ks _ l1.1).trans e1
  obtain ⟨ad', adE⟩ : ∃ ad' : rz_A, ad' = (fun t i => if (4 ≤ t ∧ t ≤ 8) ∧ i = S 1 0 then σ.2.1 + (if t = 4 then 0 else if t = 5 then 4 else t - 5) else ad t i) := ⟨_, rfl⟩
  have adn : ∀ t, 4 ≤ t → t ≤ 8 → ad' t (S 1 0) = σ.2.1 + (if t = 4 then 0 else if t = 5 then 4 else t - 5) := fun t t1 t2 => by rw [adE]; exact if_pos ⟨⟨t1, t2⟩, rfl⟩
  have ado : ∀ t i, ¬ ((4 ≤ t ∧ t ≤ 8) ∧ i = S 1 0) → ad' t i = ad t i := fun t i k => by rw [adE]; exact if_neg k
  have had : ∀ t i, rz_lv S t i → ad' t i = ad t i := fun t i hl => ado t i (fun k => by
    obtain ⟨⟨k1, k2⟩, k3⟩ := k
    rcases (show t = 4 ∨ t = 5 ∨ t = 6 ∨ t = 7 ∨ t = 8 by omega) with e | e | e | e | e <;> subst e
    · have := hl.2; omega
    · have := hl.2; omega
    · have := hl.2.2.1; omega
    · have := hl.2.2.1; omega
    · have := hl.2.2.1; omega)
  have hS : ∀ x, x ∉ [1] → (pz_su S 1 0 (S 1 0 + 1)) x = S x := fun x hx => pz_su_t (fun e => hx (by rw [e]; decide))
  have s1 : (pz_su S 1 0 (S 1 0 + 1)) 1 0 = S 1 0 + 1 := pz_su_e
  have hrl : ∀ r, rz_rl (pz_su S 1 0 (S 1 0 + 1)) r → rz_rl S r ∨ r = S 1 0 := fun r ⟨k1, k2, k3, k4⟩ => by
    rw [s1] at k3 k4
    rw [hS 2 (by decide)] at k4
    by_cases g8 : r < 8
    · by_cases ge : r = S 1 0
      · exact Or.inr ge
      · exact Or.inl ⟨k1, k2, fun _ => by have := k3 g8; omega, fun _ => by omega⟩
    · refine Or.inl ⟨k1, k2, fun _ => by omega, fun _ => ?_⟩
      have k5 := k4 (by omega)
      by_cases ge : (r - 8) / 12 = S 1 0
      · rw [ge, hz.1] at k5; omega
      · exact ⟨by omega, k5.2⟩
  have hlc : ∀ i, (rz_rl (pz_su S 1 0 (S 1 0 + 1)) (i / 10) ∧ i % 10 < (pz_su S 1 0 (S 1 0 + 1)) 3 (i / 10)) → (rz_rl S (i / 10) ∧ i % 10 < S 3 (i / 10)) := fun i k => by
    have k2 := k.2
    rw [hS 3 (by decide)] at k2
    cases hrl _ k.1 with
    | inl g => exact ⟨g, k2⟩
    | inr g => rw [g, hz.2] at k2; omega
  obtain ⟨σ2, σE⟩ : ∃ σ2 : mb_S, σ2 = (mb_up (mb_up σ1 (ad 1 0) (.inl (10, 8, .inr (.inr (.inr (.inr (va_up g (iI (S 1 0)).toNatClampNeg (some σ.2.1)))))))) (ad 0 0) (.inr (7, [.ref (ad 1 0), .ref (ad 2 0), .ref (ad 3 0), .int (iI (S 1 0 + 1)), .int (iI (S 9 0)), .int (iI (S 21 0)), .int (iI (S 20 0))]))) := ⟨_, rfl⟩
  have c0 : σ2.1 (ad 0 0) = some (.inr (7, [.ref (ad 1 0), .ref (ad 2 0), .ref (ad 3 0), .int (iI (S 1 0 + 1)), .int (iI (S 9 0)), .int (iI (S 21 0)), .int (iI (S 20 0))])) := by rw [σE]; exact gu_ae
  have c1 : σ2.1 (ad 1 0) = some (.inl (10, 8, .inr (.inr (.inr (.inr (va_up g (iI (S 1 0)).toNatClampNeg (some σ.2.1))))))) := by rw [σE]; exact (gu_at n01.symm).trans gu_ae
  have cm : σ2.2 = σ1.2 := by rw [σE]; rfl
  have cs : ∀ q, q ≠ ad 0 0 → q ≠ ad 1 0 → σ2.1 q = σ1.1 q := fun q q0 q1 => by rw [σE, gu_at q0, gu_at q1]
  have ag : ∀ t i, rz_lv S t i → t ∉ [0, 1] → σ2.1 (ad t i) = σ.1 (ad t i) := fun t i hl hm => by
    rw [cs _ (rz_ne h hl (t' := 0) (i' := 0) rfl (fun g => hm (by rw [g.1]; decide))) (rz_ne h hl (t' := 1) (i' := 0) rfl (fun g => hm (by rw [g.1]; decide)))]
    exact ks _ (h.1 t i hl).2.1
  have agn : ∀ q, σ.2.1 ≤ q → σ2.1 q = σ1.1 q := fun q hq => by
    rw [cs q (by omega) (by omega)]
  refine ⟨σ2, ad', ado 0 0 (by omega), rz_g2 hW h (by rw [cm]; omega) (fun t i => (4 ≤ t ∧ t ≤ 8) ∧ i = S 1 0) [1] [0, 1] hS had ?_ (rz_tag (by decide) (by decide) (by decide) (by decide) (by decide) (by decide) (by decide) (by decide) (by decide) (by decide) (by decide) (by decide) (by decide) (by decide) (by decide) (by decide) (by decide) (by decide) (by decide) (by decide) (by decide) (fun t _ x hx => absurd hx (by simp [rz_ds]))) ag ?_ ?_ ?_, ⟨fun q hq => ?_, by rw [cm]; omega, by rw [cm]; omega, by rw [cm]; omega⟩, fun d Q hd => ?_⟩
  · have ea : (pz_su S 1 0 (S 1 0 + 1)) 1 0 = S 1 0 + 1 := s1
    have e2 := hS 2 (by decide)
    have e3 := hS 3 (by decide)
    have e9 := hS 9 (by decide)
    have e10 := hS 10 (by decide)
    have e11 := hS 11 (by decide)
    have e21 := hS 21 (by decide)
    exact rz_tag (fun i k => Or.inl k) (fun i k => Or.inl k) (fun i k => Or.inl k) (fun i k => Or.inl k) (fun i k => by have k2 := k.2; rw [s1] at k2; by_cases e : i = S 1 0; exact Or.inr ⟨by omega, e⟩; exact Or.inl ⟨k.1, by omega⟩) (fun i k => by have k2 := k.2; rw [s1] at k2; by_cases e : i = S 1 0; exact Or.inr ⟨by omega, e⟩; exact Or.inl ⟨k.1, by omega⟩) (fun i k => (hrl i k).imp id (fun e => ⟨by omega, e⟩)) (fun i k => (hrl i k).imp id (fun e => ⟨by omega, e⟩)) (fun i k => (hrl i k).imp id (fun e => ⟨by omega, e⟩)) (fun i k => Or.inl ⟨(hrl i k.1).elim id (fun e => by have := k.2; omega), k.2⟩) (fun i k => Or.inl (hlc i k)) (fun i k => Or.inl (hlc i k)) (fun i k => Or.inl (hlc i k)) (fun i k => Or.inl (hlc i k)) (fun i k => Or.inl ⟨k.1, by rw [← e9]; exact k.2⟩) (fun i k => Or.inl ⟨k.1, by rw [← e9]; exact k.2⟩) (fun i k => Or.inl ⟨k.1, by rw [← e9]; exact k.2⟩) (fun i k => Or.inl ⟨k.1, by rw [← e9]; exact k.2.1, by rw [← e10]; exact k.2.2⟩) (fun i k => Or.inl ⟨k.1, by rw [← e9]; exact k.2.1, by rw [← e10]; exact k.2.2⟩) (fun i k => Or.inl ⟨k.1, by rw [← e9]; exact k.2.1, by rw [← e11]; exact k.2.2⟩) (fun i k => Or.inl ⟨k.1, by rw [← e21]; exact k.2⟩) (fun t i k => Or.inl k)
  · intro t i hm k' k
    simp only [List.mem_cons, List.not_mem_nil, or_false] at hm
    rcases hm with e | e <;> subst e
    · have k0 : i = 0 := k
      subst k0
      refine Or.inr ⟨_, c0, ?_⟩
      show _ = _
      rw [ado 1 0 (by omega), ado 2 0 (by omega), ado 3 0 (by omega), s1, hS 9 (by decide), hS 21 (by decide), hS 20 (by decide)]
    · have k0 : i = 0 := k
      subst k0
      refine Or.inr ⟨_, c1, _, rfl, fun j j1 j2 => ?_⟩
      rw [s1] at j2
      rw [rz_vup w1.1 (by omega) j1 (by omega)]
      by_cases ej : j = S 1 0
      · rw [if_pos ej, ej]; exact congrArg some (adn 4 (by omega) (by omega)).symm
      · rw [if_neg ej, e2 j j1 (by omega)]
        exact congrArg some (had 4 j ⟨j1, by omega⟩).symm
  · intro t i ⟨⟨t1, t2⟩, ei⟩
    subst ei
    rcases (show t = 4 ∨ t = 5 ∨ t = 6 ∨ t = 7 ∨ t = 8 by omega) with e | e | e | e | e <;> subst e
    · have en : ad' 4 (S 1 0) = σ.2.1 := adn 4 (by omega) (by omega)
      rw [en]
      refine ⟨by omega, by rw [cm]; omega, _, (agn _ (by omega)).trans a1, ?_⟩
      show _ = _
      have q6 : ad' 6 (S 1 0) = σ.2.1 + 1 := adn 6 (by omega) (by omega)
      have q5 : ad' 5 (S 1 0) = σ.2.1 + 4 := adn 5 (by omega) (by omega)
      rw [q6, q5, hS 2 (by decide), hz.1]
      rfl
    · have en : ad' 5 (S 1 0) = σ.2.1 + 4 := adn 5 (by omega) (by omega)
      rw [en]
      refine ⟨by omega, by rw [cm]; omega, _, (agn _ (by omega)).trans b4, _, rfl, fun j j1 j2 => ?_⟩
      rw [hS 2 (by decide), hz.1] at j2; omega
    · have en : ad' 6 (S 1 0) = σ.2.1 + 1 := adn 6 (by omega) (by omega)
      rw [en]
      refine ⟨by omega, by rw [cm]; omega, _, (agn _ (by omega)).trans b1, ?_⟩
      show _ = _
      have q7 : ad' 7 (S 1 0) = σ.2.1 + 2 := adn 7 (by omega) (by omega)
      have q8 : ad' 8 (S 1 0) = σ.2.1 + 3 := adn 8 (by omega) (by omega)
      rw [q7, q8, hS 3 (by decide), hz.2, if_pos (show S 1 0 < 8 by omega)]
      rfl
    · have en : ad' 7 (S 1 0) = σ.2.1 + 2 := adn 7 (by omega) (by omega)
      rw [en]
      exact ⟨by omega, by rw [cm]; omega, rz_zAi ((agn _ (by omega)).trans b2) (fun j j1 j2 => by rw [hS 4 (by decide)]; exact hJ2 j j1 (by omega))⟩
    · have en : ad' 8 (S 1 0) = σ.2.1 + 3 := adn 8 (by omega) (by omega)
      rw [en]
      refine ⟨by omega, by rw [cm]; omega, _, (agn _ (by omega)).trans b3, _, rfl, fun j j1 j2 => ?_⟩
      rw [hS 3 (by decide), hz.2] at j2; omega
  · intro t i t' i' ⟨⟨t1, t2⟩, ei⟩ ⟨⟨t3, t4⟩, ei'⟩ e
    subst ei
    subst ei'
    rw [adn t t1 t2, adn t' t3 t4] at e
    refine ⟨?_, rfl⟩
    repeat' split at e
    all_goals omega
  · have := h.2.2 q hq
    rw [cs q (fun e => l0.2 (e ▸ hq)) (fun e => l1.2 (e ▸ hq))]
    exact ks q this
  show mb_Rn d 41 0 [some (.ref (ad 0 0))] [] σ Q = _
  have he' := fun Q => he (d - 1) Q (by omega)
  rw [σE]
  repeat' (first | (simp (config := {maxSteps := 1000000}) (disch := first | assumption | omega | exact Nat.le_of_ble_eq_true rfl | (intro _; first | rfl | simp (disch := decide) only [pz_su_t])) only [sX7_asset_0, sX7_asset_0n, sX7_asset_1, sX7_asset_4, sX7_asset_9, sX7_asset_19, sX7_asset_19n, sX7_asset_20, sX7_asset_23, sX7_asset_23n, sX7_asset_24, sX7_asset_27, sX7_asset_30, sX7_asset_30i, sX7_asset_31, sX7_asset_34, sX7_asset_35, sX7_asset_35n, sX7_asset_36, sX7_asset_36i, sX7_asset_37, sX7_asset_40, sX7_asset_41, sX7_asset_42, sX7_asset_43, sX7_asset_46, pz_add, pz_mul, pz_neg, pz_sub, pz_lt, pz_le, pz_eq, pz_b0, pz_b1, pz_bb, pz_n8, pz_n1, pz_ix, Int.sub_zero, Int.zero_add, Int.add_zero, Int.mul_zero, mb_qk, mb_qx, if_true, if_false, true_or, or_true, false_or, or_false, and_true, true_and, and_false, false_and, not_true_eq_false, not_false_eq_true, ite_self, List.lookup, List.length_cons, List.length_nil, ite_not, Nat.reduceAdd, Int.reduceEq, Int.reduceLT, Int.reduceLE, pz_gf e0, he', pz_gf f0, pz_gq f1, pz_gf a1, gu_gf, gu_gi, gu_gq, gu_gfe, gu_gie, gu_gqe, List.set_cons_zero, List.set_cons_succ, Nat.reduceLT, Nat.reduceLeDiff, List.getD_cons_zero, List.getD_cons_succ]) | (simp (disch := first | assumption | omega | exact Nat.le_of_ble_eq_true rfl | (intro _; first | rfl | simp (disch := decide) only [pz_su_t])) only [sX7_asset_6, pz_add, pz_mul, pz_neg, pz_sub, pz_lt, pz_le, pz_eq, pz_b0, pz_b1, pz_bb, pz_n8, pz_n1, pz_ix, Int.sub_zero, Int.zero_add, Int.add_zero, Int.mul_zero, mb_qk, mb_qx, if_true, if_false, true_or, or_true, false_or, or_false, and_true, true_and, and_false, false_and, not_true_eq_false, not_false_eq_true, ite_self, List.lookup, List.length_cons, List.length_nil, ite_not, Nat.reduceAdd, Int.reduceEq, Int.reduceLT, Int.reduceLE, pz_n0, pz_n1, pz_n2, pz_n3, pz_n4, pz_n5, pz_n6, pz_n7, pz_n8, pz_n10, pz_n12, pz_n39, pz_n40, pz_n80, pz_n99, pz_n100, pz_n999, pz_nm1, pz_nm999]; first | split | skip) | split)
  all_goals first | rfl | omega | ((try unfold pz_b); (repeat' split) <;> first | rfl | omega | (simp_all only []; done) | (exfalso; simp_all only [not_true_eq_false, not_false_eq_true]; omega) | skip)
end
