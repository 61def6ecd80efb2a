/-! the law: its loop -/
theorem rz_on {n : Nat} (h : n < 2 ^ 31) : Int32.ofNat n = iI (n : Int) := by
  have e := pz_of (nI n)
  rw [nI_toInt h] at e
  exact e.symm
set_option maxRecDepth 20000 in
set_option maxHeartbeats 4000000 in
theorem lh_go {d : Nat} {Q : mb_O → mb_S → Prop} {σ : mb_S} {a0 x m o n : Nat} {f : Nat → Int32} {i : Int} {l5 l6 : Option Value} (hd : 11 ≤ d) (hs : σ.1 a0 = some (.inl (9, n, .inl f))) (hn : n ≤ 3072) (hi0 : 0 ≤ i) (hi : i ≤ (n : Int) - 6) : mb_Rn d 161 23 [some (.ref a0), some (.ref x), some (.ref m), some (.ref o), some (.int (iI (i))), l5, l6] [] σ Q = mb_Rn d 161 33 [some (.ref a0), some (.ref x), some (.ref m), some (.ref o), some (.int (iI (i))), l5, l6] [] σ Q := by
  have hon := rz_on (show n < 2 ^ 31 by omega)
  have hc : ((n : Int) - 6 < i) = False := eq_false (by omega)
  rw [sL_law_23]
  repeat' (first | (simp (config := {maxSteps := 1000000}) (disch := first | assumption | omega | exact Nat.le_of_ble_eq_true rfl | (intro _; first | rfl | simp (disch := decide) only [pz_su_t])) only [sL_law_25, sL_law_25n, sL_law_26, sL_law_27, sL_law_29, pz_add, pz_mul, pz_neg, pz_sub, pz_lt, pz_le, pz_eq, pz_b0, pz_b1, pz_bb, pz_ix, Int.sub_zero, Int.zero_add, Int.add_zero, Int.mul_zero, mb_qk, mb_qx, if_true, if_false, true_or, or_true, false_or, or_false, and_true, true_and, and_false, false_and, not_true_eq_false, not_false_eq_true, ite_self, List.lookup, List.length_cons, List.length_nil, ite_not, Nat.reduceAdd, Int.reduceEq, Int.reduceLT, Int.reduceLE, pz_n0, pz_n1, pz_n2, pz_n3, pz_n4, pz_n5, pz_n6, pz_n7, pz_n8, pz_n10, pz_n12, pz_n39, pz_n40, pz_n80, pz_n99, pz_n100, pz_n999, pz_nm1, pz_nm999, sL_law_26 hs, hon, hc]) | (simp (disch := first | assumption | omega | exact Nat.le_of_ble_eq_true rfl | (intro _; first | rfl | simp (disch := decide) only [pz_su_t])) only [sL_law_30, pz_add, pz_mul, pz_neg, pz_sub, pz_lt, pz_le, pz_eq, pz_b0, pz_b1, pz_bb, pz_ix, Int.sub_zero, Int.zero_add, Int.add_zero, Int.mul_zero, mb_qk, mb_qx, if_true, if_false, true_or, or_true, false_or, or_false, and_true, true_and, and_false, false_and, not_true_eq_false, not_false_eq_true, ite_self, List.lookup, List.length_cons, List.length_nil, ite_not, Nat.reduceAdd, Int.reduceEq, Int.reduceLT, Int.reduceLE, pz_n0, pz_n1, pz_n2, pz_n3, pz_n4, pz_n5, pz_n6, pz_n7, pz_n8, pz_n10, pz_n12, pz_n39, pz_n40, pz_n80, pz_n99, pz_n100, pz_n999, pz_nm1, pz_nm999, sL_law_26 hs, hon, hc]; first | split | skip) | split)
  all_goals first | rfl | omega | ((try unfold pz_b); (repeat' split) <;> first | rfl | omega | (simp_all only []; done) | (exfalso; simp_all only [not_true_eq_false, not_false_eq_true]; omega) | skip)
set_option maxRecDepth 20000 in
set_option maxHeartbeats 4000000 in
theorem lh_end {d : Nat} {Q : mb_O → mb_S → Prop} {σ : mb_S} {a0 x m o n : Nat} {f : Nat → Int32} {i : Int} {l5 l6 : Option Value} (hd : 11 ≤ d) (hs : σ.1 a0 = some (.inl (9, n, .inl f))) (hn : n ≤ 3072) (hi0 : 0 ≤ i) (hi1 : i ≤ 3072) (hi : (n : Int) - 6 < i) : mb_Rn d 161 23 [some (.ref a0), some (.ref x), some (.ref m), some (.ref o), some (.int (iI (i))), l5, l6] [] σ Q = Q (.inl (some (.int (iI (1))))) σ := by
  have hon := rz_on (show n < 2 ^ 31 by omega)
  have hc : ((n : Int) - 6 < i) = True := eq_true (by omega)
  rw [sL_law_23]
  repeat' (first | (simp (config := {maxSteps := 1000000}) (disch := first | assumption | omega | exact Nat.le_of_ble_eq_true rfl | (intro _; first | rfl | simp (disch := decide) only [pz_su_t])) only [sL_law_25, sL_law_25n, sL_law_26, sL_law_27, sL_law_29, pz_add, pz_mul, pz_neg, pz_sub, pz_lt, pz_le, pz_eq, pz_b0, pz_b1, pz_bb, pz_ix, Int.sub_zero, Int.zero_add, Int.add_zero, Int.mul_zero, mb_qk, mb_qx, if_true, if_false, true_or, or_true, false_or, or_false, and_true, true_and, and_false, false_and, not_true_eq_false, not_false_eq_true, ite_self, List.lookup, List.length_cons, List.length_nil, ite_not, Nat.reduceAdd, Int.reduceEq, Int.reduceLT, Int.reduceLE, pz_n0, pz_n1, pz_n2, pz_n3, pz_n4, pz_n5, pz_n6, pz_n7, pz_n8, pz_n10, pz_n12, pz_n39, pz_n40, pz_n80, pz_n99, pz_n100, pz_n999, pz_nm1, pz_nm999, sL_law_26 hs, hon, hc, sL_law_1648, sL_law_1649, true_or, or_true]) | (simp (disch := first | assumption | omega | exact Nat.le_of_ble_eq_true rfl | (intro _; first | rfl | simp (disch := decide) only [pz_su_t])) only [sL_law_30, pz_add, pz_mul, pz_neg, pz_sub, pz_lt, pz_le, pz_eq, pz_b0, pz_b1, pz_bb, pz_ix, Int.sub_zero, Int.zero_add, Int.add_zero, Int.mul_zero, mb_qk, mb_qx, if_true, if_false, true_or, or_true, false_or, or_false, and_true, true_and, and_false, false_and, not_true_eq_false, not_false_eq_true, ite_self, List.lookup, List.length_cons, List.length_nil, ite_not, Nat.reduceAdd, Int.reduceEq, Int.reduceLT, Int.reduceLE, pz_n0, pz_n1, pz_n2, pz_n3, pz_n4, pz_n5, pz_n6, pz_n7, pz_n8, pz_n10, pz_n12, pz_n39, pz_n40, pz_n80, pz_n99, pz_n100, pz_n999, pz_nm1, pz_nm999, sL_law_26 hs, hon, hc, sL_law_1648, sL_law_1649, true_or, or_true]; first | split | skip) | split)
  all_goals first | rfl | omega | ((try unfold pz_b); (repeat' split) <;> first | rfl | omega | (simp_all only []; done) | (exfalso; simp_all only [not_true_eq_false, not_false_eq_true]; omega) | skip)
set_option maxRecDepth 20000 in
set_option maxHeartbeats 4000000 in
theorem lh_w33 {d : Nat} {Q : mb_O → mb_S → Prop} {σ : mb_S} {a0 x m o n : Nat} {f : Nat → Int32} {i : Int} {l5 l6 : Option Value} (hs : σ.1 a0 = some (.inl (9, n, .inl f))) (hn : n ≤ 3072) (hi0 : 0 ≤ i) (hi : i < n) : mb_Rn d 161 33 [some (.ref a0), some (.ref x), some (.ref m), some (.ref o), some (.int (iI (i))), l5, l6] [] σ Q = mb_Rn d 161 40 [some (.ref a0), some (.ref x), some (.ref m), some (.ref o), some (.int (iI (i))), l5, l6] [.int (f (iI i).toNatClampNeg &&& 31)] σ Q := by
  repeat' (first | (simp (config := {maxSteps := 1000000}) (disch := first | assumption | omega | exact Nat.le_of_ble_eq_true rfl | (intro _; first | rfl | simp (disch := decide) only [pz_su_t])) only [sL_law_33, sL_law_33n, sL_law_34, sL_law_36, sL_law_37, sL_law_39, pz_add, pz_mul, pz_neg, pz_sub, pz_lt, pz_le, pz_eq, pz_b0, pz_b1, pz_bb, pz_ix, Int.sub_zero, Int.zero_add, Int.add_zero, Int.mul_zero, mb_qk, mb_qx, if_true, if_false, true_or, or_true, false_or, or_false, and_true, true_and, and_false, false_and, not_true_eq_false, not_false_eq_true, ite_self, List.lookup, List.length_cons, List.length_nil, ite_not, Nat.reduceAdd, Int.reduceEq, Int.reduceLT, Int.reduceLE, pz_n0, pz_n1, pz_n2, pz_n3, pz_n4, pz_n5, pz_n6, pz_n7, pz_n8, pz_n10, pz_n12, pz_n39, pz_n40, pz_n80, pz_n99, pz_n100, pz_n999, pz_nm1, pz_nm999, pz_gi hs]) | split)
theorem lh_disp {d : Nat} {Q : mb_O → mb_S → Prop} {σ : mb_S} {a0 x m o n : Nat} {f : Nat → Int32} {i : Int} {l5 l6 : Option Value} (hd : 11 ≤ d) (hs : σ.1 a0 = some (.inl (9, n, .inl f))) (hn : n ≤ 3072) (hi0 : 0 ≤ i) (hi : i < n) : mb_Rn d 161 33 [some (.ref a0), some (.ref x), some (.ref m), some (.ref o), some (.int (iI (i))), l5, l6] [] σ Q = if (f (iI i).toNatClampNeg &&& 31) < 0 then mb_Rn d 161 1642 [some (.ref a0), some (.ref x), some (.ref m), some (.ref o), some (.int (iI (i))), l5, l6] [] σ Q else mb_sw (fun t => mb_Rn d 161 t [some (.ref a0), some (.ref x), some (.ref m), some (.ref o), some (.int (iI (i))), l5, l6] [] σ Q) [140, 184, 252, 356, 443, 499, 591, 683, 751, 807, 911, 991, 1059, 1115, 1183, 1239, 1314, 1370, 1426, 1506, 1586] 0 (f (iI i).toNatClampNeg &&& 31) (mb_Rn d 161 1642 [some (.ref a0), some (.ref x), some (.ref m), some (.ref o), some (.int (iI (i))), l5, l6] [] σ Q) := by
  rw [lh_w33 hs hn hi0 hi, sL_law_40]
theorem lh_at {d : Nat} {Q : mb_O → mb_S → Prop} {σ : mb_S} {a0 x m o n : Nat} {f : Nat → Int32} {i : Int} {l5 l6 : Option Value} (hd : 11 ≤ d) (hs : σ.1 a0 = some (.inl (9, n, .inl f))) (hn : n ≤ 3072) (hi0 : 0 ≤ i) (hi : i < n) {j t : Nat} (hj : j < 2 ^ 31) (e : (f (iI i).toNatClampNeg &&& 31) = nI j) (ht : ([140, 184, 252, 356, 443, 499, 591, 683, 751, 807, 911, 991, 1059, 1115, 1183, 1239, 1314, 1370, 1426, 1506, 1586] : List Nat)[j]? = some t) : mb_Rn d 161 33 [some (.ref a0), some (.ref x), some (.ref m), some (.ref o), some (.int (iI (i))), l5, l6] [] σ Q = mb_Rn d 161 t [some (.ref a0), some (.ref x), some (.ref m), some (.ref o), some (.int (iI (i))), l5, l6] [] σ Q := by
  rw [lh_disp hd hs hn hi0 hi, e, if_neg (nI_pos hj), ← mb_sw_eq (nI_pos hj) _ 0 (by decide) (Nat.zero_le _), nI_clamp hj, Nat.sub_zero, ht]
theorem lh_no {d : Nat} {Q : mb_O → mb_S → Prop} {σ : mb_S} {a0 x m o n : Nat} {f : Nat → Int32} {i : Int} {l5 l6 : Option Value} (hd : 11 ≤ d) (hs : σ.1 a0 = some (.inl (9, n, .inl f))) (hn : n ≤ 3072) (hi0 : 0 ≤ i) (hi : i < n) (h : (f (iI i).toNatClampNeg &&& 31) < 0 ∨ ∃ j, j < 2 ^ 31 ∧ (f (iI i).toNatClampNeg &&& 31) = nI j ∧ 21 ≤ j) : mb_Rn d 161 33 [some (.ref a0), some (.ref x), some (.ref m), some (.ref o), some (.int (iI (i))), l5, l6] [] σ Q = mb_Rn d 161 1642 [some (.ref a0), some (.ref x), some (.ref m), some (.ref o), some (.int (iI (i))), l5, l6] [] σ Q := by
  rw [lh_disp hd hs hn hi0 hi]
  rcases h with h | ⟨j, hj, e, h21⟩
  · rw [if_pos h]
  · rw [e, if_neg (nI_pos hj), ← mb_sw_eq (nI_pos hj) _ 0 (by decide) (Nat.zero_le _), nI_clamp hj, Nat.sub_zero, List.getElem?_eq_none (show List.length ([140, 184, 252, 356, 443, 499, 591, 683, 751, 807, 911, 991, 1059, 1115, 1183, 1239, 1314, 1370, 1426, 1506, 1586] : List Nat) ≤ j from h21)]
set_option maxRecDepth 20000 in
set_option maxHeartbeats 4000000 in
theorem lh_tail {d : Nat} {Q : mb_O → mb_S → Prop} {σ : mb_S} {a0 x m o : Nat} {i : Int} {l5 l6 : Option Value} : mb_Rn d 161 1642 [some (.ref a0), some (.ref x), some (.ref m), some (.ref o), some (.int (iI (i))), l5, l6] [] σ Q = mb_Rn d 161 23 [some (.ref a0), some (.ref x), some (.ref m), some (.ref o), some (.int (iI (i + 6))), l5, l6] [] σ Q := by
  have h6 : (6 : Int32) = iI 6 := rfl
  simp only [sL_law_1642, sL_law_1645, h6, pz_add]
theorem lh_step {σ : mb_S} {S : pz_S} {ad : rz_A} {T : Int} {Fo : Nat → Prop} {a0 x m o n : Nat} {f : Nat → Int32} {i : Int} {l5 l6 : Option Value} (hF : rz_Fx m o Fo) (hst : rz_St σ S ad T x m o Fo) (h16 : ∀ j, S 16 j ≤ i) (hs : σ.1 a0 = some (.inl (9, n, .inl f))) (hFa : Fo a0) (hna : ¬ (m ≤ a0 ∧ a0 < m + 22)) (hno : a0 ≠ o) (hn : n ≤ 3072) (hi0 : 0 ≤ i) (hi : i + 5 < n) : ∃ (σ2 : mb_S) (S' : pz_S) (ad' : rz_A) (k : Int) (l5' l6' : Option Value), rz_St σ2 S' ad' k x m o Fo ∧ (∀ j, S' 16 j ≤ i + 1) ∧ (∀ q, Fo q → ¬ (m ≤ q ∧ q < m + 22) → q ≠ o → σ2.1 q = σ.1 q) ∧ (σ.2.1 ≤ σ2.2.1 ∧ σ2.2.1 ≤ σ.2.1 + 101 ∧ σ2.2.2 ≤ σ.2.2 + 1006) ∧ ∀ (d : Nat) (Q : mb_O → mb_S → Prop), 11 ≤ d → mb_Rn d 161 33 [some (.ref a0), some (.ref x), some (.ref m), some (.ref o), some (.int (iI (i))), l5, l6] [] σ Q = mb_Rn d 161 1642 [some (.ref a0), some (.ref x), some (.ref m), some (.ref o), some (.int (iI (i))), l5', l6'] [] σ2 Q := by
  by_cases c : (f (iI i).toNatClampNeg &&& 31) < 0
  · exact ⟨σ, S, ad, T, l5, l6, hst, fun j => by have := h16 j; omega, fun q _ _ _ => rfl, ⟨Nat.le_refl _, by omega, by omega⟩, fun d Q hd => lh_no hd hs hn hi0 (by omega) (Or.inl c)⟩
  · obtain ⟨j, hj, e⟩ := nI_of c
    by_cases c2 : 21 ≤ j
    · exact ⟨σ, S, ad, T, l5, l6, hst, fun j => by have := h16 j; omega, fun q _ _ _ => rfl, ⟨Nat.le_refl _, by omega, by omega⟩, fun d Q hd => lh_no hd hs hn hi0 (by omega) (Or.inr ⟨j, hj, e, c2⟩)⟩
    · rcases (show j = 0 ∨ j = 1 ∨ j = 2 ∨ j = 3 ∨ j = 4 ∨ j = 5 ∨ j = 6 ∨ j = 7 ∨ j = 8 ∨ j = 9 ∨ j = 10 ∨ j = 11 ∨ j = 12 ∨ j = 13 ∨ j = 14 ∨ j = 15 ∨ j = 16 ∨ j = 17 ∨ j = 18 ∨ j = 19 ∨ j = 20 by omega) with ej | ej | ej | ej | ej | ej | ej | ej | ej | ej | ej | ej | ej | ej | ej | ej | ej | ej | ej | ej | ej <;> subst ej
      · obtain ⟨σ1, σ2, S', ad', k, r, h1, h2, h3, ⟨⟨k0, k3⟩, ho⟩, st, h16', fr, ⟨⟨f1, hm1⟩, f2, hm2⟩, b1, b2, b3⟩ := pk_asset  hF hst h16 (by omega) 
        refine ⟨σ2, S', ad', k, some (.int (iI k)), some (.int (iI r)), st, h16', fun q q1 q2 q3 => (fr q q1 q2 q3).2, ⟨b1, b2, b3⟩, fun d Q hd => ?_⟩
        rw [lh_at hd hs hn hi0 (by omega) hj e (show _ = some 140 from rfl)]
        exact la_asset hd hs ((fr a0 hFa hna hno).1.trans hs) hi0 hi hn  h1 hm1 h2 hm2 h3 k0 k3 ho
      · obtain ⟨σ1, σ2, S', ad', k, r, h1, h2, h3, ⟨⟨k0, k3⟩, ho⟩, st, h16', fr, ⟨⟨f1, hm1⟩, f2, hm2⟩, b1, b2, b3⟩ := pk_bone (a := (f (iI (i + 1)).toNatClampNeg).toInt) (p := (f (iI (i + 2)).toNatClampNeg).toInt) hF hst h16 (by omega) (pz_lo _) (pz_hi _) (pz_lo _) (pz_hi _)
        refine ⟨σ2, S', ad', k, some (.int (iI k)), some (.int (iI r)), st, h16', fun q q1 q2 q3 => (fr q q1 q2 q3).2, ⟨b1, b2, b3⟩, fun d Q hd => ?_⟩
        rw [lh_at hd hs hn hi0 (by omega) hj e (show _ = some 184 from rfl)]
        exact la_bone hd hs ((fr a0 hFa hna hno).1.trans hs) hi0 hi hn ((pz_of _).symm) ((pz_of _).symm) h1 hm1 h2 hm2 h3 k0 k3 ho
      · obtain ⟨σ1, σ2, S', ad', k, r, h1, h2, h3, ⟨⟨k0, k3⟩, ho⟩, st, h16', fr, ⟨⟨f1, hm1⟩, f2, hm2⟩, b1, b2, b3⟩ := pk_key (a := (f (iI (i + 1)).toNatClampNeg).toInt) (b := (f (iI (i + 2)).toNatClampNeg).toInt) (f := (f (iI (i + 3)).toNatClampNeg).toInt) (v := (f (iI (i + 4)).toNatClampNeg).toInt) (w := (f (iI (i + 5)).toNatClampNeg).toInt) hF hst h16 (by omega) (pz_lo _) (pz_hi _) (pz_lo _) (pz_hi _) (pz_lo _) (pz_hi _) (pz_lo _) (pz_hi _) (pz_lo _) (pz_hi _)
        refine ⟨σ2, S', ad', k, some (.int (iI k)), some (.int (iI r)), st, h16', fun q q1 q2 q3 => (fr q q1 q2 q3).2, ⟨b1, b2, b3⟩, fun d Q hd => ?_⟩
        rw [lh_at hd hs hn hi0 (by omega) hj e (show _ = some 252 from rfl)]
        exact la_key hd hs ((fr a0 hFa hna hno).1.trans hs) hi0 hi hn ((pz_of _).symm) ((pz_of _).symm) ((pz_of _).symm) ((pz_of _).symm) ((pz_of _).symm) h1 hm1 h2 hm2 h3 k0 k3 ho
      · obtain ⟨σ1, σ2, S', ad', k, r, h1, h2, h3, ⟨⟨k0, k3⟩, ho⟩, st, h16', fr, ⟨⟨f1, hm1⟩, f2, hm2⟩, b1, b2, b3⟩ := pk_unkey (a := (f (iI (i + 1)).toNatClampNeg).toInt) (b := (f (iI (i + 2)).toNatClampNeg).toInt) (f := (f (iI (i + 3)).toNatClampNeg).toInt) hF hst h16 (by omega) (pz_lo _) (pz_hi _) (pz_lo _) (pz_hi _) (pz_lo _) (pz_hi _)
        refine ⟨σ2, S', ad', k, some (.int (iI k)), some (.int (iI r)), st, h16', fun q q1 q2 q3 => (fr q q1 q2 q3).2, ⟨b1, b2, b3⟩, fun d Q hd => ?_⟩
        rw [lh_at hd hs hn hi0 (by omega) hj e (show _ = some 356 from rfl)]
        exact la_unkey hd hs ((fr a0 hFa hna hno).1.trans hs) hi0 hi hn ((pz_of _).symm) ((pz_of _).symm) ((pz_of _).symm) h1 hm1 h2 hm2 h3 k0 k3 ho
      · obtain ⟨σ1, σ2, S', ad', k, r, h1, h2, h3, ⟨⟨k0, k3⟩, ho⟩, st, h16', fr, ⟨⟨f1, hm1⟩, f2, hm2⟩, b1, b2, b3⟩ := pk_publish (a := (f (iI (i + 1)).toNatClampNeg).toInt) hF hst h16 (by omega) (pz_lo _) (pz_hi _)
        refine ⟨σ2, S', ad', k, some (.int (iI k)), some (.int (iI r)), st, h16', fun q q1 q2 q3 => (fr q q1 q2 q3).2, ⟨b1, b2, b3⟩, fun d Q hd => ?_⟩
        rw [lh_at hd hs hn hi0 (by omega) hj e (show _ = some 443 from rfl)]
        exact la_publish hd hs ((fr a0 hFa hna hno).1.trans hs) hi0 hi hn ((pz_of _).symm) h1 hm1 h2 hm2 h3 k0 k3 ho
      · obtain ⟨σ1, σ2, S', ad', k, r, h1, h2, h3, ⟨⟨k0, k3⟩, ho⟩, st, h16', fr, ⟨⟨f1, hm1⟩, f2, hm2⟩, b1, b2, b3⟩ := pk_pose (a := (f (iI (i + 1)).toNatClampNeg).toInt) (v := (f (iI (i + 2)).toNatClampNeg).toInt) (b := (f (iI (i + 3)).toNatClampNeg).toInt) (f := (f (iI (i + 4)).toNatClampNeg).toInt) hF hst h16 (by omega) (pz_lo _) (pz_hi _) (pz_lo _) (pz_hi _) (pz_lo _) (pz_hi _) (pz_lo _) (pz_hi _)
        refine ⟨σ2, S', ad', k, some (.int (iI k)), some (.int (iI r)), st, h16', fun q q1 q2 q3 => (fr q q1 q2 q3).2, ⟨b1, b2, b3⟩, fun d Q hd => ?_⟩
        rw [lh_at hd hs hn hi0 (by omega) hj e (show _ = some 499 from rfl)]
        exact la_pose hd hs ((fr a0 hFa hna hno).1.trans hs) hi0 hi hn ((pz_of _).symm) ((pz_of _).symm) ((pz_of _).symm) ((pz_of _).symm) h1 hm1 h2 hm2 h3 k0 k3 ho
      · obtain ⟨σ1, σ2, S', ad', k, r, h1, h2, h3, ⟨⟨k0, k3⟩, ho⟩, st, h16', fr, ⟨⟨f1, hm1⟩, f2, hm2⟩, b1, b2, b3⟩ := pk_poseAnew (a := (f (iI (i + 1)).toNatClampNeg).toInt) (v := (f (iI (i + 2)).toNatClampNeg).toInt) (b := (f (iI (i + 3)).toNatClampNeg).toInt) (f := (f (iI (i + 4)).toNatClampNeg).toInt) hF hst h16 (by omega) (pz_lo _) (pz_hi _) (pz_lo _) (pz_hi _) (pz_lo _) (pz_hi _) (pz_lo _) (pz_hi _)
        refine ⟨σ2, S', ad', k, some (.int (iI k)), some (.int (iI r)), st, h16', fun q q1 q2 q3 => (fr q q1 q2 q3).2, ⟨b1, b2, b3⟩, fun d Q hd => ?_⟩
        rw [lh_at hd hs hn hi0 (by omega) hj e (show _ = some 591 from rfl)]
        exact la_poseAnew hd hs ((fr a0 hFa hna hno).1.trans hs) hi0 hi hn ((pz_of _).symm) ((pz_of _).symm) ((pz_of _).symm) ((pz_of _).symm) h1 hm1 h2 hm2 h3 k0 k3 ho
      · obtain ⟨σ1, σ2, S', ad', k, r, h1, h2, h3, ⟨⟨k0, k3⟩, ho⟩, st, h16', fr, ⟨⟨f1, hm1⟩, f2, hm2⟩, b1, b2, b3⟩ := pk_ofAsset (a := (f (iI (i + 1)).toNatClampNeg).toInt) (w := (f (iI (i + 2)).toNatClampNeg).toInt) hF hst h16 (by omega) (pz_lo _) (pz_hi _) (pz_lo _) (pz_hi _)
        refine ⟨σ2, S', ad', k, some (.int (iI k)), some (.int (iI r)), st, h16', fun q q1 q2 q3 => (fr q q1 q2 q3).2, ⟨b1, b2, b3⟩, fun d Q hd => ?_⟩
        rw [lh_at hd hs hn hi0 (by omega) hj e (show _ = some 683 from rfl)]
        exact la_ofAsset hd hs ((fr a0 hFa hna hno).1.trans hs) hi0 hi hn ((pz_of _).symm) ((pz_of _).symm) h1 hm1 h2 hm2 h3 k0 k3 ho
      · obtain ⟨σ1, σ2, S', ad', k, r, h1, h2, h3, ⟨⟨k0, k3⟩, ho⟩, st, h16', fr, ⟨⟨f1, hm1⟩, f2, hm2⟩, b1, b2, b3⟩ := pk_scene (n := (f (iI (i + 1)).toNatClampNeg).toInt) hF hst h16 (by omega) (pz_lo _) (pz_hi _)
        refine ⟨σ2, S', ad', k, some (.int (iI k)), some (.int (iI r)), st, h16', fun q q1 q2 q3 => (fr q q1 q2 q3).2, ⟨b1, b2, b3⟩, fun d Q hd => ?_⟩
        rw [lh_at hd hs hn hi0 (by omega) hj e (show _ = some 751 from rfl)]
        exact la_scene hd hs ((fr a0 hFa hna hno).1.trans hs) hi0 hi hn ((pz_of _).symm) h1 hm1 h2 hm2 h3 k0 k3 ho
      · obtain ⟨σ1, σ2, S', ad', k, r, h1, h2, h3, ⟨⟨k0, k3⟩, ho⟩, st, h16', fr, ⟨⟨f1, hm1⟩, f2, hm2⟩, b1, b2, b3⟩ := pk_cast (s := (f (iI (i + 1)).toNatClampNeg).toInt) (a := (f (iI (i + 2)).toNatClampNeg).toInt) (v := (f (iI (i + 3)).toNatClampNeg).toInt) (f := (f (iI (i + 4)).toNatClampNeg).toInt) (g := (f (iI (i + 5)).toNatClampNeg).toInt) hF hst h16 (by omega) (pz_lo _) (pz_hi _) (pz_lo _) (pz_hi _) (pz_lo _) (pz_hi _) (pz_lo _) (pz_hi _) (pz_lo _) (pz_hi _)
        refine ⟨σ2, S', ad', k, some (.int (iI k)), some (.int (iI r)), st, h16', fun q q1 q2 q3 => (fr q q1 q2 q3).2, ⟨b1, b2, b3⟩, fun d Q hd => ?_⟩
        rw [lh_at hd hs hn hi0 (by omega) hj e (show _ = some 807 from rfl)]
        exact la_cast hd hs ((fr a0 hFa hna hno).1.trans hs) hi0 hi hn ((pz_of _).symm) ((pz_of _).symm) ((pz_of _).symm) ((pz_of _).symm) ((pz_of _).symm) h1 hm1 h2 hm2 h3 k0 k3 ho
      · obtain ⟨σ1, σ2, S', ad', k, r, h1, h2, h3, ⟨⟨k0, k3⟩, ho⟩, st, h16', fr, ⟨⟨f1, hm1⟩, f2, hm2⟩, b1, b2, b3⟩ := pk_cut (s := (f (iI (i + 1)).toNatClampNeg).toInt) (g := (f (iI (i + 2)).toNatClampNeg).toInt) (k := (f (iI (i + 3)).toNatClampNeg).toInt) hF hst h16 (by omega) (pz_lo _) (pz_hi _) (pz_lo _) (pz_hi _) (pz_lo _) (pz_hi _)
        refine ⟨σ2, S', ad', k, some (.int (iI k)), some (.int (iI r)), st, h16', fun q q1 q2 q3 => (fr q q1 q2 q3).2, ⟨b1, b2, b3⟩, fun d Q hd => ?_⟩
        rw [lh_at hd hs hn hi0 (by omega) hj e (show _ = some 911 from rfl)]
        exact la_cut hd hs ((fr a0 hFa hna hno).1.trans hs) hi0 hi hn ((pz_of _).symm) ((pz_of _).symm) ((pz_of _).symm) h1 hm1 h2 hm2 h3 k0 k3 ho
      · obtain ⟨σ1, σ2, S', ad', k, r, h1, h2, h3, ⟨⟨k0, k3⟩, ho⟩, st, h16', fr, ⟨⟨f1, hm1⟩, f2, hm2⟩, b1, b2, b3⟩ := pk_note (s := (f (iI (i + 1)).toNatClampNeg).toInt) (f := (f (iI (i + 2)).toNatClampNeg).toInt) hF hst h16 (by omega) (pz_lo _) (pz_hi _) (pz_lo _) (pz_hi _)
        refine ⟨σ2, S', ad', k, some (.int (iI k)), some (.int (iI r)), st, h16', fun q q1 q2 q3 => (fr q q1 q2 q3).2, ⟨b1, b2, b3⟩, fun d Q hd => ?_⟩
        rw [lh_at hd hs hn hi0 (by omega) hj e (show _ = some 991 from rfl)]
        exact la_note hd hs ((fr a0 hFa hna hno).1.trans hs) hi0 hi hn ((pz_of _).symm) ((pz_of _).symm) h1 hm1 h2 hm2 h3 k0 k3 ho
      · obtain ⟨σ1, σ2, S', ad', k, r, h1, h2, h3, ⟨⟨k0, k3⟩, ho⟩, st, h16', fr, ⟨⟨f1, hm1⟩, f2, hm2⟩, b1, b2, b3⟩ := pk_settle (n := (f (iI (i + 1)).toNatClampNeg).toInt) hF hst h16 (by omega) (pz_lo _) (pz_hi _)
        refine ⟨σ2, S', ad', k, some (.int (iI k)), some (.int (iI r)), st, h16', fun q q1 q2 q3 => (fr q q1 q2 q3).2, ⟨b1, b2, b3⟩, fun d Q hd => ?_⟩
        rw [lh_at hd hs hn hi0 (by omega) hj e (show _ = some 1059 from rfl)]
        exact la_settle hd hs ((fr a0 hFa hna hno).1.trans hs) hi0 hi hn ((pz_of _).symm) h1 hm1 h2 hm2 h3 k0 k3 ho
      · obtain ⟨σ1, σ2, S', ad', k, r, h1, h2, h3, ⟨⟨k0, k3⟩, ho⟩, st, h16', fr, ⟨⟨f1, hm1⟩, f2, hm2⟩, b1, b2, b3⟩ := pk_ofNote (n := (f (iI (i + 1)).toNatClampNeg).toInt) (w := (f (iI (i + 2)).toNatClampNeg).toInt) hF hst h16 (by omega) (pz_lo _) (pz_hi _) (pz_lo _) (pz_hi _)
        refine ⟨σ2, S', ad', k, some (.int (iI k)), some (.int (iI r)), st, h16', fun q q1 q2 q3 => (fr q q1 q2 q3).2, ⟨b1, b2, b3⟩, fun d Q hd => ?_⟩
        rw [lh_at hd hs hn hi0 (by omega) hj e (show _ = some 1115 from rfl)]
        exact la_ofNote hd hs ((fr a0 hFa hna hno).1.trans hs) hi0 hi hn ((pz_of _).symm) ((pz_of _).symm) h1 hm1 h2 hm2 h3 k0 k3 ho
      · obtain ⟨σ1, σ2, S', ad', k, r, h1, h2, h3, ⟨⟨k0, k3⟩, ho⟩, st, h16', fr, ⟨⟨f1, hm1⟩, f2, hm2⟩, b1, b2, b3⟩ := pk_render (s := (f (iI (i + 1)).toNatClampNeg).toInt) hF hst h16 (by omega) (pz_lo _) (pz_hi _)
        refine ⟨σ2, S', ad', k, some (.int (iI k)), some (.int (iI r)), st, h16', fun q q1 q2 q3 => (fr q q1 q2 q3).2, ⟨b1, b2, b3⟩, fun d Q hd => ?_⟩
        rw [lh_at hd hs hn hi0 (by omega) hj e (show _ = some 1183 from rfl)]
        exact la_render hd hs ((fr a0 hFa hna hno).1.trans hs) hi0 hi hn ((pz_of _).symm) h1 hm1 h2 hm2 h3 k0 k3 ho
      · obtain ⟨σ1, σ2, S', ad', k, r, h1, h2, h3, ⟨⟨k0, k3⟩, ho⟩, st, h16', fr, ⟨⟨f1, hm1⟩, f2, hm2⟩, b1, b2, b3⟩ := pk_renderOne (s := (f (iI (i + 1)).toNatClampNeg).toInt) (f := (f (iI (i + 2)).toNatClampNeg).toInt) hF hst h16 (by omega) (pz_lo _) (pz_hi _) (pz_lo _) (pz_hi _)
        refine ⟨σ2, S', ad', k, some (.int (iI k)), some (.int (iI r)), st, h16', fun q q1 q2 q3 => (fr q q1 q2 q3).2, ⟨b1, b2, b3⟩, fun d Q hd => ?_⟩
        rw [lh_at hd hs hn hi0 (by omega) hj e (show _ = some 1239 from rfl)]
        exact la_renderOne hd hs ((fr a0 hFa hna hno).1.trans hs) hi0 hi hn ((pz_of _).symm) ((pz_of _).symm) h1 hm1 h2 hm2 h3 k0 k3 ho
      · obtain ⟨σ1, σ2, S', ad', k, r, h1, h2, h3, ⟨⟨k0, k3⟩, ho⟩, st, h16', fr, ⟨⟨f1, hm1⟩, f2, hm2⟩, b1, b2, b3⟩ := pk_needs (s := (f (iI (i + 1)).toNatClampNeg).toInt) hF hst h16 (by omega) (pz_lo _) (pz_hi _)
        refine ⟨σ2, S', ad', k, some (.int (iI k)), some (.int (iI r)), st, h16', fun q q1 q2 q3 => (fr q q1 q2 q3).2, ⟨b1, b2, b3⟩, fun d Q hd => ?_⟩
        rw [lh_at hd hs hn hi0 (by omega) hj e (show _ = some 1314 from rfl)]
        exact la_needs hd hs ((fr a0 hFa hna hno).1.trans hs) hi0 hi hn ((pz_of _).symm) h1 hm1 h2 hm2 h3 k0 k3 ho
      · obtain ⟨σ1, σ2, S', ad', k, r, h1, h2, h3, ⟨⟨k0, k3⟩, ho⟩, st, h16', fr, ⟨⟨f1, hm1⟩, f2, hm2⟩, b1, b2, b3⟩ := pk_mixes (s := (f (iI (i + 1)).toNatClampNeg).toInt) hF hst h16 (by omega) (pz_lo _) (pz_hi _)
        refine ⟨σ2, S', ad', k, some (.int (iI k)), some (.int (iI r)), st, h16', fun q q1 q2 q3 => (fr q q1 q2 q3).2, ⟨b1, b2, b3⟩, fun d Q hd => ?_⟩
        rw [lh_at hd hs hn hi0 (by omega) hj e (show _ = some 1370 from rfl)]
        exact la_mixes hd hs ((fr a0 hFa hna hno).1.trans hs) hi0 hi hn ((pz_of _).symm) h1 hm1 h2 hm2 h3 k0 k3 ho
      · obtain ⟨σ1, σ2, S', ad', k, r, h1, h2, h3, ⟨⟨k0, k3⟩, ho⟩, st, h16', fr, ⟨⟨f1, hm1⟩, f2, hm2⟩, b1, b2, b3⟩ := pk_ofFrame (s := (f (iI (i + 1)).toNatClampNeg).toInt) (f := (f (iI (i + 2)).toNatClampNeg).toInt) (w := (f (iI (i + 3)).toNatClampNeg).toInt) hF hst h16 (by omega) (pz_lo _) (pz_hi _) (pz_lo _) (pz_hi _) (pz_lo _) (pz_hi _)
        refine ⟨σ2, S', ad', k, some (.int (iI k)), some (.int (iI r)), st, h16', fun q q1 q2 q3 => (fr q q1 q2 q3).2, ⟨b1, b2, b3⟩, fun d Q hd => ?_⟩
        rw [lh_at hd hs hn hi0 (by omega) hj e (show _ = some 1426 from rfl)]
        exact la_ofFrame hd hs ((fr a0 hFa hna hno).1.trans hs) hi0 hi hn ((pz_of _).symm) ((pz_of _).symm) ((pz_of _).symm) h1 hm1 h2 hm2 h3 k0 k3 ho
      · obtain ⟨σ1, σ2, S', ad', k, r, h1, h2, h3, ⟨⟨k0, k3⟩, ho⟩, st, h16', fr, ⟨⟨f1, hm1⟩, f2, hm2⟩, b1, b2, b3⟩ := pk_kept (s := (f (iI (i + 1)).toNatClampNeg).toInt) (f := (f (iI (i + 2)).toNatClampNeg).toInt) (a := (f (iI (i + 3)).toNatClampNeg).toInt) hF hst h16 (by omega) (pz_lo _) (pz_hi _) (pz_lo _) (pz_hi _) (pz_lo _) (pz_hi _)
        refine ⟨σ2, S', ad', k, some (.int (iI k)), some (.int (iI r)), st, h16', fun q q1 q2 q3 => (fr q q1 q2 q3).2, ⟨b1, b2, b3⟩, fun d Q hd => ?_⟩
        rw [lh_at hd hs hn hi0 (by omega) hj e (show _ = some 1506 from rfl)]
        exact la_kept hd hs ((fr a0 hFa hna hno).1.trans hs) hi0 hi hn ((pz_of _).symm) ((pz_of _).symm) ((pz_of _).symm) h1 hm1 h2 hm2 h3 k0 k3 ho
      · obtain ⟨σ1, σ2, S', ad', k, r, h1, h2, h3, ⟨⟨k0, k3⟩, ho⟩, st, h16', fr, ⟨⟨f1, hm1⟩, f2, hm2⟩, b1, b2, b3⟩ := pk_count (w := (f (iI (i + 1)).toNatClampNeg).toInt) hF hst h16 (by omega) (pz_lo _) (pz_hi _)
        refine ⟨σ2, S', ad', k, some (.int (iI k)), some (.int (iI r)), st, h16', fun q q1 q2 q3 => (fr q q1 q2 q3).2, ⟨b1, b2, b3⟩, fun d Q hd => ?_⟩
        rw [lh_at hd hs hn hi0 (by omega) hj e (show _ = some 1586 from rfl)]
        exact la_count hd hs ((fr a0 hFa hna hno).1.trans hs) hi0 hi hn ((pz_of _).symm) h1 hm1 h2 hm2 h3 k0 k3 ho
theorem lh_loop {Fo : Nat → Prop} {a0 x m o n : Nat} {f : Nat → Int32} (hF : rz_Fx m o Fo) (hFa : Fo a0) (hna : ¬ (m ≤ a0 ∧ a0 < m + 22)) (hno : a0 ≠ o) (hn : n ≤ 3072) : ∀ (K : Nat) (i : Int) (σ : mb_S) (S : pz_S) (ad : rz_A) (T : Int) (l5 l6 : Option Value), rz_St σ S ad T x m o Fo → (∀ j, S 16 j ≤ i) → σ.1 a0 = some (.inl (9, n, .inl f)) → 0 ≤ i → i ≤ n → n < i + 6 * K + 6 → ∃ σ', (∀ q, Fo q → ¬ (m ≤ q ∧ q < m + 22) → q ≠ o → σ'.1 q = σ.1 q) ∧ (σ.2.1 ≤ σ'.2.1 ∧ σ'.2.1 ≤ σ.2.1 + 101 * K ∧ σ'.2.2 ≤ σ.2.2 + 1006 * K) ∧ ∀ (d : Nat) (Q : mb_O → mb_S → Prop), 11 ≤ d → mb_Rn d 161 23 [some (.ref a0), some (.ref x), some (.ref m), some (.ref o), some (.int (iI (i))), l5, l6] [] σ Q = Q (.inl (some (.int (iI (1))))) σ' := by
  intro K
  induction K with
  | zero =>
    intro i σ S ad T l5 l6 hst h16 hs hi0 hi1 hK
    exact ⟨σ, fun q _ _ _ => rfl, ⟨Nat.le_refl _, by omega, by omega⟩, fun d Q hd => lh_end hd hs hn hi0 (by omega) (by omega)⟩
  | succ K ih =>
    intro i σ S ad T l5 l6 hst h16 hs hi0 hi1 hK
    by_cases c : (n : Int) - 6 < i
    · exact ⟨σ, fun q _ _ _ => rfl, ⟨Nat.le_refl _, by omega, by omega⟩, fun d Q hd => lh_end hd hs hn hi0 (by omega) c⟩
    · obtain ⟨σ2, S', ad', k, l5', l6', st, h16', fr, ⟨b1, b2, b3⟩, w⟩ := lh_step (l5 := l5) (l6 := l6) hF hst h16 hs hFa hna hno hn hi0 (by omega)
      obtain ⟨σ3, r1, ⟨r2, r3, r4⟩, r5⟩ := ih (i + 6) σ2 S' ad' k l5' l6' st (fun j => by have := h16' j; omega) ((fr a0 hFa hna hno).trans hs) (by omega) (by omega) (by omega)
      exact ⟨σ3, fun q q1 q2 q3 => (r1 q q1 q2 q3).trans (fr q q1 q2 q3), ⟨by omega, by omega, by omega⟩, fun d Q hd => by rw [lh_go hd hs hn hi0 (by omega), w d Q hd, lh_tail]; exact r5 d Q hd⟩
