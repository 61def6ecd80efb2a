/-! the bounds of what the reference holds -/
def pz_W (S : pz_S) : Prop := (∀ i : Int, 0 ≤ S 0 i ∧ S 0 i ≤ 3) ∧ (∀ i : Int, 0 ≤ S 1 i ∧ S 1 i ≤ 8) ∧ (∀ i : Int, 0 ≤ S 2 i ∧ S 2 i ≤ 12) ∧ (∀ i : Int, 0 ≤ S 3 i ∧ S 3 i ≤ 10) ∧ (∀ i : Int, -1 ≤ S 4 i ∧ S 4 i ≤ 9) ∧ (∀ i : Int, 0 ≤ S 5 i ∧ S 5 i ≤ 12) ∧ (∀ i : Int, 0 ≤ S 6 i ∧ S 6 i ≤ 99) ∧ (∀ i : Int, -999 ≤ S 7 i ∧ S 7 i ≤ 999) ∧ (∀ i : Int, 0 ≤ S 8 i ∧ S 8 i ≤ 2) ∧ (∀ i : Int, 0 ≤ S 9 i ∧ S 9 i ≤ 8) ∧ (∀ i : Int, 0 ≤ S 10 i ∧ S 10 i ≤ 40) ∧ (∀ i : Int, 0 ≤ S 11 i ∧ S 11 i ≤ 1) ∧ (∀ i : Int, -1 ≤ S 12 i ∧ S 12 i ≤ 11) ∧ (∀ i : Int, 0 ≤ S 13 i ∧ S 13 i ≤ 39) ∧ (∀ i : Int, 0 ≤ S 14 i ∧ S 14 i ≤ 39) ∧ (∀ i : Int, 0 ≤ S 15 i ∧ S 15 i ≤ 39) ∧ (∀ i : Int, 0 ≤ S 16 i ∧ S 16 i ≤ 1000) ∧ (∀ i : Int, -1 ≤ S 17 i ∧ S 17 i ≤ 11) ∧ (∀ i : Int, 0 ≤ S 18 i ∧ S 18 i ≤ 10) ∧ (∀ i : Int, 0 ≤ S 20 i ∧ S 20 i ≤ 1000000) ∧ (∀ i : Int, 0 ≤ S 21 i ∧ S 21 i ≤ 40) ∧ (∀ i : Int, 0 ≤ S 22 i ∧ S 22 i ≤ 7) ∧ (∀ i : Int, 0 ≤ S 23 i ∧ S 23 i ≤ 39) ∧ (∀ i : Int, 0 ≤ S 24 i ∧ S 24 i ≤ 1) ∧ (∀ i : Int, 0 ≤ S 25 i ∧ S 25 i ≤ 1000)
theorem pw_0 {S : pz_S} (h : pz_W S) (i : Int) : 0 ≤ S 0 i ∧ S 0 i ≤ 3 := h.1 i
theorem pw_1 {S : pz_S} (h : pz_W S) (i : Int) : 0 ≤ S 1 i ∧ S 1 i ≤ 8 := h.2.1 i
theorem pw_2 {S : pz_S} (h : pz_W S) (i : Int) : 0 ≤ S 2 i ∧ S 2 i ≤ 12 := h.2.2.1 i
theorem pw_3 {S : pz_S} (h : pz_W S) (i : Int) : 0 ≤ S 3 i ∧ S 3 i ≤ 10 := h.2.2.2.1 i
theorem pw_4 {S : pz_S} (h : pz_W S) (i : Int) : -1 ≤ S 4 i ∧ S 4 i ≤ 9 := h.2.2.2.2.1 i
theorem pw_5 {S : pz_S} (h : pz_W S) (i : Int) : 0 ≤ S 5 i ∧ S 5 i ≤ 12 := h.2.2.2.2.2.1 i
theorem pw_6 {S : pz_S} (h : pz_W S) (i : Int) : 0 ≤ S 6 i ∧ S 6 i ≤ 99 := h.2.2.2.2.2.2.1 i
theorem pw_7 {S : pz_S} (h : pz_W S) (i : Int) : -999 ≤ S 7 i ∧ S 7 i ≤ 999 := h.2.2.2.2.2.2.2.1 i
theorem pw_8 {S : pz_S} (h : pz_W S) (i : Int) : 0 ≤ S 8 i ∧ S 8 i ≤ 2 := h.2.2.2.2.2.2.2.2.1 i
theorem pw_9 {S : pz_S} (h : pz_W S) (i : Int) : 0 ≤ S 9 i ∧ S 9 i ≤ 8 := h.2.2.2.2.2.2.2.2.2.1 i
theorem pw_10 {S : pz_S} (h : pz_W S) (i : Int) : 0 ≤ S 10 i ∧ S 10 i ≤ 40 := h.2.2.2.2.2.2.2.2.2.2.1 i
theorem pw_11 {S : pz_S} (h : pz_W S) (i : Int) : 0 ≤ S 11 i ∧ S 11 i ≤ 1 := h.2.2.2.2.2.2.2.2.2.2.2.1 i
theorem pw_12 {S : pz_S} (h : pz_W S) (i : Int) : -1 ≤ S 12 i ∧ S 12 i ≤ 11 := h.2.2.2.2.2.2.2.2.2.2.2.2.1 i
theorem pw_13 {S : pz_S} (h : pz_W S) (i : Int) : 0 ≤ S 13 i ∧ S 13 i ≤ 39 := h.2.2.2.2.2.2.2.2.2.2.2.2.2.1 i
theorem pw_14 {S : pz_S} (h : pz_W S) (i : Int) : 0 ≤ S 14 i ∧ S 14 i ≤ 39 := h.2.2.2.2.2.2.2.2.2.2.2.2.2.2.1 i
theorem pw_15 {S : pz_S} (h : pz_W S) (i : Int) : 0 ≤ S 15 i ∧ S 15 i ≤ 39 := h.2.2.2.2.2.2.2.2.2.2.2.2.2.2.2.1 i
theorem pw_16 {S : pz_S} (h : pz_W S) (i : Int) : 0 ≤ S 16 i ∧ S 16 i ≤ 1000 := h.2.2.2.2.2.2.2.2.2.2.2.2.2.2.2.2.1 i
theorem pw_17 {S : pz_S} (h : pz_W S) (i : Int) : -1 ≤ S 17 i ∧ S 17 i ≤ 11 := h.2.2.2.2.2.2.2.2.2.2.2.2.2.2.2.2.2.1 i
theorem pw_18 {S : pz_S} (h : pz_W S) (i : Int) : 0 ≤ S 18 i ∧ S 18 i ≤ 10 := h.2.2.2.2.2.2.2.2.2.2.2.2.2.2.2.2.2.2.1 i
theorem pw_20 {S : pz_S} (h : pz_W S) (i : Int) : 0 ≤ S 20 i ∧ S 20 i ≤ 1000000 := h.2.2.2.2.2.2.2.2.2.2.2.2.2.2.2.2.2.2.2.1 i
theorem pw_21 {S : pz_S} (h : pz_W S) (i : Int) : 0 ≤ S 21 i ∧ S 21 i ≤ 40 := h.2.2.2.2.2.2.2.2.2.2.2.2.2.2.2.2.2.2.2.2.1 i
theorem pw_22 {S : pz_S} (h : pz_W S) (i : Int) : 0 ≤ S 22 i ∧ S 22 i ≤ 7 := h.2.2.2.2.2.2.2.2.2.2.2.2.2.2.2.2.2.2.2.2.2.1 i
theorem pw_23 {S : pz_S} (h : pz_W S) (i : Int) : 0 ≤ S 23 i ∧ S 23 i ≤ 39 := h.2.2.2.2.2.2.2.2.2.2.2.2.2.2.2.2.2.2.2.2.2.2.1 i
theorem pw_24 {S : pz_S} (h : pz_W S) (i : Int) : 0 ≤ S 24 i ∧ S 24 i ≤ 1 := h.2.2.2.2.2.2.2.2.2.2.2.2.2.2.2.2.2.2.2.2.2.2.2.1 i
theorem pw_25 {S : pz_S} (h : pz_W S) (i : Int) : 0 ≤ S 25 i ∧ S 25 i ≤ 1000 := h.2.2.2.2.2.2.2.2.2.2.2.2.2.2.2.2.2.2.2.2.2.2.2.2 i
set_option maxRecDepth 20000 in
set_option maxHeartbeats 4000000 in
theorem pc_isIn {d : Nat} {Q : mb_O → mb_S → Prop} {σ : mb_S} {v a b : Int} (hv1 : -2147483648 ≤ v) (hv2 : v ≤ 2147483647) (ha1 : -2147483648 ≤ a) (ha2 : a ≤ 2147483647) (hb1 : -2147483648 ≤ b) (hb2 : b ≤ 2147483647) : mb_Ex d 87 [.int (iI v), .int (iI a), .int (iI b)] σ Q = Q (.inl (some (.int (iI (pz_b (a ≤ v ∧ v ≤ b)))))) σ := by
  show mb_Rn d 87 0 [some (.int (iI v)), some (.int (iI a)), some (.int (iI b))] [] σ Q = _
  simp (disch := first | assumption | omega | exact Nat.le_of_ble_eq_true rfl) only [sX8_isIn_0, sX8_isIn_1, sX8_isIn_2, sX8_isIn_5, sX8_isIn_6, sX8_isIn_7, sX8_isIn_10, sX8_isIn_11, sX8_isIn_14, sX8_isIn_15, pz_add, pz_mul, pz_neg, pz_sub, pz_lt, pz_le, pz_eq, pz_b0, pz_b1, pz_bb, mb_qk, mb_qx, if_true, if_false, true_or, or_true, false_or, or_false, and_true, true_and, and_false, false_and, not_true_eq_false, not_false_eq_true, ite_self, List.lookup, List.length_cons, List.length_nil, ite_not, pz_n0, pz_n1, pz_n2, pz_n3, pz_n4, pz_n5, pz_n6, pz_n7, pz_n8, pz_n10, pz_n12, pz_n39, pz_n40, pz_n80, pz_n99, pz_n100, pz_n999, pz_nm1, pz_nm999]
  all_goals try unfold pz_b
  all_goals ((repeat' split) <;> first | rfl | omega | simp_all only [] <;> omega)
set_option maxRecDepth 20000 in
set_option maxHeartbeats 4000000 in
theorem pc_holds {d : Nat} {Q : mb_O → mb_S → Prop} {σ : mb_S} {m : Nat} {S : pz_S} {e : Int} (he1 : -2147483648 ≤ e) (he2 : e ≤ 2147483647) : mb_Ex d 86 [.ref m, .int (iI e)] (pz_mp σ m S) Q = Q (.inl (some (.int (iI (pz_b (e = 0)))))) (pz_mp σ m (pz_su S 0 0 e)) := by
  show mb_Rn d 86 0 [some (.ref m), some (.int (iI e))] [] (pz_mp σ m S) Q = _
  simp (disch := first | assumption | omega | exact Nat.le_of_ble_eq_true rfl) only [sX8_holds_0, sX8_holds_0n, sX8_holds_1, sX8_holds_2, sX8_holds_5, sX8_holds_6, sX8_holds_9, sX8_holds_10, sX8_holds_13, sX8_holds_14, pz_add, pz_mul, pz_neg, pz_sub, pz_lt, pz_le, pz_eq, pz_b0, pz_b1, pz_bb, mb_qk, mb_qx, if_true, if_false, true_or, or_true, false_or, or_false, and_true, true_and, and_false, false_and, not_true_eq_false, not_false_eq_true, ite_self, List.lookup, List.length_cons, List.length_nil, ite_not, pz_n0, pz_n1, pz_n2, pz_n3, pz_n4, pz_n5, pz_n6, pz_n7, pz_n8, pz_n10, pz_n12, pz_n39, pz_n40, pz_n80, pz_n99, pz_n100, pz_n999, pz_nm1, pz_nm999, pg_f, pg_l, pf_0, pf_1, pf_2, pf_3, pf_4, pf_5, pf_6, pf_7, pf_8, pf_9, pf_10, pf_11, pf_12, pf_13, pf_14, pf_15, pf_16, pf_17, pf_18, pf_19, pf_20, pf_21, pf_22, pf_23, pf_24, pf_25, pg_2, pg_3, pg_4, pg_5, pg_6, pg_7, pg_8, pg_10, pg_11, pg_12, pg_13, pg_14, pg_15, pg_16, pg_17, pg_18, pg_19, pg_22, pg_23, pg_24, pg_25, pu_0, pu_1, pu_2, pu_3, pu_4, pu_5, pu_6, pu_7, pu_8, pu_9, pu_10, pu_11, pu_12, pu_13, pu_14, pu_15, pu_16, pu_17, pu_18, pu_19, pu_20, pu_21, pu_22, pu_23, pu_24, pu_25]
  all_goals try unfold pz_b
  all_goals ((repeat' split) <;> first | rfl | omega | simp_all only [] <;> omega)
abbrev pz_isA (S : pz_S) (a : Int) : Prop := 0 ≤ a ∧ a ≤ S 1 0 - 1
abbrev pz_isC (S : pz_S) (a : Int) : Prop := 0 ≤ a ∧ a ≤ S 9 0 - 1
set_option maxRecDepth 20000 in
set_option maxHeartbeats 4000000 in
theorem pc_isAsset {d : Nat} {Q : mb_O → mb_S → Prop} {σ : mb_S} {m : Nat} {S : pz_S} {a : Int} (hW : pz_W S) (hd : 1 ≤ d) (ha1 : -2147483648 ≤ a) (ha2 : a ≤ 2147483647) : mb_Ex d 88 [.ref m, .int (iI a)] (pz_mp σ m S) Q = Q (.inl (some (.int (iI (pz_b (0 ≤ a ∧ a ≤ S 1 0 - 1)))))) (pz_mp σ m S) := by
  show mb_Rn d 88 0 [some (.ref m), some (.int (iI a))] [] (pz_mp σ m S) Q = _
  have w0 := pw_1 hW (0)
  simp (disch := first | assumption | omega | exact Nat.le_of_ble_eq_true rfl) only [sX8_isAsset_0, sX8_isAsset_1, sX8_isAsset_2, sX8_isAsset_2n, sX8_isAsset_3, sX8_isAsset_6, sX8_isAsset_7, sX8_isAsset_8, sX8_isAsset_11, pz_add, pz_mul, pz_neg, pz_sub, pz_lt, pz_le, pz_eq, pz_b0, pz_b1, pz_bb, mb_qk, mb_qx, if_true, if_false, true_or, or_true, false_or, or_false, and_true, true_and, and_false, false_and, not_true_eq_false, not_false_eq_true, ite_self, List.lookup, List.length_cons, List.length_nil, ite_not, pz_n0, pz_n1, pz_n2, pz_n3, pz_n4, pz_n5, pz_n6, pz_n7, pz_n8, pz_n10, pz_n12, pz_n39, pz_n40, pz_n80, pz_n99, pz_n100, pz_n999, pz_nm1, pz_nm999, pg_f, pg_l, pf_0, pf_1, pf_2, pf_3, pf_4, pf_5, pf_6, pf_7, pf_8, pf_9, pf_10, pf_11, pf_12, pf_13, pf_14, pf_15, pf_16, pf_17, pf_18, pf_19, pf_20, pf_21, pf_22, pf_23, pf_24, pf_25, pg_2, pg_3, pg_4, pg_5, pg_6, pg_7, pg_8, pg_10, pg_11, pg_12, pg_13, pg_14, pg_15, pg_16, pg_17, pg_18, pg_19, pg_22, pg_23, pg_24, pg_25, pu_0, pu_1, pu_2, pu_3, pu_4, pu_5, pu_6, pu_7, pu_8, pu_9, pu_10, pu_11, pu_12, pu_13, pu_14, pu_15, pu_16, pu_17, pu_18, pu_19, pu_20, pu_21, pu_22, pu_23, pu_24, pu_25, pc_isIn]
  all_goals try unfold pz_b
  all_goals ((repeat' split) <;> first | rfl | omega | simp_all only [] <;> omega)
set_option maxRecDepth 20000 in
set_option maxHeartbeats 4000000 in
theorem pc_isScene {d : Nat} {Q : mb_O → mb_S → Prop} {σ : mb_S} {m : Nat} {S : pz_S} {a : Int} (hW : pz_W S) (hd : 1 ≤ d) (ha1 : -2147483648 ≤ a) (ha2 : a ≤ 2147483647) : mb_Ex d 89 [.ref m, .int (iI a)] (pz_mp σ m S) Q = Q (.inl (some (.int (iI (pz_b (0 ≤ a ∧ a ≤ S 9 0 - 1)))))) (pz_mp σ m S) := by
  show mb_Rn d 89 0 [some (.ref m), some (.int (iI a))] [] (pz_mp σ m S) Q = _
  have w0 := pw_9 hW (0)
  simp (disch := first | assumption | omega | exact Nat.le_of_ble_eq_true rfl) only [sX8_isScene_0, sX8_isScene_1, sX8_isScene_2, sX8_isScene_2n, sX8_isScene_3, sX8_isScene_6, sX8_isScene_7, sX8_isScene_8, sX8_isScene_11, pz_add, pz_mul, pz_neg, pz_sub, pz_lt, pz_le, pz_eq, pz_b0, pz_b1, pz_bb, mb_qk, mb_qx, if_true, if_false, true_or, or_true, false_or, or_false, and_true, true_and, and_false, false_and, not_true_eq_false, not_false_eq_true, ite_self, List.lookup, List.length_cons, List.length_nil, ite_not, pz_n0, pz_n1, pz_n2, pz_n3, pz_n4, pz_n5, pz_n6, pz_n7, pz_n8, pz_n10, pz_n12, pz_n39, pz_n40, pz_n80, pz_n99, pz_n100, pz_n999, pz_nm1, pz_nm999, pg_f, pg_l, pf_0, pf_1, pf_2, pf_3, pf_4, pf_5, pf_6, pf_7, pf_8, pf_9, pf_10, pf_11, pf_12, pf_13, pf_14, pf_15, pf_16, pf_17, pf_18, pf_19, pf_20, pf_21, pf_22, pf_23, pf_24, pf_25, pg_2, pg_3, pg_4, pg_5, pg_6, pg_7, pg_8, pg_10, pg_11, pg_12, pg_13, pg_14, pg_15, pg_16, pg_17, pg_18, pg_19, pg_22, pg_23, pg_24, pg_25, pu_0, pu_1, pu_2, pu_3, pu_4, pu_5, pu_6, pu_7, pu_8, pu_9, pu_10, pu_11, pu_12, pu_13, pu_14, pu_15, pu_16, pu_17, pu_18, pu_19, pu_20, pu_21, pu_22, pu_23, pu_24, pu_25, pc_isIn]
  all_goals try unfold pz_b
  all_goals ((repeat' split) <;> first | rfl | omega | simp_all only [] <;> omega)
