/-! the bounds of what the reference holds -/
def pz_bl : Nat → Int
  | 4 => -1
  | 7 => -999
  | 12 => -1
  | 17 => -1
  | _ => 0
def pz_bh : Nat → Int
  | 0 => 3
  | 1 => 8
  | 2 => 12
  | 3 => 10
  | 4 => 9
  | 5 => 12
  | 6 => 99
  | 7 => 999
  | 8 => 2
  | 9 => 8
  | 10 => 40
  | 11 => 1
  | 12 => 11
  | 13 => 39
  | 14 => 39
  | 15 => 39
  | 16 => 1000000000
  | 17 => 11
  | 18 => 10
  | 20 => 1000000000
  | 21 => 40
  | 22 => 7
  | 23 => 39
  | 24 => 1
  | 25 => 1000000000
  | _ => 0
def pz_fr (t : Nat) : Bool := t == 19 || t == 20 || t == 25
def pz_W (S : pz_S) : Prop := ∀ (t : Nat) (i : Int), pz_fr t = false → t < 26 → pz_bl t ≤ S t i ∧ S t i ≤ pz_bh t
theorem pw_su {S : pz_S} {t : Nat} {j v : Int} (h : pz_W S) (h1 : pz_fr t = true ∨ (pz_bl t ≤ v ∧ v ≤ pz_bh t)) : pz_W (pz_su S t j v) := by
  intro t' i g1 g2
  unfold pz_su
  by_cases c : t' = t ∧ i = j
  · rw [if_pos c]
    cases h1 with
    | inl e => rw [c.1, e] at g1; cases g1
    | inr e => rw [c.1]; exact e
  · rw [if_neg c]; exact h t' i g1 g2
theorem pw_0 {S : pz_S} (h : pz_W S) (i : Int) : 0 ≤ S 0 i ∧ S 0 i ≤ 3 := h 0 i (by decide) (by decide)
theorem pws_0 {S : pz_S} {j v : Int} (h : pz_W S) (h1 : 0 ≤ v) (h2 : v ≤ 3) : pz_W (pz_su S 0 j v) := pw_su h (Or.inr ⟨h1, h2⟩)
theorem pw_1 {S : pz_S} (h : pz_W S) (i : Int) : 0 ≤ S 1 i ∧ S 1 i ≤ 8 := h 1 i (by decide) (by decide)
theorem pws_1 {S : pz_S} {j v : Int} (h : pz_W S) (h1 : 0 ≤ v) (h2 : v ≤ 8) : pz_W (pz_su S 1 j v) := pw_su h (Or.inr ⟨h1, h2⟩)
theorem pw_2 {S : pz_S} (h : pz_W S) (i : Int) : 0 ≤ S 2 i ∧ S 2 i ≤ 12 := h 2 i (by decide) (by decide)
theorem pws_2 {S : pz_S} {j v : Int} (h : pz_W S) (h1 : 0 ≤ v) (h2 : v ≤ 12) : pz_W (pz_su S 2 j v) := pw_su h (Or.inr ⟨h1, h2⟩)
theorem pw_3 {S : pz_S} (h : pz_W S) (i : Int) : 0 ≤ S 3 i ∧ S 3 i ≤ 10 := h 3 i (by decide) (by decide)
theorem pws_3 {S : pz_S} {j v : Int} (h : pz_W S) (h1 : 0 ≤ v) (h2 : v ≤ 10) : pz_W (pz_su S 3 j v) := pw_su h (Or.inr ⟨h1, h2⟩)
theorem pw_4 {S : pz_S} (h : pz_W S) (i : Int) : -1 ≤ S 4 i ∧ S 4 i ≤ 9 := h 4 i (by decide) (by decide)
theorem pws_4 {S : pz_S} {j v : Int} (h : pz_W S) (h1 : -1 ≤ v) (h2 : v ≤ 9) : pz_W (pz_su S 4 j v) := pw_su h (Or.inr ⟨h1, h2⟩)
theorem pw_5 {S : pz_S} (h : pz_W S) (i : Int) : 0 ≤ S 5 i ∧ S 5 i ≤ 12 := h 5 i (by decide) (by decide)
theorem pws_5 {S : pz_S} {j v : Int} (h : pz_W S) (h1 : 0 ≤ v) (h2 : v ≤ 12) : pz_W (pz_su S 5 j v) := pw_su h (Or.inr ⟨h1, h2⟩)
theorem pw_6 {S : pz_S} (h : pz_W S) (i : Int) : 0 ≤ S 6 i ∧ S 6 i ≤ 99 := h 6 i (by decide) (by decide)
theorem pws_6 {S : pz_S} {j v : Int} (h : pz_W S) (h1 : 0 ≤ v) (h2 : v ≤ 99) : pz_W (pz_su S 6 j v) := pw_su h (Or.inr ⟨h1, h2⟩)
theorem pw_7 {S : pz_S} (h : pz_W S) (i : Int) : -999 ≤ S 7 i ∧ S 7 i ≤ 999 := h 7 i (by decide) (by decide)
theorem pws_7 {S : pz_S} {j v : Int} (h : pz_W S) (h1 : -999 ≤ v) (h2 : v ≤ 999) : pz_W (pz_su S 7 j v) := pw_su h (Or.inr ⟨h1, h2⟩)
theorem pw_8 {S : pz_S} (h : pz_W S) (i : Int) : 0 ≤ S 8 i ∧ S 8 i ≤ 2 := h 8 i (by decide) (by decide)
theorem pws_8 {S : pz_S} {j v : Int} (h : pz_W S) (h1 : 0 ≤ v) (h2 : v ≤ 2) : pz_W (pz_su S 8 j v) := pw_su h (Or.inr ⟨h1, h2⟩)
theorem pw_9 {S : pz_S} (h : pz_W S) (i : Int) : 0 ≤ S 9 i ∧ S 9 i ≤ 8 := h 9 i (by decide) (by decide)
theorem pws_9 {S : pz_S} {j v : Int} (h : pz_W S) (h1 : 0 ≤ v) (h2 : v ≤ 8) : pz_W (pz_su S 9 j v) := pw_su h (Or.inr ⟨h1, h2⟩)
theorem pw_10 {S : pz_S} (h : pz_W S) (i : Int) : 0 ≤ S 10 i ∧ S 10 i ≤ 40 := h 10 i (by decide) (by decide)
theorem pws_10 {S : pz_S} {j v : Int} (h : pz_W S) (h1 : 0 ≤ v) (h2 : v ≤ 40) : pz_W (pz_su S 10 j v) := pw_su h (Or.inr ⟨h1, h2⟩)
theorem pw_11 {S : pz_S} (h : pz_W S) (i : Int) : 0 ≤ S 11 i ∧ S 11 i ≤ 1 := h 11 i (by decide) (by decide)
theorem pws_11 {S : pz_S} {j v : Int} (h : pz_W S) (h1 : 0 ≤ v) (h2 : v ≤ 1) : pz_W (pz_su S 11 j v) := pw_su h (Or.inr ⟨h1, h2⟩)
theorem pw_12 {S : pz_S} (h : pz_W S) (i : Int) : -1 ≤ S 12 i ∧ S 12 i ≤ 11 := h 12 i (by decide) (by decide)
theorem pws_12 {S : pz_S} {j v : Int} (h : pz_W S) (h1 : -1 ≤ v) (h2 : v ≤ 11) : pz_W (pz_su S 12 j v) := pw_su h (Or.inr ⟨h1, h2⟩)
theorem pw_13 {S : pz_S} (h : pz_W S) (i : Int) : 0 ≤ S 13 i ∧ S 13 i ≤ 39 := h 13 i (by decide) (by decide)
theorem pws_13 {S : pz_S} {j v : Int} (h : pz_W S) (h1 : 0 ≤ v) (h2 : v ≤ 39) : pz_W (pz_su S 13 j v) := pw_su h (Or.inr ⟨h1, h2⟩)
theorem pw_14 {S : pz_S} (h : pz_W S) (i : Int) : 0 ≤ S 14 i ∧ S 14 i ≤ 39 := h 14 i (by decide) (by decide)
theorem pws_14 {S : pz_S} {j v : Int} (h : pz_W S) (h1 : 0 ≤ v) (h2 : v ≤ 39) : pz_W (pz_su S 14 j v) := pw_su h (Or.inr ⟨h1, h2⟩)
theorem pw_15 {S : pz_S} (h : pz_W S) (i : Int) : 0 ≤ S 15 i ∧ S 15 i ≤ 39 := h 15 i (by decide) (by decide)
theorem pws_15 {S : pz_S} {j v : Int} (h : pz_W S) (h1 : 0 ≤ v) (h2 : v ≤ 39) : pz_W (pz_su S 15 j v) := pw_su h (Or.inr ⟨h1, h2⟩)
theorem pw_16 {S : pz_S} (h : pz_W S) (i : Int) : 0 ≤ S 16 i ∧ S 16 i ≤ 1000000000 := h 16 i (by decide) (by decide)
theorem pws_16 {S : pz_S} {j v : Int} (h : pz_W S) (h1 : 0 ≤ v) (h2 : v ≤ 1000000000) : pz_W (pz_su S 16 j v) := pw_su h (Or.inr ⟨h1, h2⟩)
theorem pw_17 {S : pz_S} (h : pz_W S) (i : Int) : -1 ≤ S 17 i ∧ S 17 i ≤ 11 := h 17 i (by decide) (by decide)
theorem pws_17 {S : pz_S} {j v : Int} (h : pz_W S) (h1 : -1 ≤ v) (h2 : v ≤ 11) : pz_W (pz_su S 17 j v) := pw_su h (Or.inr ⟨h1, h2⟩)
theorem pw_18 {S : pz_S} (h : pz_W S) (i : Int) : 0 ≤ S 18 i ∧ S 18 i ≤ 10 := h 18 i (by decide) (by decide)
theorem pws_18 {S : pz_S} {j v : Int} (h : pz_W S) (h1 : 0 ≤ v) (h2 : v ≤ 10) : pz_W (pz_su S 18 j v) := pw_su h (Or.inr ⟨h1, h2⟩)
theorem pws_20 {S : pz_S} {j v : Int} (h : pz_W S) : pz_W (pz_su S 20 j v) := pw_su h (Or.inl rfl)
theorem pw_21 {S : pz_S} (h : pz_W S) (i : Int) : 0 ≤ S 21 i ∧ S 21 i ≤ 40 := h 21 i (by decide) (by decide)
theorem pws_21 {S : pz_S} {j v : Int} (h : pz_W S) (h1 : 0 ≤ v) (h2 : v ≤ 40) : pz_W (pz_su S 21 j v) := pw_su h (Or.inr ⟨h1, h2⟩)
theorem pw_22 {S : pz_S} (h : pz_W S) (i : Int) : 0 ≤ S 22 i ∧ S 22 i ≤ 7 := h 22 i (by decide) (by decide)
theorem pws_22 {S : pz_S} {j v : Int} (h : pz_W S) (h1 : 0 ≤ v) (h2 : v ≤ 7) : pz_W (pz_su S 22 j v) := pw_su h (Or.inr ⟨h1, h2⟩)
theorem pw_23 {S : pz_S} (h : pz_W S) (i : Int) : 0 ≤ S 23 i ∧ S 23 i ≤ 39 := h 23 i (by decide) (by decide)
theorem pws_23 {S : pz_S} {j v : Int} (h : pz_W S) (h1 : 0 ≤ v) (h2 : v ≤ 39) : pz_W (pz_su S 23 j v) := pw_su h (Or.inr ⟨h1, h2⟩)
theorem pw_24 {S : pz_S} (h : pz_W S) (i : Int) : 0 ≤ S 24 i ∧ S 24 i ≤ 1 := h 24 i (by decide) (by decide)
theorem pws_24 {S : pz_S} {j v : Int} (h : pz_W S) (h1 : 0 ≤ v) (h2 : v ≤ 1) : pz_W (pz_su S 24 j v) := pw_su h (Or.inr ⟨h1, h2⟩)
theorem pws_25 {S : pz_S} {j v : Int} (h : pz_W S) : pz_W (pz_su S 25 j v) := pw_su h (Or.inl rfl)
theorem pws_19 {S : pz_S} {j v : Int} (h : pz_W S) : pz_W (pz_su S 19 j v) := pw_su h (Or.inl rfl)
set_option maxRecDepth 20000 in
set_option maxHeartbeats 4000000 in
theorem pc_isIn {d : Nat} {Q : mb_O → mb_S → Prop} {σ : mb_S} {v a b : Int} (hv1 : -2147483648 ≤ v) (hv2 : v ≤ 2147483647) (ha1 : -2147483648 ≤ a) (ha2 : a ≤ 2147483647) (hb1 : -2147483648 ≤ b) (hb2 : b ≤ 2147483647) : mb_Ex d 87 [.int (iI v), .int (iI a), .int (iI b)] σ Q = Q (.inl (some (.int (iI (pz_b (a ≤ v ∧ v ≤ b)))))) σ := by
  show mb_Rn d 87 0 [some (.int (iI v)), some (.int (iI a)), some (.int (iI b))] [] σ Q = _
  simp (config := {maxSteps := 1000000}) (disch := first | assumption | omega | exact Nat.le_of_ble_eq_true rfl | (intro _; first | rfl | simp (disch := decide) only [pz_su_t])) only [sX8_isIn_0, sX8_isIn_1, sX8_isIn_2, sX8_isIn_5, sX8_isIn_6, sX8_isIn_7, sX8_isIn_10, sX8_isIn_11, sX8_isIn_14, sX8_isIn_15, pz_add, pz_mul, pz_neg, pz_sub, pz_lt, pz_le, pz_eq, pz_b0, pz_b1, pz_bb, pz_ix, Int.sub_zero, Int.zero_add, Int.add_zero, Int.mul_zero, mb_qk, mb_qx, if_true, if_false, true_or, or_true, false_or, or_false, and_true, true_and, and_false, false_and, not_true_eq_false, not_false_eq_true, ite_self, List.lookup, List.length_cons, List.length_nil, ite_not, pz_n0, pz_n1, pz_n2, pz_n3, pz_n4, pz_n5, pz_n6, pz_n7, pz_n8, pz_n10, pz_n12, pz_n39, pz_n40, pz_n80, pz_n99, pz_n100, pz_n999, pz_nm1, pz_nm999]
  all_goals try unfold pz_b
  all_goals ((repeat' split) <;> first | rfl | omega | simp_all only [] <;> omega)
set_option maxRecDepth 20000 in
set_option maxHeartbeats 4000000 in
theorem pc_holds {d : Nat} {Q : mb_O → mb_S → Prop} {σ : mb_S} {m : Nat} {T : Int} {S : pz_S} {e : Int} (he1 : -2147483648 ≤ e) (he2 : e ≤ 2147483647) : mb_Ex d 86 [.ref m, .int (iI e)] (pz_mp σ m T S) Q = Q (.inl (some (.int (iI (pz_b (e = 0)))))) (pz_mp σ m e S) := by
  show mb_Rn d 86 0 [some (.ref m), some (.int (iI e))] [] (pz_mp σ m T S) Q = _
  simp (config := {maxSteps := 1000000}) (disch := first | assumption | omega | exact Nat.le_of_ble_eq_true rfl | (intro _; first | rfl | simp (disch := decide) only [pz_su_t])) only [sX8_holds_0, sX8_holds_0n, sX8_holds_1, sX8_holds_2, sX8_holds_5, sX8_holds_6, sX8_holds_9, sX8_holds_10, sX8_holds_13, sX8_holds_14, pz_add, pz_mul, pz_neg, pz_sub, pz_lt, pz_le, pz_eq, pz_b0, pz_b1, pz_bb, pz_ix, Int.sub_zero, Int.zero_add, Int.add_zero, Int.mul_zero, mb_qk, mb_qx, if_true, if_false, true_or, or_true, false_or, or_false, and_true, true_and, and_false, false_and, not_true_eq_false, not_false_eq_true, ite_self, List.lookup, List.length_cons, List.length_nil, ite_not, pz_n0, pz_n1, pz_n2, pz_n3, pz_n4, pz_n5, pz_n6, pz_n7, pz_n8, pz_n10, pz_n12, pz_n39, pz_n40, pz_n80, pz_n99, pz_n100, pz_n999, pz_nm1, pz_nm999, pg_f, pg_l, pf_0, pf_1, pf_2, pf_3, pf_4, pf_5, pf_6, pf_7, pf_8, pf_9, pf_10, pf_11, pf_12, pf_13, pf_14, pf_15, pf_16, pf_17, pf_18, pf_19, pf_20, pf_21, pf_22, pf_23, pf_24, pf_25, pg_2, pg_3, pg_4, pg_5, pg_6, pg_7, pg_8, pg_10, pg_11, pg_12, pg_13, pg_14, pg_15, pg_16, pg_17, pg_18, pg_19, pg_22, pg_23, pg_24, pg_25, pu_0, pu_1, pu_2, pu_3, pu_4, pu_5, pu_6, pu_7, pu_8, pu_9, pu_10, pu_11, pu_12, pu_13, pu_14, pu_15, pu_16, pu_17, pu_18, pu_19, pu_20, pu_21, pu_22, pu_23, pu_24, pu_25]
  all_goals try unfold pz_b
  all_goals ((repeat' split) <;> first | rfl | omega | simp_all only [] <;> omega)
abbrev pz_isA (S : pz_S) (a : Int) : Prop := 0 ≤ a ∧ a ≤ S 1 0 - 1
abbrev pz_isC (S : pz_S) (a : Int) : Prop := 0 ≤ a ∧ a ≤ S 9 0 - 1
set_option maxRecDepth 20000 in
set_option maxHeartbeats 4000000 in
theorem pc_isAsset {d : Nat} {Q : mb_O → mb_S → Prop} {σ : mb_S} {m : Nat} {T : Int} {S : pz_S} {a : Int} (hW : pz_W S) (hd : 1 ≤ d) (ha1 : -2147483648 ≤ a) (ha2 : a ≤ 2147483647) : mb_Ex d 88 [.ref m, .int (iI a)] (pz_mp σ m T S) Q = Q (.inl (some (.int (iI (pz_b (0 ≤ a ∧ a ≤ S 1 0 - 1)))))) (pz_mp σ m T S) := by
  show mb_Rn d 88 0 [some (.ref m), some (.int (iI a))] [] (pz_mp σ m T S) Q = _
  have w0 := pw_1 hW (0)
  simp (config := {maxSteps := 1000000}) (disch := first | assumption | omega | exact Nat.le_of_ble_eq_true rfl | (intro _; first | rfl | simp (disch := decide) only [pz_su_t])) only [sX8_isAsset_0, sX8_isAsset_1, sX8_isAsset_2, sX8_isAsset_2n, sX8_isAsset_3, sX8_isAsset_6, sX8_isAsset_7, sX8_isAsset_8, sX8_isAsset_11, pz_add, pz_mul, pz_neg, pz_sub, pz_lt, pz_le, pz_eq, pz_b0, pz_b1, pz_bb, pz_ix, Int.sub_zero, Int.zero_add, Int.add_zero, Int.mul_zero, mb_qk, mb_qx, if_true, if_false, true_or, or_true, false_or, or_false, and_true, true_and, and_false, false_and, not_true_eq_false, not_false_eq_true, ite_self, List.lookup, List.length_cons, List.length_nil, ite_not, pz_n0, pz_n1, pz_n2, pz_n3, pz_n4, pz_n5, pz_n6, pz_n7, pz_n8, pz_n10, pz_n12, pz_n39, pz_n40, pz_n80, pz_n99, pz_n100, pz_n999, pz_nm1, pz_nm999, pg_f, pg_l, pf_0, pf_1, pf_2, pf_3, pf_4, pf_5, pf_6, pf_7, pf_8, pf_9, pf_10, pf_11, pf_12, pf_13, pf_14, pf_15, pf_16, pf_17, pf_18, pf_19, pf_20, pf_21, pf_22, pf_23, pf_24, pf_25, pg_2, pg_3, pg_4, pg_5, pg_6, pg_7, pg_8, pg_10, pg_11, pg_12, pg_13, pg_14, pg_15, pg_16, pg_17, pg_18, pg_19, pg_22, pg_23, pg_24, pg_25, pu_0, pu_1, pu_2, pu_3, pu_4, pu_5, pu_6, pu_7, pu_8, pu_9, pu_10, pu_11, pu_12, pu_13, pu_14, pu_15, pu_16, pu_17, pu_18, pu_19, pu_20, pu_21, pu_22, pu_23, pu_24, pu_25, pc_isIn]
  all_goals try unfold pz_b
  all_goals ((repeat' split) <;> first | rfl | omega | simp_all only [] <;> omega)
set_option maxRecDepth 20000 in
set_option maxHeartbeats 4000000 in
theorem pc_isScene {d : Nat} {Q : mb_O → mb_S → Prop} {σ : mb_S} {m : Nat} {T : Int} {S : pz_S} {a : Int} (hW : pz_W S) (hd : 1 ≤ d) (ha1 : -2147483648 ≤ a) (ha2 : a ≤ 2147483647) : mb_Ex d 89 [.ref m, .int (iI a)] (pz_mp σ m T S) Q = Q (.inl (some (.int (iI (pz_b (0 ≤ a ∧ a ≤ S 9 0 - 1)))))) (pz_mp σ m T S) := by
  show mb_Rn d 89 0 [some (.ref m), some (.int (iI a))] [] (pz_mp σ m T S) Q = _
  have w0 := pw_9 hW (0)
  simp (config := {maxSteps := 1000000}) (disch := first | assumption | omega | exact Nat.le_of_ble_eq_true rfl | (intro _; first | rfl | simp (disch := decide) only [pz_su_t])) only [sX8_isScene_0, sX8_isScene_1, sX8_isScene_2, sX8_isScene_2n, sX8_isScene_3, sX8_isScene_6, sX8_isScene_7, sX8_isScene_8, sX8_isScene_11, pz_add, pz_mul, pz_neg, pz_sub, pz_lt, pz_le, pz_eq, pz_b0, pz_b1, pz_bb, pz_ix, Int.sub_zero, Int.zero_add, Int.add_zero, Int.mul_zero, mb_qk, mb_qx, if_true, if_false, true_or, or_true, false_or, or_false, and_true, true_and, and_false, false_and, not_true_eq_false, not_false_eq_true, ite_self, List.lookup, List.length_cons, List.length_nil, ite_not, pz_n0, pz_n1, pz_n2, pz_n3, pz_n4, pz_n5, pz_n6, pz_n7, pz_n8, pz_n10, pz_n12, pz_n39, pz_n40, pz_n80, pz_n99, pz_n100, pz_n999, pz_nm1, pz_nm999, pg_f, pg_l, pf_0, pf_1, pf_2, pf_3, pf_4, pf_5, pf_6, pf_7, pf_8, pf_9, pf_10, pf_11, pf_12, pf_13, pf_14, pf_15, pf_16, pf_17, pf_18, pf_19, pf_20, pf_21, pf_22, pf_23, pf_24, pf_25, pg_2, pg_3, pg_4, pg_5, pg_6, pg_7, pg_8, pg_10, pg_11, pg_12, pg_13, pg_14, pg_15, pg_16, pg_17, pg_18, pg_19, pg_22, pg_23, pg_24, pg_25, pu_0, pu_1, pu_2, pu_3, pu_4, pu_5, pu_6, pu_7, pu_8, pu_9, pu_10, pu_11, pu_12, pu_13, pu_14, pu_15, pu_16, pu_17, pu_18, pu_19, pu_20, pu_21, pu_22, pu_23, pu_24, pu_25, pc_isIn]
  all_goals try unfold pz_b
  all_goals ((repeat' split) <;> first | rfl | omega | simp_all only [] <;> omega)
abbrev pz_rg (a v : Int) : Int := if v = -1 then a else 8 + 12 * a + v
set_option maxRecDepth 20000 in
set_option maxHeartbeats 4000000 in
theorem pc_rigOf {d : Nat} {Q : mb_O → mb_S → Prop} {σ : mb_S} {a v : Int} (hv1 : -2147483648 ≤ v) (hv2 : v ≤ 2147483647) : mb_Ex d 91 [.int (iI a), .int (iI v)] σ Q = Q (.inl (some (.int (iI (pz_rg a v))))) σ := by
  show mb_Rn d 91 0 [some (.int (iI a)), some (.int (iI v))] [] σ Q = _
  repeat' (first | (simp (config := {maxSteps := 1000000}) (disch := first | assumption | omega | exact Nat.le_of_ble_eq_true rfl | (intro _; first | rfl | simp (disch := decide) only [pz_su_t])) only [sX8_rigOf_0, sX8_rigOf_1, sX8_rigOf_5, sX8_rigOf_6, sX8_rigOf_9, sX8_rigOf_11, sX8_rigOf_13, sX8_rigOf_14, sX8_rigOf_15, sX8_rigOf_16, sX8_rigOf_17, sX8_rigOf_18, pz_add, pz_mul, pz_neg, pz_sub, pz_lt, pz_le, pz_eq, pz_b0, pz_b1, pz_bb, pz_ix, Int.sub_zero, Int.zero_add, Int.add_zero, Int.mul_zero, mb_qk, mb_qx, if_true, if_false, true_or, or_true, false_or, or_false, and_true, true_and, and_false, false_and, not_true_eq_false, not_false_eq_true, ite_self, List.lookup, List.length_cons, List.length_nil, ite_not, pz_n0, pz_n1, pz_n2, pz_n3, pz_n4, pz_n5, pz_n6, pz_n7, pz_n8, pz_n10, pz_n12, pz_n39, pz_n40, pz_n80, pz_n99, pz_n100, pz_n999, pz_nm1, pz_nm999]) | (simp (disch := first | assumption | omega | exact Nat.le_of_ble_eq_true rfl | (intro _; first | rfl | simp (disch := decide) only [pz_su_t])) only [sX8_rigOf_2, pz_add, pz_mul, pz_neg, pz_sub, pz_lt, pz_le, pz_eq, pz_b0, pz_b1, pz_bb, pz_ix, Int.sub_zero, Int.zero_add, Int.add_zero, Int.mul_zero, mb_qk, mb_qx, if_true, if_false, true_or, or_true, false_or, or_false, and_true, true_and, and_false, false_and, not_true_eq_false, not_false_eq_true, ite_self, List.lookup, List.length_cons, List.length_nil, ite_not, pz_n0, pz_n1, pz_n2, pz_n3, pz_n4, pz_n5, pz_n6, pz_n7, pz_n8, pz_n10, pz_n12, pz_n39, pz_n40, pz_n80, pz_n99, pz_n100, pz_n999, pz_nm1, pz_nm999]; first | split | skip) | split)
  all_goals first | rfl | omega | ((try unfold pz_b); (repeat' split) <;> first | rfl | omega | (simp_all only []; done) | (exfalso; simp_all only [not_true_eq_false, not_false_eq_true]; omega) | skip)
abbrev pz_isF (S : pz_S) (s f : Int) : Prop := (0 ≤ s ∧ s ≤ S 9 0 - 1) ∧ 0 ≤ f ∧ f ≤ S 10 s - 1
set_option maxRecDepth 20000 in
set_option maxHeartbeats 4000000 in
theorem pc_isFrame {d : Nat} {Q : mb_O → mb_S → Prop} {σ : mb_S} {m : Nat} {T : Int} {S : pz_S} {s f : Int} (hW : pz_W S) (hd : 2 ≤ d) (hs1 : -2147483648 ≤ s) (hs2 : s ≤ 2147483647) (hf1 : -2147483648 ≤ f) (hf2 : f ≤ 2147483647) : mb_Ex d 90 [.ref m, .int (iI s), .int (iI f)] (pz_mp σ m T S) Q = Q (.inl (some (.int (iI (pz_b (pz_isF S s f)))))) (pz_mp σ m T S) := by
  show mb_Rn d 90 0 [some (.ref m), some (.int (iI s)), some (.int (iI f))] [] (pz_mp σ m T S) Q = _
  have w0 := pw_9 hW (0)
  have w1 := pw_10 hW (s)
  repeat' (first | (simp (config := {maxSteps := 1000000}) (disch := first | assumption | omega | exact Nat.le_of_ble_eq_true rfl | (intro _; first | rfl | simp (disch := decide) only [pz_su_t])) only [sX8_isFrame_0, sX8_isFrame_0n, sX8_isFrame_1, sX8_isFrame_2, sX8_isFrame_8, sX8_isFrame_9, sX8_isFrame_10, sX8_isFrame_10n, sX8_isFrame_11, sX8_isFrame_14, sX8_isFrame_15, sX8_isFrame_16, sX8_isFrame_17, sX8_isFrame_18, sX8_isFrame_24, sX8_isFrame_25, sX8_isFrame_28, sX8_isFrame_29, pz_add, pz_mul, pz_neg, pz_sub, pz_lt, pz_le, pz_eq, pz_b0, pz_b1, pz_bb, pz_ix, Int.sub_zero, Int.zero_add, Int.add_zero, Int.mul_zero, mb_qk, mb_qx, if_true, if_false, true_or, or_true, false_or, or_false, and_true, true_and, and_false, false_and, not_true_eq_false, not_false_eq_true, ite_self, List.lookup, List.length_cons, List.length_nil, ite_not, pz_n0, pz_n1, pz_n2, pz_n3, pz_n4, pz_n5, pz_n6, pz_n7, pz_n8, pz_n10, pz_n12, pz_n39, pz_n40, pz_n80, pz_n99, pz_n100, pz_n999, pz_nm1, pz_nm999, pg_f, pg_l, pf_0, pf_1, pf_2, pf_3, pf_4, pf_5, pf_6, pf_7, pf_8, pf_9, pf_10, pf_11, pf_12, pf_13, pf_14, pf_15, pf_16, pf_17, pf_18, pf_19, pf_20, pf_21, pf_22, pf_23, pf_24, pf_25, pg_2, pg_3, pg_4, pg_5, pg_6, pg_7, pg_8, pg_10, pg_11, pg_12, pg_13, pg_14, pg_15, pg_16, pg_17, pg_18, pg_19, pg_22, pg_23, pg_24, pg_25, pu_0, pu_1, pu_2, pu_3, pu_4, pu_5, pu_6, pu_7, pu_8, pu_9, pu_10, pu_11, pu_12, pu_13, pu_14, pu_15, pu_16, pu_17, pu_18, pu_19, pu_20, pu_21, pu_22, pu_23, pu_24, pu_25, pc_isScene, pc_isIn, pz_isF]) | (simp (disch := first | assumption | omega | exact Nat.le_of_ble_eq_true rfl | (intro _; first | rfl | simp (disch := decide) only [pz_su_t])) only [sX8_isFrame_5, sX8_isFrame_21, pz_add, pz_mul, pz_neg, pz_sub, pz_lt, pz_le, pz_eq, pz_b0, pz_b1, pz_bb, pz_ix, Int.sub_zero, Int.zero_add, Int.add_zero, Int.mul_zero, mb_qk, mb_qx, if_true, if_false, true_or, or_true, false_or, or_false, and_true, true_and, and_false, false_and, not_true_eq_false, not_false_eq_true, ite_self, List.lookup, List.length_cons, List.length_nil, ite_not, pz_n0, pz_n1, pz_n2, pz_n3, pz_n4, pz_n5, pz_n6, pz_n7, pz_n8, pz_n10, pz_n12, pz_n39, pz_n40, pz_n80, pz_n99, pz_n100, pz_n999, pz_nm1, pz_nm999]; first | split | skip) | split)
  all_goals first | rfl | omega | ((try unfold pz_b); (repeat' split) <;> first | rfl | omega | (simp_all only []; done) | (exfalso; simp_all only [not_true_eq_false, not_false_eq_true]; omega) | skip)
abbrev pz_isR (S : pz_S) (a v : Int) : Prop := (0 ≤ a ∧ a ≤ S 1 0 - 1) ∧ -1 ≤ v ∧ v ≤ S 2 a - 1
set_option maxRecDepth 20000 in
set_option maxHeartbeats 4000000 in
theorem pc_isRig {d : Nat} {Q : mb_O → mb_S → Prop} {σ : mb_S} {m : Nat} {T : Int} {S : pz_S} {a v : Int} (hW : pz_W S) (hd : 2 ≤ d) (ha1 : -2147483648 ≤ a) (ha2 : a ≤ 2147483647) (hv1 : -2147483648 ≤ v) (hv2 : v ≤ 2147483647) : mb_Ex d 92 [.ref m, .int (iI a), .int (iI v)] (pz_mp σ m T S) Q = Q (.inl (some (.int (iI (pz_b (pz_isR S a v)))))) (pz_mp σ m T S) := by
  show mb_Rn d 92 0 [some (.ref m), some (.int (iI a)), some (.int (iI v))] [] (pz_mp σ m T S) Q = _
  have w0 := pw_1 hW (0)
  have w1 := pw_2 hW (a)
  repeat' (first | (simp (config := {maxSteps := 1000000}) (disch := first | assumption | omega | exact Nat.le_of_ble_eq_true rfl | (intro _; first | rfl | simp (disch := decide) only [pz_su_t])) only [sX8_isRig_0, sX8_isRig_0n, sX8_isRig_1, sX8_isRig_2, sX8_isRig_8, sX8_isRig_9, sX8_isRig_10, sX8_isRig_10n, sX8_isRig_11, sX8_isRig_14, sX8_isRig_15, sX8_isRig_16, sX8_isRig_17, sX8_isRig_18, sX8_isRig_24, sX8_isRig_25, sX8_isRig_28, sX8_isRig_29, pz_add, pz_mul, pz_neg, pz_sub, pz_lt, pz_le, pz_eq, pz_b0, pz_b1, pz_bb, pz_ix, Int.sub_zero, Int.zero_add, Int.add_zero, Int.mul_zero, mb_qk, mb_qx, if_true, if_false, true_or, or_true, false_or, or_false, and_true, true_and, and_false, false_and, not_true_eq_false, not_false_eq_true, ite_self, List.lookup, List.length_cons, List.length_nil, ite_not, pz_n0, pz_n1, pz_n2, pz_n3, pz_n4, pz_n5, pz_n6, pz_n7, pz_n8, pz_n10, pz_n12, pz_n39, pz_n40, pz_n80, pz_n99, pz_n100, pz_n999, pz_nm1, pz_nm999, pg_f, pg_l, pf_0, pf_1, pf_2, pf_3, pf_4, pf_5, pf_6, pf_7, pf_8, pf_9, pf_10, pf_11, pf_12, pf_13, pf_14, pf_15, pf_16, pf_17, pf_18, pf_19, pf_20, pf_21, pf_22, pf_23, pf_24, pf_25, pg_2, pg_3, pg_4, pg_5, pg_6, pg_7, pg_8, pg_10, pg_11, pg_12, pg_13, pg_14, pg_15, pg_16, pg_17, pg_18, pg_19, pg_22, pg_23, pg_24, pg_25, pu_0, pu_1, pu_2, pu_3, pu_4, pu_5, pu_6, pu_7, pu_8, pu_9, pu_10, pu_11, pu_12, pu_13, pu_14, pu_15, pu_16, pu_17, pu_18, pu_19, pu_20, pu_21, pu_22, pu_23, pu_24, pu_25, pc_isAsset, pc_isIn]) | (simp (disch := first | assumption | omega | exact Nat.le_of_ble_eq_true rfl | (intro _; first | rfl | simp (disch := decide) only [pz_su_t])) only [sX8_isRig_5, sX8_isRig_21, pz_add, pz_mul, pz_neg, pz_sub, pz_lt, pz_le, pz_eq, pz_b0, pz_b1, pz_bb, pz_ix, Int.sub_zero, Int.zero_add, Int.add_zero, Int.mul_zero, mb_qk, mb_qx, if_true, if_false, true_or, or_true, false_or, or_false, and_true, true_and, and_false, false_and, not_true_eq_false, not_false_eq_true, ite_self, List.lookup, List.length_cons, List.length_nil, ite_not, pz_n0, pz_n1, pz_n2, pz_n3, pz_n4, pz_n5, pz_n6, pz_n7, pz_n8, pz_n10, pz_n12, pz_n39, pz_n40, pz_n80, pz_n99, pz_n100, pz_n999, pz_nm1, pz_nm999]; first | split | skip) | split)
  all_goals first | rfl | omega | ((try unfold pz_b); (repeat' split) <;> first | rfl | omega | (simp_all only []; done) | (exfalso; simp_all only [not_true_eq_false, not_false_eq_true]; omega) | skip)
abbrev pz_isB (S : pz_S) (a v b : Int) : Prop := pz_isR S a v ∧ 0 ≤ b ∧ b ≤ S 3 (pz_rg a v) - 1
set_option maxRecDepth 20000 in
set_option maxHeartbeats 4000000 in
theorem pc_isBone {d : Nat} {Q : mb_O → mb_S → Prop} {σ : mb_S} {m : Nat} {T : Int} {S : pz_S} {a v b : Int} (hW : pz_W S) (hd : 3 ≤ d) (ha1 : -2147483648 ≤ a) (ha2 : a ≤ 2147483647) (hv1 : -2147483648 ≤ v) (hv2 : v ≤ 2147483647) (hb1 : -2147483648 ≤ b) (hb2 : b ≤ 2147483647) : mb_Ex d 93 [.ref m, .int (iI a), .int (iI v), .int (iI b)] (pz_mp σ m T S) Q = Q (.inl (some (.int (iI (pz_b (pz_isB S a v b)))))) (pz_mp σ m T S) := by
  show mb_Rn d 93 0 [some (.ref m), some (.int (iI a)), some (.int (iI v)), some (.int (iI b))] [] (pz_mp σ m T S) Q = _
  have w0 := pw_1 hW (0)
  have w1 := pw_2 hW (a)
  have w2 := pw_3 hW (pz_rg a v)
  have w9 : pz_isR S a v → 0 ≤ pz_rg a v ∧ pz_rg a v < 104 := fun h => by unfold pz_rg; obtain ⟨⟨_, _⟩, _, _⟩ := h; split <;> omega
  repeat' (first | (simp (config := {maxSteps := 1000000}) (disch := first | assumption | omega | exact Nat.le_of_ble_eq_true rfl | (intro _; first | rfl | simp (disch := decide) only [pz_su_t])) only [sX8_isBone_0, sX8_isBone_0n, sX8_isBone_1, sX8_isBone_2, sX8_isBone_3, sX8_isBone_9, sX8_isBone_10, sX8_isBone_11, sX8_isBone_11n, sX8_isBone_12, sX8_isBone_15, sX8_isBone_16, sX8_isBone_17, sX8_isBone_20, sX8_isBone_21, sX8_isBone_22, sX8_isBone_23, sX8_isBone_29, sX8_isBone_30, sX8_isBone_33, sX8_isBone_34, pz_add, pz_mul, pz_neg, pz_sub, pz_lt, pz_le, pz_eq, pz_b0, pz_b1, pz_bb, pz_ix, Int.sub_zero, Int.zero_add, Int.add_zero, Int.mul_zero, mb_qk, mb_qx, if_true, if_false, true_or, or_true, false_or, or_false, and_true, true_and, and_false, false_and, not_true_eq_false, not_false_eq_true, ite_self, List.lookup, List.length_cons, List.length_nil, ite_not, pz_n0, pz_n1, pz_n2, pz_n3, pz_n4, pz_n5, pz_n6, pz_n7, pz_n8, pz_n10, pz_n12, pz_n39, pz_n40, pz_n80, pz_n99, pz_n100, pz_n999, pz_nm1, pz_nm999, pg_f, pg_l, pf_0, pf_1, pf_2, pf_3, pf_4, pf_5, pf_6, pf_7, pf_8, pf_9, pf_10, pf_11, pf_12, pf_13, pf_14, pf_15, pf_16, pf_17, pf_18, pf_19, pf_20, pf_21, pf_22, pf_23, pf_24, pf_25, pg_2, pg_3, pg_4, pg_5, pg_6, pg_7, pg_8, pg_10, pg_11, pg_12, pg_13, pg_14, pg_15, pg_16, pg_17, pg_18, pg_19, pg_22, pg_23, pg_24, pg_25, pu_0, pu_1, pu_2, pu_3, pu_4, pu_5, pu_6, pu_7, pu_8, pu_9, pu_10, pu_11, pu_12, pu_13, pu_14, pu_15, pu_16, pu_17, pu_18, pu_19, pu_20, pu_21, pu_22, pu_23, pu_24, pu_25, pc_isRig, pc_rigOf, pc_isIn]) | (simp (disch := first | assumption | omega | exact Nat.le_of_ble_eq_true rfl | (intro _; first | rfl | simp (disch := decide) only [pz_su_t])) only [sX8_isBone_6, sX8_isBone_26, pz_add, pz_mul, pz_neg, pz_sub, pz_lt, pz_le, pz_eq, pz_b0, pz_b1, pz_bb, pz_ix, Int.sub_zero, Int.zero_add, Int.add_zero, Int.mul_zero, mb_qk, mb_qx, if_true, if_false, true_or, or_true, false_or, or_false, and_true, true_and, and_false, false_and, not_true_eq_false, not_false_eq_true, ite_self, List.lookup, List.length_cons, List.length_nil, ite_not, pz_n0, pz_n1, pz_n2, pz_n3, pz_n4, pz_n5, pz_n6, pz_n7, pz_n8, pz_n10, pz_n12, pz_n39, pz_n40, pz_n80, pz_n99, pz_n100, pz_n999, pz_nm1, pz_nm999]; first | split | skip) | split)
  all_goals first | rfl | omega | ((try unfold pz_b); (repeat' split) <;> first | rfl | omega | (simp_all only []; done) | (exfalso; simp_all only [not_true_eq_false, not_false_eq_true]; omega) | skip)
def pz_kA (S : pz_S) (B f : Int) : Int := pz_fd (fun k => ¬ S 6 (12 * B + k) < f) 0 (S 5 B).toNat
set_option maxRecDepth 20000 in
set_option maxHeartbeats 4000000 in
theorem pl_keyAt {d : Nat} {Q : mb_O → mb_S → Prop} {σ : mb_S} {m : Nat} {T : Int} {S : pz_S} {B f : Int} (hW : pz_W S) (hB0 : 0 ≤ B) (hB1 : B < 1040) (hf1 : -2147483648 ≤ f) (hf2 : f ≤ 2147483647) : ∀ k : Int, 0 ≤ k → k ≤ S 5 B → mb_Rn d 94 2 [some (.ref m), some (.int (iI B)), some (.int (iI f)), some (.int (iI (k)))] [] (pz_mp σ m T S) Q = Q (.inl (some (.int (iI (pz_fd (fun k => ¬ S 6 (12 * B + k) < f) k (S 5 B - k).toNat))))) (pz_mp σ m T S) := by
  intro k h1 h2
  have w := pw_5 hW B
  refine pz_fdl (A := fun k => mb_Rn d 94 2 [some (.ref m), some (.int (iI B)), some (.int (iI f)), some (.int (iI (k)))] [] (pz_mp σ m T S) Q) (E := fun k => Q (.inl (some (.int (iI (k))))) (pz_mp σ m T S)) (b := S 5 B) _ k (by omega) ?_ ?_
  · show mb_Rn d 94 2 [some (.ref m), some (.int (iI B)), some (.int (iI f)), some (.int (iI (S 5 B)))] [] (pz_mp σ m T S) Q = _
    rw [sX8_keyAt_2]
    repeat' (first | (simp (config := {maxSteps := 1000000}) (disch := first | assumption | omega | exact Nat.le_of_ble_eq_true rfl | (intro _; first | rfl | simp (disch := decide) only [pz_su_t])) only [sX8_keyAt_0, sX8_keyAt_1, sX8_keyAt_3, sX8_keyAt_3n, sX8_keyAt_4, sX8_keyAt_7, sX8_keyAt_8, sX8_keyAt_12, sX8_keyAt_12n, sX8_keyAt_13, sX8_keyAt_16, sX8_keyAt_18, sX8_keyAt_19, sX8_keyAt_20, sX8_keyAt_21, sX8_keyAt_22, sX8_keyAt_23, sX8_keyAt_27, sX8_keyAt_30, sX8_keyAt_33, sX8_keyAt_34, pz_add, pz_mul, pz_neg, pz_sub, pz_lt, pz_le, pz_eq, pz_b0, pz_b1, pz_bb, pz_ix, Int.sub_zero, Int.zero_add, Int.add_zero, Int.mul_zero, mb_qk, mb_qx, if_true, if_false, true_or, or_true, false_or, or_false, and_true, true_and, and_false, false_and, not_true_eq_false, not_false_eq_true, ite_self, List.lookup, List.length_cons, List.length_nil, ite_not, pz_n0, pz_n1, pz_n2, pz_n3, pz_n4, pz_n5, pz_n6, pz_n7, pz_n8, pz_n10, pz_n12, pz_n39, pz_n40, pz_n80, pz_n99, pz_n100, pz_n999, pz_nm1, pz_nm999, pg_f, pg_l, pf_0, pf_1, pf_2, pf_3, pf_4, pf_5, pf_6, pf_7, pf_8, pf_9, pf_10, pf_11, pf_12, pf_13, pf_14, pf_15, pf_16, pf_17, pf_18, pf_19, pf_20, pf_21, pf_22, pf_23, pf_24, pf_25, pg_2, pg_3, pg_4, pg_5, pg_6, pg_7, pg_8, pg_10, pg_11, pg_12, pg_13, pg_14, pg_15, pg_16, pg_17, pg_18, pg_19, pg_22, pg_23, pg_24, pg_25, pu_0, pu_1, pu_2, pu_3, pu_4, pu_5, pu_6, pu_7, pu_8, pu_9, pu_10, pu_11, pu_12, pu_13, pu_14, pu_15, pu_16, pu_17, pu_18, pu_19, pu_20, pu_21, pu_22, pu_23, pu_24, pu_25]) | (simp (disch := first | assumption | omega | exact Nat.le_of_ble_eq_true rfl | (intro _; first | rfl | simp (disch := decide) only [pz_su_t])) only [sX8_keyAt_9, sX8_keyAt_24, pz_add, pz_mul, pz_neg, pz_sub, pz_lt, pz_le, pz_eq, pz_b0, pz_b1, pz_bb, pz_ix, Int.sub_zero, Int.zero_add, Int.add_zero, Int.mul_zero, mb_qk, mb_qx, if_true, if_false, true_or, or_true, false_or, or_false, and_true, true_and, and_false, false_and, not_true_eq_false, not_false_eq_true, ite_self, List.lookup, List.length_cons, List.length_nil, ite_not, pz_n0, pz_n1, pz_n2, pz_n3, pz_n4, pz_n5, pz_n6, pz_n7, pz_n8, pz_n10, pz_n12, pz_n39, pz_n40, pz_n80, pz_n99, pz_n100, pz_n999, pz_nm1, pz_nm999]; first | split | skip) | split)
    all_goals first | rfl | omega | ((try unfold pz_b); (repeat' split) <;> first | rfl | omega | (simp_all only []; done) | (exfalso; simp_all only [not_true_eq_false, not_false_eq_true]; omega) | skip)
  · intro j g1 g2
    show mb_Rn d 94 2 [some (.ref m), some (.int (iI B)), some (.int (iI f)), some (.int (iI (j)))] [] (pz_mp σ m T S) Q = if _ then _ else mb_Rn d 94 2 [some (.ref m), some (.int (iI B)), some (.int (iI f)), some (.int (iI (j + 1)))] [] (pz_mp σ m T S) Q
    have w6 := pw_6 hW (12 * B + j)
    rw [sX8_keyAt_2]
    repeat' (first | (simp (config := {maxSteps := 1000000}) (disch := first | assumption | omega | exact Nat.le_of_ble_eq_true rfl | (intro _; first | rfl | simp (disch := decide) only [pz_su_t])) only [sX8_keyAt_0, sX8_keyAt_1, sX8_keyAt_3, sX8_keyAt_3n, sX8_keyAt_4, sX8_keyAt_7, sX8_keyAt_8, sX8_keyAt_12, sX8_keyAt_12n, sX8_keyAt_13, sX8_keyAt_16, sX8_keyAt_18, sX8_keyAt_19, sX8_keyAt_20, sX8_keyAt_21, sX8_keyAt_22, sX8_keyAt_23, sX8_keyAt_27, sX8_keyAt_30, sX8_keyAt_33, sX8_keyAt_34, pz_add, pz_mul, pz_neg, pz_sub, pz_lt, pz_le, pz_eq, pz_b0, pz_b1, pz_bb, pz_ix, Int.sub_zero, Int.zero_add, Int.add_zero, Int.mul_zero, mb_qk, mb_qx, if_true, if_false, true_or, or_true, false_or, or_false, and_true, true_and, and_false, false_and, not_true_eq_false, not_false_eq_true, ite_self, List.lookup, List.length_cons, List.length_nil, ite_not, pz_n0, pz_n1, pz_n2, pz_n3, pz_n4, pz_n5, pz_n6, pz_n7, pz_n8, pz_n10, pz_n12, pz_n39, pz_n40, pz_n80, pz_n99, pz_n100, pz_n999, pz_nm1, pz_nm999, pg_f, pg_l, pf_0, pf_1, pf_2, pf_3, pf_4, pf_5, pf_6, pf_7, pf_8, pf_9, pf_10, pf_11, pf_12, pf_13, pf_14, pf_15, pf_16, pf_17, pf_18, pf_19, pf_20, pf_21, pf_22, pf_23, pf_24, pf_25, pg_2, pg_3, pg_4, pg_5, pg_6, pg_7, pg_8, pg_10, pg_11, pg_12, pg_13, pg_14, pg_15, pg_16, pg_17, pg_18, pg_19, pg_22, pg_23, pg_24, pg_25, pu_0, pu_1, pu_2, pu_3, pu_4, pu_5, pu_6, pu_7, pu_8, pu_9, pu_10, pu_11, pu_12, pu_13, pu_14, pu_15, pu_16, pu_17, pu_18, pu_19, pu_20, pu_21, pu_22, pu_23, pu_24, pu_25]) | (simp (disch := first | assumption | omega | exact Nat.le_of_ble_eq_true rfl | (intro _; first | rfl | simp (disch := decide) only [pz_su_t])) only [sX8_keyAt_9, sX8_keyAt_24, pz_add, pz_mul, pz_neg, pz_sub, pz_lt, pz_le, pz_eq, pz_b0, pz_b1, pz_bb, pz_ix, Int.sub_zero, Int.zero_add, Int.add_zero, Int.mul_zero, mb_qk, mb_qx, if_true, if_false, true_or, or_true, false_or, or_false, and_true, true_and, and_false, false_and, not_true_eq_false, not_false_eq_true, ite_self, List.lookup, List.length_cons, List.length_nil, ite_not, pz_n0, pz_n1, pz_n2, pz_n3, pz_n4, pz_n5, pz_n6, pz_n7, pz_n8, pz_n10, pz_n12, pz_n39, pz_n40, pz_n80, pz_n99, pz_n100, pz_n999, pz_nm1, pz_nm999]; first | split | skip) | split)
    all_goals first | rfl | omega | ((try unfold pz_b); (repeat' split) <;> first | rfl | omega | (simp_all only []; done) | (exfalso; simp_all only [not_true_eq_false, not_false_eq_true]; omega) | skip)
set_option maxRecDepth 20000 in
set_option maxHeartbeats 4000000 in
theorem pc_keyAt {d : Nat} {Q : mb_O → mb_S → Prop} {σ : mb_S} {m : Nat} {T : Int} {S : pz_S} {B f : Int} (hW : pz_W S) (hB0 : 0 ≤ B) (hB1 : B < 1040) (hf1 : -2147483648 ≤ f) (hf2 : f ≤ 2147483647) : mb_Ex d 94 [.ref m, .int (iI B), .int (iI f)] (pz_mp σ m T S) Q = Q (.inl (some (.int (iI (pz_kA S B f))))) (pz_mp σ m T S) := by
  show mb_Rn d 94 0 [some (.ref m), some (.int (iI B)), some (.int (iI f)), none] [] (pz_mp σ m T S) Q = _
  have w0 := pw_5 hW (B)
  repeat' (first | (simp (config := {maxSteps := 1000000}) (disch := first | assumption | omega | exact Nat.le_of_ble_eq_true rfl | (intro _; first | rfl | simp (disch := decide) only [pz_su_t])) only [sX8_keyAt_0, sX8_keyAt_1, sX8_keyAt_3, sX8_keyAt_3n, sX8_keyAt_4, sX8_keyAt_7, sX8_keyAt_8, sX8_keyAt_12, sX8_keyAt_12n, sX8_keyAt_13, sX8_keyAt_16, sX8_keyAt_18, sX8_keyAt_19, sX8_keyAt_20, sX8_keyAt_21, sX8_keyAt_22, sX8_keyAt_23, sX8_keyAt_27, sX8_keyAt_30, sX8_keyAt_33, sX8_keyAt_34, pz_add, pz_mul, pz_neg, pz_sub, pz_lt, pz_le, pz_eq, pz_b0, pz_b1, pz_bb, pz_ix, Int.sub_zero, Int.zero_add, Int.add_zero, Int.mul_zero, mb_qk, mb_qx, if_true, if_false, true_or, or_true, false_or, or_false, and_true, true_and, and_false, false_and, not_true_eq_false, not_false_eq_true, ite_self, List.lookup, List.length_cons, List.length_nil, ite_not, pz_n0, pz_n1, pz_n2, pz_n3, pz_n4, pz_n5, pz_n6, pz_n7, pz_n8, pz_n10, pz_n12, pz_n39, pz_n40, pz_n80, pz_n99, pz_n100, pz_n999, pz_nm1, pz_nm999, pg_f, pg_l, pf_0, pf_1, pf_2, pf_3, pf_4, pf_5, pf_6, pf_7, pf_8, pf_9, pf_10, pf_11, pf_12, pf_13, pf_14, pf_15, pf_16, pf_17, pf_18, pf_19, pf_20, pf_21, pf_22, pf_23, pf_24, pf_25, pg_2, pg_3, pg_4, pg_5, pg_6, pg_7, pg_8, pg_10, pg_11, pg_12, pg_13, pg_14, pg_15, pg_16, pg_17, pg_18, pg_19, pg_22, pg_23, pg_24, pg_25, pu_0, pu_1, pu_2, pu_3, pu_4, pu_5, pu_6, pu_7, pu_8, pu_9, pu_10, pu_11, pu_12, pu_13, pu_14, pu_15, pu_16, pu_17, pu_18, pu_19, pu_20, pu_21, pu_22, pu_23, pu_24, pu_25, pl_keyAt hW hB0 hB1, pz_kA]) | (simp (disch := first | assumption | omega | exact Nat.le_of_ble_eq_true rfl | (intro _; first | rfl | simp (disch := decide) only [pz_su_t])) only [sX8_keyAt_9, sX8_keyAt_24, pz_add, pz_mul, pz_neg, pz_sub, pz_lt, pz_le, pz_eq, pz_b0, pz_b1, pz_bb, pz_ix, Int.sub_zero, Int.zero_add, Int.add_zero, Int.mul_zero, mb_qk, mb_qx, if_true, if_false, true_or, or_true, false_or, or_false, and_true, true_and, and_false, false_and, not_true_eq_false, not_false_eq_true, ite_self, List.lookup, List.length_cons, List.length_nil, ite_not, pz_n0, pz_n1, pz_n2, pz_n3, pz_n4, pz_n5, pz_n6, pz_n7, pz_n8, pz_n10, pz_n12, pz_n39, pz_n40, pz_n80, pz_n99, pz_n100, pz_n999, pz_nm1, pz_nm999]; first | split | skip) | split)
  all_goals first | rfl | omega | ((try unfold pz_b); (repeat' split) <;> first | rfl | omega | (simp_all only []; done) | (exfalso; simp_all only [not_true_eq_false, not_false_eq_true]; omega) | skip)
theorem pz_kA_r {S : pz_S} (hW : pz_W S) (B f : Int) : 0 ≤ pz_kA S B f ∧ pz_kA S B f ≤ S 5 B := by
  have w := pw_5 hW B
  have g := pz_fd_ge (c := fun k => ¬ S 6 (12 * B + k) < f) (S 5 B).toNat 0
  unfold pz_kA
  omega
abbrev pz_iK (S : pz_S) (B f : Int) : Prop := pz_kA S B f < S 5 B ∧ S 6 (12 * B + pz_kA S B f) = f
set_option maxRecDepth 20000 in
set_option maxHeartbeats 4000000 in
theorem pc_isKeyAt {d : Nat} {Q : mb_O → mb_S → Prop} {σ : mb_S} {m : Nat} {T : Int} {S : pz_S} {B f : Int} (hW : pz_W S) (hd : 1 ≤ d) (hB0 : 0 ≤ B) (hB1 : B < 1040) (hf1 : -2147483648 ≤ f) (hf2 : f ≤ 2147483647) : mb_Ex d 95 [.ref m, .int (iI B), .int (iI f)] (pz_mp σ m T S) Q = Q (.inl (some (.int (iI (pz_b (pz_iK S B f)))))) (pz_mp σ m T S) := by
  show mb_Rn d 95 0 [some (.ref m), some (.int (iI B)), some (.int (iI f)), none] [] (pz_mp σ m T S) Q = _
  have w0 := pw_5 hW (B)
  have w1 := pw_6 hW (12 * B + pz_kA S B f)
  have w9 := pz_kA_r hW B f
  repeat' (first | (simp (config := {maxSteps := 1000000}) (disch := first | assumption | omega | exact Nat.le_of_ble_eq_true rfl | (intro _; first | rfl | simp (disch := decide) only [pz_su_t])) only [sX8_isKeyAt_0, sX8_isKeyAt_0n, sX8_isKeyAt_1, sX8_isKeyAt_2, sX8_isKeyAt_3, sX8_isKeyAt_6, sX8_isKeyAt_7, sX8_isKeyAt_8, sX8_isKeyAt_8n, sX8_isKeyAt_9, sX8_isKeyAt_12, sX8_isKeyAt_13, sX8_isKeyAt_17, sX8_isKeyAt_17n, sX8_isKeyAt_18, sX8_isKeyAt_21, sX8_isKeyAt_23, sX8_isKeyAt_24, sX8_isKeyAt_25, sX8_isKeyAt_26, sX8_isKeyAt_27, sX8_isKeyAt_28, sX8_isKeyAt_32, sX8_isKeyAt_33, sX8_isKeyAt_36, sX8_isKeyAt_37, pz_add, pz_mul, pz_neg, pz_sub, pz_lt, pz_le, pz_eq, pz_b0, pz_b1, pz_bb, pz_ix, Int.sub_zero, Int.zero_add, Int.add_zero, Int.mul_zero, mb_qk, mb_qx, if_true, if_false, true_or, or_true, false_or, or_false, and_true, true_and, and_false, false_and, not_true_eq_false, not_false_eq_true, ite_self, List.lookup, List.length_cons, List.length_nil, ite_not, pz_n0, pz_n1, pz_n2, pz_n3, pz_n4, pz_n5, pz_n6, pz_n7, pz_n8, pz_n10, pz_n12, pz_n39, pz_n40, pz_n80, pz_n99, pz_n100, pz_n999, pz_nm1, pz_nm999, pg_f, pg_l, pf_0, pf_1, pf_2, pf_3, pf_4, pf_5, pf_6, pf_7, pf_8, pf_9, pf_10, pf_11, pf_12, pf_13, pf_14, pf_15, pf_16, pf_17, pf_18, pf_19, pf_20, pf_21, pf_22, pf_23, pf_24, pf_25, pg_2, pg_3, pg_4, pg_5, pg_6, pg_7, pg_8, pg_10, pg_11, pg_12, pg_13, pg_14, pg_15, pg_16, pg_17, pg_18, pg_19, pg_22, pg_23, pg_24, pg_25, pu_0, pu_1, pu_2, pu_3, pu_4, pu_5, pu_6, pu_7, pu_8, pu_9, pu_10, pu_11, pu_12, pu_13, pu_14, pu_15, pu_16, pu_17, pu_18, pu_19, pu_20, pu_21, pu_22, pu_23, pu_24, pu_25, pc_keyAt hW hB0 hB1, pz_iK]) | (simp (disch := first | assumption | omega | exact Nat.le_of_ble_eq_true rfl | (intro _; first | rfl | simp (disch := decide) only [pz_su_t])) only [sX8_isKeyAt_14, sX8_isKeyAt_29, pz_add, pz_mul, pz_neg, pz_sub, pz_lt, pz_le, pz_eq, pz_b0, pz_b1, pz_bb, pz_ix, Int.sub_zero, Int.zero_add, Int.add_zero, Int.mul_zero, mb_qk, mb_qx, if_true, if_false, true_or, or_true, false_or, or_false, and_true, true_and, and_false, false_and, not_true_eq_false, not_false_eq_true, ite_self, List.lookup, List.length_cons, List.length_nil, ite_not, pz_n0, pz_n1, pz_n2, pz_n3, pz_n4, pz_n5, pz_n6, pz_n7, pz_n8, pz_n10, pz_n12, pz_n39, pz_n40, pz_n80, pz_n99, pz_n100, pz_n999, pz_nm1, pz_nm999]; first | split | skip) | split)
  all_goals first | rfl | omega | ((try unfold pz_b); (repeat' split) <;> first | rfl | omega | (simp_all only []; done) | (exfalso; simp_all only [not_true_eq_false, not_false_eq_true]; omega) | skip)
set_option maxRecDepth 20000 in
theorem pc_down {d : Nat} {Q : mb_O → mb_S → Prop} {σ : mb_S} {v b : Int} (hv1 : -1000000000 ≤ v) (hv2 : v ≤ 1000000000) (hb1 : 1 ≤ b) (hb2 : b ≤ 1000000000) : mb_Ex d 96 [.int (iI v), .int (iI b)] σ Q = Q (.inl (some (.int (iI (v / b))))) σ := by
  show mb_Rn d 96 0 [some (.int (iI v)), some (.int (iI b))] [] σ Q = _
  have hz : (b = 0) = False := eq_false (by omega)
  by_cases hv : v < 0
  · have hv0 : (0 ≤ v) = False := eq_false (by omega)
    simp (config := {maxSteps := 1000000}) (disch := first | assumption | omega | exact Nat.le_of_ble_eq_true rfl | (intro _; first | rfl | simp (disch := decide) only [pz_su_t])) only [sX8_down_0, sX8_down_1, sX8_down_4, sX8_down_5, sX8_down_6, sX8_down_7, sX8_down_8, sX8_down_9, sX8_down_10, sX8_down_11, sX8_down_12, sX8_down_13, sX8_down_16, sX8_down_17, sX8_down_18, sX8_down_19, pz_add, pz_mul, pz_neg, pz_sub, pz_lt, pz_le, pz_eq, pz_b0, pz_b1, pz_bb, pz_ix, Int.sub_zero, Int.zero_add, Int.add_zero, Int.mul_zero, mb_qk, mb_qx, if_true, if_false, true_or, or_true, false_or, or_false, and_true, true_and, and_false, false_and, not_true_eq_false, not_false_eq_true, ite_self, List.lookup, List.length_cons, List.length_nil, ite_not, pz_n0, pz_n1, pz_n2, pz_n3, pz_n4, pz_n5, pz_n6, pz_n7, pz_n8, pz_n10, pz_n12, pz_n39, pz_n40, pz_n80, pz_n99, pz_n100, pz_n999, pz_nm1, pz_nm999, pz_tdiv, hz, hv0, pz_dn hv hb1]
  · have hv0 : (0 ≤ v) = True := eq_true (by omega)
    simp (config := {maxSteps := 1000000}) (disch := first | assumption | omega | exact Nat.le_of_ble_eq_true rfl | (intro _; first | rfl | simp (disch := decide) only [pz_su_t])) only [sX8_down_0, sX8_down_1, sX8_down_4, sX8_down_5, sX8_down_6, sX8_down_7, sX8_down_8, sX8_down_9, sX8_down_10, sX8_down_11, sX8_down_12, sX8_down_13, sX8_down_16, sX8_down_17, sX8_down_18, sX8_down_19, pz_add, pz_mul, pz_neg, pz_sub, pz_lt, pz_le, pz_eq, pz_b0, pz_b1, pz_bb, pz_ix, Int.sub_zero, Int.zero_add, Int.add_zero, Int.mul_zero, mb_qk, mb_qx, if_true, if_false, true_or, or_true, false_or, or_false, and_true, true_and, and_false, false_and, not_true_eq_false, not_false_eq_true, ite_self, List.lookup, List.length_cons, List.length_nil, ite_not, pz_n0, pz_n1, pz_n2, pz_n3, pz_n4, pz_n5, pz_n6, pz_n7, pz_n8, pz_n10, pz_n12, pz_n39, pz_n40, pz_n80, pz_n99, pz_n100, pz_n999, pz_nm1, pz_nm999, pz_tdiv, hz, hv0]
    rw [Int.tdiv_eq_ediv_of_nonneg (by omega)]
