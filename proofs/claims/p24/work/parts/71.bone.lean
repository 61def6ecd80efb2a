/-! cells made: the whole class with more cells; bone and asset of the class -/
section
variable {σ σ' : mb_S} {S S' : pz_S} {ad ad' : rz_A} {Fo : Nat → Prop}
theorem rz_dpa (hW : pz_W S) (had : ∀ t i, rz_lv S t i → ad' t i = ad t i) : ∀ (t : Nat) {i : Int}, rz_dp S S' ad ad t i → rz_lv S t i → rz_dp S S' ad ad' t i :=
  rz_tag (P := fun t => ∀ {i : Int}, rz_dp S S' ad ad t i → rz_lv S t i → rz_dp S S' ad ad' t i) (fun {i} h hl => ⟨h.1, had 1 0 rfl, had 2 0 rfl, had 3 0 rfl⟩) (fun {i} h hl => ⟨h.1, fun a a1 a2 => had 4 a ⟨a1, a2⟩⟩) (fun {i} h hl => ⟨h.1, fun a a1 a2 => had 14 a ⟨a1, a2⟩⟩) (fun {i} h hl => ⟨h.1, fun a a1 a2 => had 20 a ⟨a1, a2⟩⟩) (fun {i} h hl => ⟨h.1, had 6 i (rz_rlD hW hl.1 hl.2), had 5 i hl⟩) (fun {i} h hl => ⟨h.1, fun v v1 v2 => had 6 _ (rz_rlV hW hl.1 hl.2 v1 v2)⟩) (fun {i} h hl => ⟨h.1, had 7 i hl, had 8 i hl, fun k => had 9 i ⟨hl, k⟩⟩) (fun {i} h hl => h) (fun {i} h hl => ⟨h.1, fun b b1 b2 => had 10 _ (rz_lc hW hl b1 b2)⟩) (fun {i} h hl => h) (fun {i} h hl => ⟨h.1, had 11 i hl, had 12 i hl, had 13 i hl⟩) (fun {i} h hl => h) (fun {i} h hl => h) (fun {i} h hl => h) (fun {i} h hl => ⟨h.1, h.2.1, had 15 i hl, had 16 i hl⟩) (fun {i} h hl => ⟨h.1, fun f f1 f2 => had 17 _ (rz_lf hW hl.1 hl.2 f1 f2)⟩) (fun {i} h hl => fun a a1 a2 => ⟨(h a a1 a2).1, fun k => had 19 _ (rz_la hl.1 hl.2 a1 a2 k)⟩) (fun {i} h hl => ⟨h.1, h.2.1, had 18 i hl⟩) (fun {i} h hl => h) (fun {i} h hl => h) (fun {i} h hl => h) (fun t {i} h hl => True.intro)
theorem rz_g2 (hW : pz_W S) (h : rz_R σ S ad Fo) (hn : σ.2.1 ≤ σ'.2.1) (nw : Nat → Int → Prop) (ch ts : List Nat) (hS : ∀ x, x ∉ ch → S' x = S x) (had : ∀ t i, rz_lv S t i → ad' t i = ad t i) (hlv : ∀ t i, rz_lv S' t i → rz_lv S t i ∨ nw t i) (hds : ∀ t, t ∉ ts → ∀ x ∈ rz_ds t, x ∉ ch) (hag : ∀ t i, rz_lv S t i → t ∉ ts → σ'.1 (ad t i) = σ.1 (ad t i)) (hc : ∀ t i, t ∈ ts → rz_lv S' t i → rz_lv S t i → (σ'.1 (ad t i) = σ.1 (ad t i) ∧ rz_dp S S' ad ad t i) ∨ ∃ e, σ'.1 (ad t i) = some e ∧ rz_cp S' ad' t i e) (hnew : ∀ t i, nw t i → σ.2.1 ≤ ad' t i ∧ ad' t i < σ'.2.1 ∧ ∃ e, σ'.1 (ad' t i) = some e ∧ rz_cp S' ad' t i e) (hinj : ∀ t i t' i', nw t i → nw t' i' → ad' t i = ad' t' i' → t = t' ∧ i = i') : rz_R σ' S' ad' Fo := by
  have lt : ∀ t i, rz_lv S t i → ad' t i < σ.2.1 := fun t i hl => by rw [had t i hl]; exact (h.1 t i hl).2.1
  refine rz_g h hn (fun _ i => i) (fun t i hl' => ?_) (fun t i i' _ _ e => e) (fun t i t' i' hl hl' g e => ?_)
  · cases hlv t i hl' with
    | inr k => exact ⟨(hnew t i k).2.2, Or.inr ⟨(hnew t i k).1, (hnew t i k).2.1⟩⟩
    | inl k =>
      refine ⟨?_, Or.inl ⟨k, had t i k⟩⟩
      by_cases hm : t ∈ ts
      · cases hc t i hm hl' k with
        | inl c => exact rz_k h k (had t i k) c.1 (rz_dpa hW had t c.2 k)
        | inr c => rw [had t i k]; exact c
      · exact rz_k h k (had t i k) (hag t i k hm) (rz_dpa hW had t (rz_dss t (fun x hx => hS x (hds t hm x hx))) k)
  · cases hlv t i hl with
    | inl k => have := lt t i k; omega
    | inr k =>
      cases hlv t' i' hl' with
      | inl k' => have := lt t' i' k'; omega
      | inr k' => exact hinj t i t' i' k k' e
/-- what isn't born yet is 0 -/
def rz_J (S : pz_S) : Prop := ((∀ a : Int, S 1 0 ≤ a → a < 8 → S 2 a = 0 ∧ S 3 a = 0) ∧ ∀ a v : Int, 0 ≤ a → a < 8 → S 2 a ≤ v → v < 12 → S 3 (8 + 12 * a + v) = 0) ∧ (∀ r b : Int, 0 ≤ r → r < 104 → S 3 r ≤ b → b < 10 → S 4 (10 * r + b) = 0 ∧ S 5 (10 * r + b) = 0 ∧ ∀ k : Int, 0 ≤ k → k < 12 → S 6 (12 * (10 * r + b) + k) = 0 ∧ S 7 (12 * (10 * r + b) + k) = 0 ∧ S 8 (12 * (10 * r + b) + k) = 0) ∧ (∀ s : Int, S 9 0 ≤ s → s < 8 → (∀ f : Int, 0 ≤ f → f < 40 → S 16 (40 * s + f) = 0) ∧ ∀ a : Int, 0 ≤ a → a < 8 → S 11 (8 * s + a) = 0) ∧ ∀ n : Int, S 21 0 ≤ n → n < 40 → S 24 n = 0 ∧ S 25 n = 0
theorem rz_zAi {a n : Nat} {F : Int → Int} (h : σ.1 a = some (.inl (0, n, .inl (fun _ => 0)))) (hF : ∀ k : Int, 0 ≤ k → k < n → F k = 0) : ∃ e, σ.1 a = some e ∧ rz_ai e n F := ⟨_, h, _, rfl, fun k k1 k2 => by rw [hF k k1 k2]; rfl⟩
set_option maxRecDepth 20000 in
set_option maxHeartbeats 4000000 in
theorem fc_bone1 {a p : Int} (hW : pz_W S) (h : rz_R σ S ad Fo) (ha1 : -2147483648 ≤ a) (ha2 : a ≤ 2147483647) (hp1 : -2147483648 ≤ p) (hp2 : p ≤ 2147483647) (c : ¬ (0 ≤ a ∧ a ≤ S 1 0 - 1)) : ∀ (d : Nat) (Q : mb_O → mb_S → Prop), 9 ≤ d → mb_Ex d 42 [.ref (ad 0 0), .int (iI a), .int (iI p)] σ Q = Q (.inr 2) (mb_th σ) := by
  have hat : ∀ (d : Nat) (Q : mb_O → mb_S → Prop), mb_Ex d 62 [.ref (ad 0 0), .int (iI a)] σ Q = Q (.inl (some .null)) σ := fun d Q => (pc_assetAt hW (rz_C hW h) ha1 ha2).trans (if_neg c)
  have e0 := rz_geq h (t := 0) (i := 0) rfl (fun _ k => k)
  intro d Q hd
  show mb_Rn d 42 0 [some (.ref (ad 0 0)), some (.int (iI a)), some (.int (iI p)), none] [] σ Q = _
  repeat' (first | (simp (config := {maxSteps := 1000000}) (disch := first | assumption | omega | exact Nat.le_of_ble_eq_true rfl | (intro _; first | rfl | simp (disch := decide) only [pz_su_t])) only [sX7_bone_0, sX7_bone_0n, sX7_bone_1, sX7_bone_2, sX7_bone_5, sX7_bone_5n, sX7_bone_6, sX7_bone_6n, sX7_bone_7, sX7_bone_7n, sX7_bone_10, sX7_bone_11, sX7_bone_15, sX7_bone_15n, sX7_bone_16, sX7_bone_19, sX7_bone_20, sX7_bone_26, sX7_bone_36, sX7_bone_36n, sX7_bone_37, sX7_bone_40, sX7_bone_43, sX7_bone_48, sX7_bone_58, sX7_bone_58n, sX7_bone_59, sX7_bone_62, sX7_bone_63, sX7_bone_66, pz_add, pz_mul, pz_neg, pz_sub, pz_lt, pz_le, pz_eq, pz_b0, pz_b1, pz_bb, pz_ix, Int.sub_zero, Int.zero_add, Int.add_zero, Int.mul_zero, mb_qk, mb_qx, if_true, if_false, true_or, or_true, false_or, or_false, and_true, true_and, and_false, false_and, not_true_eq_false, not_false_eq_true, ite_self, List.lookup, List.length_cons, List.length_nil, ite_not, Nat.reduceAdd, Int.reduceEq, Int.reduceLT, Int.reduceLE, pz_n0, pz_n1, pz_n2, pz_n3, pz_n4, pz_n5, pz_n6, pz_n7, pz_n8, pz_n10, pz_n12, pz_n39, pz_n40, pz_n80, pz_n99, pz_n100, pz_n999, pz_nm1, pz_nm999, hat, pz_gf e0]) | (simp (disch := first | assumption | omega | exact Nat.le_of_ble_eq_true rfl | (intro _; first | rfl | simp (disch := decide) only [pz_su_t])) only [sX7_bone_12, sX7_bone_23, sX7_bone_45, pz_add, pz_mul, pz_neg, pz_sub, pz_lt, pz_le, pz_eq, pz_b0, pz_b1, pz_bb, pz_ix, Int.sub_zero, Int.zero_add, Int.add_zero, Int.mul_zero, mb_qk, mb_qx, if_true, if_false, true_or, or_true, false_or, or_false, and_true, true_and, and_false, false_and, not_true_eq_false, not_false_eq_true, ite_self, List.lookup, List.length_cons, List.length_nil, ite_not, Nat.reduceAdd, Int.reduceEq, Int.reduceLT, Int.reduceLE, pz_n0, pz_n1, pz_n2, pz_n3, pz_n4, pz_n5, pz_n6, pz_n7, pz_n8, pz_n10, pz_n12, pz_n39, pz_n40, pz_n80, pz_n99, pz_n100, pz_n999, pz_nm1, pz_nm999]; first | split | skip) | split)
  all_goals first | rfl | omega | ((try unfold pz_b); (repeat' split) <;> first | rfl | omega | (simp_all only []; done) | (exfalso; simp_all only [not_true_eq_false, not_false_eq_true]; omega) | skip)
set_option maxRecDepth 20000 in
set_option maxHeartbeats 4000000 in
theorem fc_bone2 {a p : Int} (hW : pz_W S) (h : rz_R σ S ad Fo) (ha1 : -2147483648 ≤ a) (ha2 : a ≤ 2147483647) (hp1 : -2147483648 ≤ p) (hp2 : p ≤ 2147483647) (c : 0 ≤ a ∧ a ≤ S 1 0 - 1) (c2 : ¬ (p = -1 ∨ (0 ≤ p ∧ p ≤ S 3 a - 1))) : ∀ (d : Nat) (Q : mb_O → mb_S → Prop), 9 ≤ d → mb_Ex d 42 [.ref (ad 0 0), .int (iI a), .int (iI p)] σ Q = Q (.inr 2) (mb_th σ) := by
  have hat : ∀ (d : Nat) (Q : mb_O → mb_S → Prop), mb_Ex d 62 [.ref (ad 0 0), .int (iI a)] σ Q = Q (.inl (some (.ref (ad 4 a)))) σ := fun d Q => (pc_assetAt hW (rz_C hW h) ha1 ha2).trans (if_pos c)
  have e0 := rz_geq h (t := 0) (i := 0) rfl (fun _ k => k)
  have la : rz_lv S 4 a := ⟨c.1, by omega⟩
  have hA := rz_As hW h c.1 (show a < S 1 0 by omega)
  have eA := hA.1
  have hR := hA.2.1
  have eR := hR.1
  have g1 : (p = -1) = False := eq_false (fun g => c2 (Or.inl g))
  have g2 : ¬ (0 ≤ p ∧ p ≤ S 3 a - 1) := fun g => c2 (Or.inr g)
  intro d Q hd
  show mb_Rn d 42 0 [some (.ref (ad 0 0)), some (.int (iI a)), some (.int (iI p)), none] [] σ Q = _
  repeat' (first | (simp (config := {maxSteps := 1000000}) (disch := first | assumption | omega | exact Nat.le_of_ble_eq_true rfl | (intro _; first | rfl | simp (disch := decide) only [pz_su_t])) only [sX7_bone_0, sX7_bone_0n, sX7_bone_1, sX7_bone_2, sX7_bone_5, sX7_bone_5n, sX7_bone_6, sX7_bone_6n, sX7_bone_7, sX7_bone_7n, sX7_bone_10, sX7_bone_11, sX7_bone_15, sX7_bone_15n, sX7_bone_16, sX7_bone_19, sX7_bone_20, sX7_bone_26, sX7_bone_36, sX7_bone_36n, sX7_bone_37, sX7_bone_40, sX7_bone_43, sX7_bone_48, sX7_bone_58, sX7_bone_58n, sX7_bone_59, sX7_bone_62, sX7_bone_63, sX7_bone_66, pz_add, pz_mul, pz_neg, pz_sub, pz_lt, pz_le, pz_eq, pz_b0, pz_b1, pz_bb, pz_ix, Int.sub_zero, Int.zero_add, Int.add_zero, Int.mul_zero, mb_qk, mb_qx, if_true, if_false, true_or, or_true, false_or, or_false, and_true, true_and, and_false, false_and, not_true_eq_false, not_false_eq_true, ite_self, List.lookup, List.length_cons, List.length_nil, ite_not, Nat.reduceAdd, Int.reduceEq, Int.reduceLT, Int.reduceLE, pz_n0, pz_n1, pz_n2, pz_n3, pz_n4, pz_n5, pz_n6, pz_n7, pz_n8, pz_n10, pz_n12, pz_n39, pz_n40, pz_n80, pz_n99, pz_n100, pz_n999, pz_nm1, pz_nm999, hat, g1, pc_hasBone hW hR, pz_bf g2, pz_gf e0, pz_gf eA, pz_gf eR, List.getD_cons_zero, List.getD_cons_succ]) | (simp (disch := first | assumption | omega | exact Nat.le_of_ble_eq_true rfl | (intro _; first | rfl | simp (disch := decide) only [pz_su_t])) only [sX7_bone_12, sX7_bone_23, sX7_bone_45, pz_add, pz_mul, pz_neg, pz_sub, pz_lt, pz_le, pz_eq, pz_b0, pz_b1, pz_bb, pz_ix, Int.sub_zero, Int.zero_add, Int.add_zero, Int.mul_zero, mb_qk, mb_qx, if_true, if_false, true_or, or_true, false_or, or_false, and_true, true_and, and_false, false_and, not_true_eq_false, not_false_eq_true, ite_self, List.lookup, List.length_cons, List.length_nil, ite_not, Nat.reduceAdd, Int.reduceEq, Int.reduceLT, Int.reduceLE, pz_n0, pz_n1, pz_n2, pz_n3, pz_n4, pz_n5, pz_n6, pz_n7, pz_n8, pz_n10, pz_n12, pz_n39, pz_n40, pz_n80, pz_n99, pz_n100, pz_n999, pz_nm1, pz_nm999]; first | split | skip) | split)
  all_goals first | rfl | omega | ((try unfold pz_b); (repeat' split) <;> first | rfl | omega | (simp_all only []; done) | (exfalso; simp_all only [not_true_eq_false, not_false_eq_true]; omega) | skip)
set_option maxRecDepth 20000 in
set_option maxHeartbeats 4000000 in
theorem fc_bone3 {a p : Int} (hW : pz_W S) (h : rz_R σ S ad Fo) (ha1 : -2147483648 ≤ a) (ha2 : a ≤ 2147483647) (hp1 : -2147483648 ≤ p) (hp2 : p ≤ 2147483647) (c : 0 ≤ a ∧ a ≤ S 1 0 - 1) (c2 : p = -1 ∨ (0 ≤ p ∧ p ≤ S 3 a - 1)) (c3 : S 3 a = 10) : ∀ (d : Nat) (Q : mb_O → mb_S → Prop), 9 ≤ d → mb_Ex d 42 [.ref (ad 0 0), .int (iI a), .int (iI p)] σ Q = Q (.inr 0) (mb_th σ) := by
  have hat : ∀ (d : Nat) (Q : mb_O → mb_S → Prop), mb_Ex d 62 [.ref (ad 0 0), .int (iI a)] σ Q = Q (.inl (some (.ref (ad 4 a)))) σ := fun d Q => (pc_assetAt hW (rz_C hW h) ha1 ha2).trans (if_pos c)
  have e0 := rz_geq h (t := 0) (i := 0) rfl (fun _ k => k)
  have la : rz_lv S 4 a := ⟨c.1, by omega⟩
  have hA := rz_As hW h c.1 (show a < S 1 0 by omega)
  have eA := hA.1
  have hR := hA.2.1
  have eR := hR.1
  have w3 := pw_3 hW a
  have g2 : p = -1 ∨ (¬ p = -1 ∧ 0 ≤ p ∧ p ≤ S 3 a - 1) := by omega
  intro d Q hd
  show mb_Rn d 42 0 [some (.ref (ad 0 0)), some (.int (iI a)), some (.int (iI p)), none] [] σ Q = _
  rcases g2 with g | ⟨g, g3⟩
  · have g1 : (p = -1) = True := eq_true g
    repeat' (first | (simp (config := {maxSteps := 1000000}) (disch := first | assumption | omega | exact Nat.le_of_ble_eq_true rfl | (intro _; first | rfl | simp (disch := decide) only [pz_su_t])) only [sX7_bone_0, sX7_bone_0n, sX7_bone_1, sX7_bone_2, sX7_bone_5, sX7_bone_5n, sX7_bone_6, sX7_bone_6n, sX7_bone_7, sX7_bone_7n, sX7_bone_10, sX7_bone_11, sX7_bone_15, sX7_bone_15n, sX7_bone_16, sX7_bone_19, sX7_bone_20, sX7_bone_26, sX7_bone_36, sX7_bone_36n, sX7_bone_37, sX7_bone_40, sX7_bone_43, sX7_bone_48, sX7_bone_58, sX7_bone_58n, sX7_bone_59, sX7_bone_62, sX7_bone_63, sX7_bone_66, pz_add, pz_mul, pz_neg, pz_sub, pz_lt, pz_le, pz_eq, pz_b0, pz_b1, pz_bb, pz_ix, Int.sub_zero, Int.zero_add, Int.add_zero, Int.mul_zero, mb_qk, mb_qx, if_true, if_false, true_or, or_true, false_or, or_false, and_true, true_and, and_false, false_and, not_true_eq_false, not_false_eq_true, ite_self, List.lookup, List.length_cons, List.length_nil, ite_not, Nat.reduceAdd, Int.reduceEq, Int.reduceLT, Int.reduceLE, pz_n0, pz_n1, pz_n2, pz_n3, pz_n4, pz_n5, pz_n6, pz_n7, pz_n8, pz_n10, pz_n12, pz_n39, pz_n40, pz_n80, pz_n99, pz_n100, pz_n999, pz_nm1, pz_nm999, hat, g1, pz_gf e0, pz_gf eA, pz_gf eR, List.getD_cons_zero, List.getD_cons_succ]) | (simp (disch := first | assumption | omega | exact Nat.le_of_ble_eq_true rfl | (intro _; first | rfl | simp (disch := decide) only [pz_su_t])) only [sX7_bone_12, sX7_bone_23, sX7_bone_45, pz_add, pz_mul, pz_neg, pz_sub, pz_lt, pz_le, pz_eq, pz_b0, pz_b1, pz_bb, pz_ix, Int.sub_zero, Int.zero_add, Int.add_zero, Int.mul_zero, mb_qk, mb_qx, if_true, if_false, true_or, or_true, false_or, or_false, and_true, true_and, and_false, false_and, not_true_eq_false, not_false_eq_true, ite_self, List.lookup, List.length_cons, List.length_nil, ite_not, Nat.reduceAdd, Int.reduceEq, Int.reduceLT, Int.reduceLE, pz_n0, pz_n1, pz_n2, pz_n3, pz_n4, pz_n5, pz_n6, pz_n7, pz_n8, pz_n10, pz_n12, pz_n39, pz_n40, pz_n80, pz_n99, pz_n100, pz_n999, pz_nm1, pz_nm999]; first | split | skip) | split)
    all_goals first | rfl | omega | ((try unfold pz_b); (repeat' split) <;> first | rfl | omega | (simp_all only []; done) | (exfalso; simp_all only [not_true_eq_false, not_false_eq_true]; omega) | skip)
  · have g1 : (p = -1) = False := eq_false g
    repeat' (first | (simp (config := {maxSteps := 1000000}) (disch := first | assumption | omega | exact Nat.le_of_ble_eq_true rfl | (intro _; first | rfl | simp (disch := decide) only [pz_su_t])) only [sX7_bone_0, sX7_bone_0n, sX7_bone_1, sX7_bone_2, sX7_bone_5, sX7_bone_5n, sX7_bone_6, sX7_bone_6n, sX7_bone_7, sX7_bone_7n, sX7_bone_10, sX7_bone_11, sX7_bone_15, sX7_bone_15n, sX7_bone_16, sX7_bone_19, sX7_bone_20, sX7_bone_26, sX7_bone_36, sX7_bone_36n, sX7_bone_37, sX7_bone_40, sX7_bone_43, sX7_bone_48, sX7_bone_58, sX7_bone_58n, sX7_bone_59, sX7_bone_62, sX7_bone_63, sX7_bone_66, pz_add, pz_mul, pz_neg, pz_sub, pz_lt, pz_le, pz_eq, pz_b0, pz_b1, pz_bb, pz_ix, Int.sub_zero, Int.zero_add, Int.add_zero, Int.mul_zero, mb_qk, mb_qx, if_true, if_false, true_or, or_true, false_or, or_false, and_true, true_and, and_false, false_and, not_true_eq_false, not_false_eq_true, ite_self, List.lookup, List.length_cons, List.length_nil, ite_not, Nat.reduceAdd, Int.reduceEq, Int.reduceLT, Int.reduceLE, pz_n0, pz_n1, pz_n2, pz_n3, pz_n4, pz_n5, pz_n6, pz_n7, pz_n8, pz_n10, pz_n12, pz_n39, pz_n40, pz_n80, pz_n99, pz_n100, pz_n999, pz_nm1, pz_nm999, hat, g1, pc_hasBone hW hR, pz_bt g3, pz_gf e0, pz_gf eA, pz_gf eR, List.getD_cons_zero, List.getD_cons_succ]) | (simp (disch := first | assumption | omega | exact Nat.le_of_ble_eq_true rfl | (intro _; first | rfl | simp (disch := decide) only [pz_su_t])) only [sX7_bone_12, sX7_bone_23, sX7_bone_45, pz_add, pz_mul, pz_neg, pz_sub, pz_lt, pz_le, pz_eq, pz_b0, pz_b1, pz_bb, pz_ix, Int.sub_zero, Int.zero_add, Int.add_zero, Int.mul_zero, mb_qk, mb_qx, if_true, if_false, true_or, or_true, false_or, or_false, and_true, true_and, and_false, false_and, not_true_eq_false, not_false_eq_true, ite_self, List.lookup, List.length_cons, List.length_nil, ite_not, Nat.reduceAdd, Int.reduceEq, Int.reduceLT, Int.reduceLE, pz_n0, pz_n1, pz_n2, pz_n3, pz_n4, pz_n5, pz_n6, pz_n7, pz_n8, pz_n10, pz_n12, pz_n39, pz_n40, pz_n80, pz_n99, pz_n100, pz_n999, pz_nm1, pz_nm999]; first | split | skip) | split)
    all_goals first | rfl | omega | ((try unfold pz_b); (repeat' split) <;> first | rfl | omega | (simp_all only []; done) | (exfalso; simp_all only [not_true_eq_false, not_false_eq_true]; omega) | skip)
set_option maxRecDepth 20000 in
set_option maxHeartbeats 4000000 in
theorem fc_bone {a p : Int} (hW : pz_W S) (h : rz_R σ S ad Fo) (ha1 : -2147483648 ≤ a) (ha2 : a ≤ 2147483647) (hp1 : -2147483648 ≤ p) (hp2 : p ≤ 2147483647) (hJ : rz_J S) (c : 0 ≤ a ∧ a ≤ S 1 0 - 1) (c2 : p = -1 ∨ (0 ≤ p ∧ p ≤ S 3 a - 1)) (c3 : ¬ S 3 a = 10) : ∃ σ' ad', ad' 0 0 = ad 0 0 ∧ rz_R σ' (pz_su (pz_su S 4 (10 * a + S 3 a) p) 3 a (S 3 a + 1)) ad' Fo ∧ rz_F Fo σ σ' ∧ ∀ (d : Nat) (Q : mb_O → mb_S → Prop), 9 ≤ d → mb_Ex d 42 [.ref (ad 0 0), .int (iI a), .int (iI p)] σ Q = Q (.inl (some (.int (iI (S 3 a))))) σ' := by
  have hat : ∀ (d : Nat) (Q : mb_O → mb_S → Prop), mb_Ex d 62 [.ref (ad 0 0), .int (iI a)] σ Q = Q (.inl (some (.ref (ad 4 a)))) σ := fun d Q => (pc_assetAt hW (rz_C hW h) ha1 ha2).trans (if_pos c)
  have e0 := rz_geq h (t := 0) (i := 0) rfl (fun _ k => k)
  have la : rz_lv S 4 a := ⟨c.1, by omega⟩
  have hA := rz_As hW h c.1 (show a < S 1 0 by omega)
  have eA := hA.1
  have hR := hA.2.1
  have eR := hR.1
  have w3 := pw_3 hW a
  have g2 : p = -1 ∨ (¬ p = -1 ∧ 0 ≤ p ∧ p ≤ S 3 a - 1) := by omega
  have w1 := pw_1 hW 0
  have hr := rz_rlD hW c.1 (show a < S 1 0 by omega)
  have n67 : ad 6 a ≠ ad 7 a := rz_ne h (t := 6) (t' := 7) hr hr (by omega)
  have n68 : ad 6 a ≠ ad 8 a := rz_ne h (t := 6) (t' := 8) hr hr (by omega)
  have n87 : ad 8 a ≠ ad 7 a := rz_ne h (t := 8) (t' := 7) hr hr (by omega)
  have l6 := (h.1 6 a hr).2
  have l7 := (h.1 7 a hr).2
  have l8 := (h.1 8 a hr).2
  obtain ⟨_, ⟨g1, e1, e2⟩, ⟨g2', e3, e4⟩⟩ := rz_Rg hW h hr
  rw [if_pos (show a < 8 by omega)] at *
  have e4' : ∀ b : Int, 0 ≤ b → b < S 3 a → g2' (iI b).toNatClampNeg = some (ad 10 (10 * a + b)) := fun b b1 b2 => (e4 b b1 b2).1
  obtain ⟨σ1, ⟨a1, a2, a3⟩, ⟨b1, b2, b3, b4⟩, hst, ⟨m1, m2⟩, he⟩ := wc_addBone (v := p) eR e1 e3 n67 n68 n87 l6.1 l7.1 l8.1 w3.1 (by omega)
  have hJ2 := hJ.2.1 a (S 3 a) c.1 (by omega) (Int.le_refl _) (by omega)
  obtain ⟨ad', adE⟩ : ∃ ad' : rz_A, ad' = (fun t i => if (10 ≤ t ∧ t ≤ 13) ∧ i = 10 * a + S 3 a then σ.2.1 + (t - 10) else ad t i) := ⟨_, rfl⟩
  have adn : ∀ t, 10 ≤ t → t ≤ 13 → ad' t (10 * a + S 3 a) = σ.2.1 + (t - 10) := fun t t1 t2 => by rw [adE]; exact if_pos ⟨⟨t1, t2⟩, rfl⟩
  have ado : ∀ t i, ¬ ((10 ≤ t ∧ t ≤ 13) ∧ i = 10 * a + S 3 a) → ad' t i = ad t i := fun t i k => by rw [adE]; exact if_neg k
  have had : ∀ t i, rz_lv S t i → ad' t i = ad t i := fun t i hl => ado t i (fun k => by
    have : rz_lv S 10 i := by
      obtain ⟨⟨k1, k2⟩, _⟩ := k
      rcases (show t = 10 ∨ t = 11 ∨ t = 12 ∨ t = 13 by omega) with e | e | e | e <;> subst e <;> exact hl
    have e9 := k.2
    subst e9
    have := this.2
    have q1 : (10 * a + S 3 a) / 10 = a := by omega
    have q2 : (10 * a + S 3 a) % 10 = S 3 a := by omega
    rw [q1, q2] at this
    omega)
  have ag : ∀ t i, rz_lv S t i → (t ∉ [6, 7, 8] ∨ i ≠ a) → σ1.1 (ad t i) = σ.1 (ad t i) := fun t i hl k => hst _ (h.1 t i hl).2.1 (rz_ne h hl (t' := 6) hr (fun g => k.elim (fun k => k (by rw [g.1]; decide)) (fun k => k g.2))) (rz_ne h hl (t' := 7) hr (fun g => k.elim (fun k => k (by rw [g.1]; decide)) (fun k => k g.2))) (rz_ne h hl (t' := 8) hr (fun g => k.elim (fun k => k (by rw [g.1]; decide)) (fun k => k g.2)))
  have hS : ∀ x, x ∉ [3, 4] → pz_su (pz_su S 4 (10 * a + S 3 a) p) 3 a (S 3 a + 1) x = S x := fun x hx => by rw [pz_su_t (fun e => hx (by rw [e]; decide)), pz_su_t (fun e => hx (by rw [e]; decide))]
  have s3 : ∀ r, (pz_su (pz_su S 4 (10 * a + S 3 a) p) 3 a (S 3 a + 1)) 3 r = if r = a then S 3 a + 1 else S 3 r := fun r => by rw [pz_su_i, pz_su_t (by decide)]
  have s4 : ∀ x, (pz_su (pz_su S 4 (10 * a + S 3 a) p) 3 a (S 3 a + 1)) 4 x = if x = 10 * a + S 3 a then p else S 4 x := fun x => by rw [pz_su_t (by decide), pz_su_i]
  have w3a := fun r => pw_3 hW r
  have hrl : ∀ r, rz_rl (pz_su (pz_su S 4 (10 * a + S 3 a) p) 3 a (S 3 a + 1)) r → rz_rl S r := fun r ⟨k1, k2, k3, k4⟩ => ⟨k1, k2, by rw [hS 1 (by decide)] at k3; exact k3, by rw [hS 1 (by decide), hS 2 (by decide)] at k4; exact k4⟩
  have hlc : ∀ i, (rz_rl (pz_su (pz_su S 4 (10 * a + S 3 a) p) 3 a (S 3 a + 1)) (i / 10) ∧ i % 10 < (pz_su (pz_su S 4 (10 * a + S 3 a) p) 3 a (S 3 a + 1)) 3 (i / 10)) → (rz_rl S (i / 10) ∧ i % 10 < S 3 (i / 10)) ∨ i = 10 * a + S 3 a := fun i k => by
    have k2 := k.2
    rw [s3] at k2
    by_cases g : i / 10 = a
    · rw [if_pos g] at k2
      by_cases g3 : i % 10 < S 3 (i / 10)
      · exact Or.inl ⟨hrl _ k.1, g3⟩
      · rw [g] at g3; exact Or.inr (by omega)
    · rw [if_neg g] at k2; exact Or.inl ⟨hrl _ k.1, k2⟩
  refine ⟨σ1, ad', ado 0 0 (by omega), rz_g2 hW h (by omega) (fun t i => (10 ≤ t ∧ t ≤ 13) ∧ i = 10 * a + S 3 a) [3, 4] [6, 7, 8, 9] hS had ?_ (rz_tag (by decide) (by decide) (by decide) (by decide) (by decide) (by decide) (by decide) (by decide) (by decide) (by decide) (by decide) (by decide) (by decide) (by decide) (by decide) (by decide) (by decide) (by decide) (by decide) (by decide) (by decide) (fun t _ x hx => absurd hx (by simp [rz_ds]))) (fun t i hl hm => ag t i hl (Or.inl (fun g => hm (by revert g; revert t; simp; omega)))) ?_ ?_ ?_, ⟨fun q hq => ?_, by omega, by omega, by omega⟩, fun d Q hd => ?_⟩
  · have e1 : (pz_su (pz_su S 4 (10 * a + S 3 a) p) 3 a (S 3 a + 1)) 1 = S 1 := hS 1 (by decide)
    have e9 : (pz_su (pz_su S 4 (10 * a + S 3 a) p) 3 a (S 3 a + 1)) 9 = S 9 := hS 9 (by decide)
    have e10 : (pz_su (pz_su S 4 (10 * a + S 3 a) p) 3 a (S 3 a + 1)) 10 = S 10 := hS 10 (by decide)
    have e11 : (pz_su (pz_su S 4 (10 * a + S 3 a) p) 3 a (S 3 a + 1)) 11 = S 11 := hS 11 (by decide)
    have e21 : (pz_su (pz_su S 4 (10 * a + S 3 a) p) 3 a (S 3 a + 1)) 21 = S 21 := hS 21 (by decide)
    refine rz_tag (fun i k => Or.inl k) (fun i k => Or.inl k) (fun i k => Or.inl k) (fun i k => Or.inl k) (fun i k => Or.inl ⟨k.1, by rw [← e1]; exact k.2⟩) (fun i k => Or.inl ⟨k.1, by rw [← e1]; exact k.2⟩) (fun i k => Or.inl (hrl i k)) (fun i k => Or.inl (hrl i k)) (fun i k => Or.inl (hrl i k)) (fun i k => Or.inl ⟨hrl i k.1, k.2⟩) (fun i k => (hlc i k).imp id (fun g => ⟨by omega, g⟩)) (fun i k => (hlc i k).imp id (fun g => ⟨by omega, g⟩)) (fun i k => (hlc i k).imp id (fun g => ⟨by omega, g⟩)) (fun i k => (hlc i k).imp id (fun g => ⟨by omega, g⟩)) (fun i k => Or.inl ⟨k.1, by rw [← e9]; exact k.2⟩) (fun i k => Or.inl ⟨k.1, by rw [← e9]; exact k.2⟩) (fun i k => Or.inl ⟨k.1, by rw [← e9]; exact k.2⟩) (fun i k => Or.inl ⟨k.1, by rw [← e9]; exact k.2.1, by rw [← e10]; exact k.2.2⟩) (fun i k => Or.inl ⟨k.1, by rw [← e9]; exact k.2.1, by rw [← e10]; exact k.2.2⟩) (fun i k => Or.inl ⟨k.1, by rw [← e9]; exact k.2.1, by rw [← e11]; exact k.2.2⟩) (fun i k => Or.inl ⟨k.1, by rw [← e21]; exact k.2⟩) (fun t i k => Or.inl k)
  · intro t i hm k' k
    simp only [List.mem_cons, List.not_mem_nil, or_false] at hm
    rcases hm with e | e | e | e <;> subst e
    · by_cases e : i = a
      · subst e
        refine Or.inr ⟨_, a1, ?_⟩
        show _ = _
        rw [s3, if_pos rfl, if_pos (show i < 8 by omega), ado 7 i (by omega), ado 8 i (by omega)]
      · exact Or.inl ⟨ag 6 i k (Or.inr e), by rw [s3, if_neg e], rfl, rfl, fun _ => rfl⟩
    · by_cases e : i = a
      · subst e
        exact Or.inr ⟨_, a2, _, rfl, rz_upd e2 w3.1 (by omega) (by decide) (fun k k1 k2 => by rw [s4]; exact rz_ic (by omega))⟩
      · exact Or.inl ⟨ag 7 i k (Or.inr e), fun j j1 j2 => by rw [s4, if_neg (by omega)]⟩
    · by_cases e : i = a
      · subst e
        refine Or.inr ⟨_, a3, _, rfl, fun j j1 j2 => ?_⟩
        rw [s3, if_pos rfl] at j2
        rw [rz_vup w3.1 (by omega) j1 (by omega)]
        by_cases ej : j = S 3 i
        · rw [if_pos ej, ej]; exact congrArg some (adn 10 (by omega) (by omega)).symm
        · rw [if_neg ej, e4' j j1 (by omega)]
          exact congrArg some (had 10 _ (rz_lc hW hr j1 (by omega))).symm
      · exact Or.inl ⟨ag 8 i k (Or.inr e), by rw [s3, if_neg e], fun _ _ _ => rfl⟩
    · have k8 := k.2
      refine Or.inl ⟨ag 9 i k (Or.inl (by decide)), by rw [s3, if_neg (by omega)], fun f b f1 f2 b1 b2 => ?_⟩
      have w := w3a i
      exact rz_po hW (fun b b1 b2 => ⟨by rw [s4, if_neg (by omega)], by rw [hS 5 (by decide)], fun k k1 k2 => ⟨by rw [hS 6 (by decide)], by rw [hS 7 (by decide)], by rw [hS 8 (by decide)]⟩⟩) 10 b (by omega) (by omega)
  · intro t i ⟨⟨t1, t2⟩, ei⟩
    subst ei
    rw [adn t t1 t2]
    refine ⟨by omega, by omega, ?_⟩
    rcases (show t = 10 ∨ t = 11 ∨ t = 12 ∨ t = 13 by omega) with e | e | e | e <;> subst e
    · refine ⟨_, b1, ?_⟩
      show _ = _
      rw [adn 11 (by omega) (by omega), adn 12 (by omega) (by omega), adn 13 (by omega) (by omega), hS 5 (by decide), hJ2.2.1]
      rfl
    · exact rz_zAi b2 (fun k k1 k2 => by rw [hS 6 (by decide)]; exact (hJ2.2.2 k k1 (by omega)).1)
    · exact rz_zAi b3 (fun k k1 k2 => by rw [hS 7 (by decide)]; exact (hJ2.2.2 k k1 (by omega)).2.1)
    · exact rz_zAi b4 (fun k k1 k2 => by rw [hS 8 (by decide)]; exact (hJ2.2.2 k k1 (by omega)).2.2)
  · intro t i t' i' ⟨⟨t1, t2⟩, ei⟩ ⟨⟨t3, t4⟩, ei'⟩ e
    subst ei
    subst ei'
    rw [adn t t1 t2, adn t' t3 t4] at e
    exact ⟨by omega, rfl⟩
  · have := h.2.2 q hq
    exact hst q this (fun (e : q = ad 6 a) => l6.2 (e ▸ hq)) (fun (e : q = ad 7 a) => l7.2 (e ▸ hq)) (fun (e : q = ad 8 a) => l8.2 (e ▸ hq))
  show mb_Rn d 42 0 [some (.ref (ad 0 0)), some (.int (iI a)), some (.int (iI p)), none] [] σ Q = _
  have he' := fun Q => he (d - 1) Q (by omega)
  rcases g2 with g | ⟨g, g3⟩
  · have g1 : (p = -1) = True := eq_true g
    repeat' (first | (simp (config := {maxSteps := 1000000}) (disch := first | assumption | omega | exact Nat.le_of_ble_eq_true rfl | (intro _; first | rfl | simp (disch := decide) only [pz_su_t])) only [sX7_bone_0, sX7_bone_0n, sX7_bone_1, sX7_bone_2, sX7_bone_5, sX7_bone_5n, sX7_bone_6, sX7_bone_6n, sX7_bone_7, sX7_bone_7n, sX7_bone_10, sX7_bone_11, sX7_bone_15, sX7_bone_15n, sX7_bone_16, sX7_bone_19, sX7_bone_20, sX7_bone_26, sX7_bone_36, sX7_bone_36n, sX7_bone_37, sX7_bone_40, sX7_bone_43, sX7_bone_48, sX7_bone_58, sX7_bone_58n, sX7_bone_59, sX7_bone_62, sX7_bone_63, sX7_bone_66, pz_add, pz_mul, pz_neg, pz_sub, pz_lt, pz_le, pz_eq, pz_b0, pz_b1, pz_bb, pz_ix, Int.sub_zero, Int.zero_add, Int.add_zero, Int.mul_zero, mb_qk, mb_qx, if_true, if_false, true_or, or_true, false_or, or_false, and_true, true_and, and_false, false_and, not_true_eq_false, not_false_eq_true, ite_self, List.lookup, List.length_cons, List.length_nil, ite_not, Nat.reduceAdd, Int.reduceEq, Int.reduceLT, Int.reduceLE, pz_n0, pz_n1, pz_n2, pz_n3, pz_n4, pz_n5, pz_n6, pz_n7, pz_n8, pz_n10, pz_n12, pz_n39, pz_n40, pz_n80, pz_n99, pz_n100, pz_n999, pz_nm1, pz_nm999, hat, g1, pz_gf e0, pz_gf eA, pz_gf eR, he', List.getD_cons_zero, List.getD_cons_succ]) | (simp (disch := first | assumption | omega | exact Nat.le_of_ble_eq_true rfl | (intro _; first | rfl | simp (disch := decide) only [pz_su_t])) only [sX7_bone_12, sX7_bone_23, sX7_bone_45, pz_add, pz_mul, pz_neg, pz_sub, pz_lt, pz_le, pz_eq, pz_b0, pz_b1, pz_bb, pz_ix, Int.sub_zero, Int.zero_add, Int.add_zero, Int.mul_zero, mb_qk, mb_qx, if_true, if_false, true_or, or_true, false_or, or_false, and_true, true_and, and_false, false_and, not_true_eq_false, not_false_eq_true, ite_self, List.lookup, List.length_cons, List.length_nil, ite_not, Nat.reduceAdd, Int.reduceEq, Int.reduceLT, Int.reduceLE, pz_n0, pz_n1, pz_n2, pz_n3, pz_n4, pz_n5, pz_n6, pz_n7, pz_n8, pz_n10, pz_n12, pz_n39, pz_n40, pz_n80, pz_n99, pz_n100, pz_n999, pz_nm1, pz_nm999]; first | split | skip) | split)
    all_goals first | rfl | omega | ((try unfold pz_b); (repeat' split) <;> first | rfl | omega | (simp_all only []; done) | (exfalso; simp_all only [not_true_eq_false, not_false_eq_true]; omega) | skip)
  · have g1 : (p = -1) = False := eq_false g
    repeat' (first | (simp (config := {maxSteps := 1000000}) (disch := first | assumption | omega | exact Nat.le_of_ble_eq_true rfl | (intro _; first | rfl | simp (disch := decide) only [pz_su_t])) only [sX7_bone_0, sX7_bone_0n, sX7_bone_1, sX7_bone_2, sX7_bone_5, sX7_bone_5n, sX7_bone_6, sX7_bone_6n, sX7_bone_7, sX7_bone_7n, sX7_bone_10, sX7_bone_11, sX7_bone_15, sX7_bone_15n, sX7_bone_16, sX7_bone_19, sX7_bone_20, sX7_bone_26, sX7_bone_36, sX7_bone_36n, sX7_bone_37, sX7_bone_40, sX7_bone_43, sX7_bone_48, sX7_bone_58, sX7_bone_58n, sX7_bone_59, sX7_bone_62, sX7_bone_63, sX7_bone_66, pz_add, pz_mul, pz_neg, pz_sub, pz_lt, pz_le, pz_eq, pz_b0, pz_b1, pz_bb, pz_ix, Int.sub_zero, Int.zero_add, Int.add_zero, Int.mul_zero, mb_qk, mb_qx, if_true, if_false, true_or, or_true, false_or, or_false, and_true, true_and, and_false, false_and, not_true_eq_false, not_false_eq_true, ite_self, List.lookup, List.length_cons, List.length_nil, ite_not, Nat.reduceAdd, Int.reduceEq, Int.reduceLT, Int.reduceLE, pz_n0, pz_n1, pz_n2, pz_n3, pz_n4, pz_n5, pz_n6, pz_n7, pz_n8, pz_n10, pz_n12, pz_n39, pz_n40, pz_n80, pz_n99, pz_n100, pz_n999, pz_nm1, pz_nm999, hat, g1, pc_hasBone hW hR, pz_bt g3, pz_gf e0, pz_gf eA, pz_gf eR, he', List.getD_cons_zero, List.getD_cons_succ]) | (simp (disch := first | assumption | omega | exact Nat.le_of_ble_eq_true rfl | (intro _; first | rfl | simp (disch := decide) only [pz_su_t])) only [sX7_bone_12, sX7_bone_23, sX7_bone_45, pz_add, pz_mul, pz_neg, pz_sub, pz_lt, pz_le, pz_eq, pz_b0, pz_b1, pz_bb, pz_ix, Int.sub_zero, Int.zero_add, Int.add_zero, Int.mul_zero, mb_qk, mb_qx, if_true, if_false, true_or, or_true, false_or, or_false, and_true, true_and, and_false, false_and, not_true_eq_false, not_false_eq_true, ite_self, List.lookup, List.length_cons, List.length_nil, ite_not, Nat.reduceAdd, Int.reduceEq, Int.reduceLT, Int.reduceLE, pz_n0, pz_n1, pz_n2, pz_n3, pz_n4, pz_n5, pz_n6, pz_n7, pz_n8, pz_n10, pz_n12, pz_n39, pz_n40, pz_n80, pz_n99, pz_n100, pz_n999, pz_nm1, pz_nm999]; first | split | skip) | split)
    all_goals first | rfl | omega | ((try unfold pz_b); (repeat' split) <;> first | rfl | omega | (simp_all only []; done) | (exfalso; simp_all only [not_true_eq_false, not_false_eq_true]; omega) | skip)
end
