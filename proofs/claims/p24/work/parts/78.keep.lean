/-! the class: what is seen at a frame is kept -/
section
variable {σ σ' : mb_S} {S S' : pz_S} {ad ad' : rz_A} {Fo : Nat → Prop}
/-- a frame is changed, and the sum of renderings -/
theorem rz_L2 (h : rz_R σ S ad Fo) {p : Int} (hl : 0 ≤ p ∧ p / 40 < S 9 0 ∧ p % 40 < S 10 (p / 40)) (hn : σ'.2 = σ.2) (hag : ∀ q, q ≠ ad 0 0 → q ≠ ad 17 p → q ≠ ad 18 p → σ'.1 q = σ.1 q) (h0 : σ'.1 (ad 0 0) = some (.inr (7, [.ref (ad 1 0), .ref (ad 2 0), .ref (ad 3 0), .int (iI (S 1 0)), .int (iI (S 9 0)), .int (iI (S 21 0)), .int (iI (S' 20 0))]))) (h17 : σ'.1 (ad 17 p) = some (.inr (3, [.int (iI (S 15 p)), .ref (ad 18 p), .int (iI (S' 16 p))]))) (h18 : pz_Ar σ' (ad 18 p) 8 (fun a => if S' 16 p = 0 then -1 else S' 17 (8 * p + a))) (hS : ∀ x, x ∉ [16, 17, 18, 19, 20] → S' x = S x) (h6 : ∀ x, x ≠ p → S' 16 x = S 16 x) (h7 : ∀ x, (x < 8 * p ∨ 8 * p + 8 ≤ x) → S' 17 x = S 17 x) : rz_R σ' S' ad Fo := by
  have hl18 : rz_lv S 18 p := hl
  have ag : ∀ t i, rz_lv S t i → t ≠ 0 → (t ∉ [17, 18] ∨ i ≠ p) → σ'.1 (ad t i) = σ.1 (ad t i) := fun t i hl' t0 k => hag _ (rz_ne h hl' (t' := 0) (i' := 0) rfl (fun g => t0 g.1)) (rz_ne h hl' (t' := 17) hl (fun g => k.elim (fun k => k (by rw [g.1]; decide)) (fun k => k g.2))) (rz_ne h hl' (t' := 18) hl18 (fun g => k.elim (fun k => k (by rw [g.1]; decide)) (fun k => k g.2)))
  refine rz_w2 h (by rw [hn]; exact Nat.le_refl _) [16, 17, 18, 19, 20] [0, 17, 18] hS (fun t i => rz_lvs (fun x hx => hS x (by revert x; decide)) t) (rz_tag (by decide) (by decide) (by decide) (by decide) (by decide) (by decide) (by decide) (by decide) (by decide) (by decide) (by decide) (by decide) (by decide) (by decide) (by decide) (by decide) (by decide) (by decide) (by decide) (by decide) (by decide) (fun t _ x hx => absurd hx (by simp [rz_ds]))) (fun t i hl' hm => ag t i hl' (fun g => hm (by rw [g]; decide)) (Or.inl (fun g => hm (List.mem_cons_of_mem _ g)))) (fun t i hm k' k => ?_)
  simp only [List.mem_cons, List.not_mem_nil, or_false] at hm
  rcases hm with e | e | e <;> subst e
  · have k0 : i = 0 := k
    subst k0
    refine Or.inr ⟨_, h0, ?_⟩
    show _ = _
    rw [hS 1 (by decide), hS 9 (by decide), hS 21 (by decide)]
  · by_cases e : i = p
    · subst e
      refine Or.inr ⟨_, h17, ?_⟩
      show _ = _
      rw [hS 15 (by decide)]
    · exact Or.inl ⟨ag 17 i k (by decide) (Or.inr e), by rw [hS 15 (by decide)], h6 i e, rfl⟩
  · by_cases e : i = p
    · subst e
      exact Or.inr (rz_cpAi h18)
    · exact Or.inl ⟨ag 18 i k (by decide) (Or.inr e), h6 i e, fun a a0 a1 => h7 _ (by omega)⟩
theorem rz_eq (h : rz_R σ S ad Fo) (hS : ∀ x, x ∉ [18, 19] → S' x = S x) : rz_R σ S' ad Fo :=
  rz_w2 h (Nat.le_refl _) [18, 19] [] hS (fun t i => rz_lvs (fun x hx => hS x (by revert x; decide)) t) (rz_tag (by decide) (by decide) (by decide) (by decide) (by decide) (by decide) (by decide) (by decide) (by decide) (by decide) (by decide) (by decide) (by decide) (by decide) (by decide) (by decide) (by decide) (by decide) (by decide) (by decide) (by decide) (fun t _ x hx => absurd hx (by simp [rz_ds]))) (fun t i hl hm => rfl) (fun t i hm k' k => absurd hm (by simp))
def rz_F0 (Fo : Nat → Prop) (σ σ' : mb_S) : Prop := (∀ q, Fo q → σ'.1 q = σ.1 q) ∧ σ'.2 = σ.2
theorem rz_F0T {σ1 σ2 : mb_S} (h : rz_F0 Fo σ σ1) (h' : rz_F0 Fo σ1 σ2) : rz_F0 Fo σ σ2 := ⟨fun q hq => (h'.1 q hq).trans (h.1 q hq), h'.2.trans h.2⟩
theorem rz_F0F (h : rz_F0 Fo σ σ') : rz_F Fo σ σ' := ⟨h.1, by rw [h.2]; omega, by rw [h.2]; omega, by rw [h.2]; omega⟩
set_option maxRecDepth 20000 in
set_option maxHeartbeats 4000000 in
theorem wc_keepV {c av : Nat} {a v : Int} {x1 x3 : Value} {g : Nat → Int32} (h0 : σ.1 c = some (.inr (3, [x1, .ref av, x3]))) (h1 : σ.1 av = some (.inl (0, 8, .inl g))) (a0 : 0 ≤ a) (a1 : a < 8) (d : Nat) (Q : mb_O → mb_S → Prop) : mb_Ex d 18 [.ref c, .int (iI a), .int (iI v)] σ Q = Q (.inl none) (mb_up σ av (.inl (0, 8, .inl (upd g (iI a).toNatClampNeg (iI v))))) := by
  show mb_Rn d 18 0 [some (.ref c), some (.int (iI a)), some (.int (iI v))] [] σ Q = _
  repeat' (first | (simp (config := {maxSteps := 1000000}) (disch := first | assumption | omega | exact Nat.le_of_ble_eq_true rfl | (intro _; first | rfl | simp (disch := decide) only [pz_su_t])) only [sX3_keepVersion_0, sX3_keepVersion_4, sX3_keepVersion_5, sX3_keepVersion_10, sX3_keepVersion_10n, sX3_keepVersion_11, sX3_keepVersion_14, sX3_keepVersion_15, sX3_keepVersion_16, sX3_keepVersion_17, pz_add, pz_mul, pz_neg, pz_sub, pz_lt, pz_le, pz_eq, pz_b0, pz_b1, pz_bb, pz_ix, Int.sub_zero, Int.zero_add, Int.add_zero, Int.mul_zero, mb_qk, mb_qx, if_true, if_false, true_or, or_true, false_or, or_false, and_true, true_and, and_false, false_and, not_true_eq_false, not_false_eq_true, ite_self, List.lookup, List.length_cons, List.length_nil, ite_not, Nat.reduceAdd, Int.reduceEq, Int.reduceLT, Int.reduceLE, pz_n0, pz_n1, pz_n2, pz_n3, pz_n4, pz_n5, pz_n6, pz_n7, pz_n8, pz_n10, pz_n12, pz_n39, pz_n40, pz_n80, pz_n99, pz_n100, pz_n999, pz_nm1, pz_nm999, pz_gf h0, pz_gi h1, List.getD_cons_zero, List.getD_cons_succ]) | (simp (disch := first | assumption | omega | exact Nat.le_of_ble_eq_true rfl | (intro _; first | rfl | simp (disch := decide) only [pz_su_t])) only [sX3_keepVersion_1, sX3_keepVersion_7, pz_add, pz_mul, pz_neg, pz_sub, pz_lt, pz_le, pz_eq, pz_b0, pz_b1, pz_bb, pz_ix, Int.sub_zero, Int.zero_add, Int.add_zero, Int.mul_zero, mb_qk, mb_qx, if_true, if_false, true_or, or_true, false_or, or_false, and_true, true_and, and_false, false_and, not_true_eq_false, not_false_eq_true, ite_self, List.lookup, List.length_cons, List.length_nil, ite_not, Nat.reduceAdd, Int.reduceEq, Int.reduceLT, Int.reduceLE, pz_n0, pz_n1, pz_n2, pz_n3, pz_n4, pz_n5, pz_n6, pz_n7, pz_n8, pz_n10, pz_n12, pz_n39, pz_n40, pz_n80, pz_n99, pz_n100, pz_n999, pz_nm1, pz_nm999]; first | split | skip) | split)
  all_goals first | rfl | omega | ((try unfold pz_b); (repeat' split) <;> first | rfl | omega | (simp_all only []; done) | (exfalso; simp_all only [not_true_eq_false, not_false_eq_true]; omega) | skip)
set_option maxRecDepth 20000 in
set_option maxHeartbeats 4000000 in
theorem wc_countR {x c : Nat} {T R : Int} {x1 x2 y1 y2 y3 y4 y5 y6 : Value} (h0 : σ.1 c = some (.inr (3, [x1, x2, .int (iI T)]))) (h1 : σ.1 x = some (.inr (7, [y1, y2, y3, y4, y5, y6, .int (iI R)]))) (hne : x ≠ c) (d : Nat) (Q : mb_O → mb_S → Prop) : mb_Ex d 73 [.ref x, .ref c] σ Q = Q (.inl none) (mb_up (mb_up σ c (.inr (3, [x1, x2, .int (iI (T + 1))]))) x (.inr (7, [y1, y2, y3, y4, y5, y6, .int (iI (R + 1))]))) := by
  show mb_Rn d 73 0 [some (.ref x), some (.ref c)] [] σ Q = _
  repeat' (first | (simp (config := {maxSteps := 1000000}) (disch := first | assumption | omega | exact Nat.le_of_ble_eq_true rfl | (intro _; first | rfl | simp (disch := decide) only [pz_su_t])) only [sX7_countRendering_0, sX7_countRendering_0n, sX7_countRendering_1, sX7_countRendering_1i, sX7_countRendering_2, sX7_countRendering_5, sX7_countRendering_6, sX7_countRendering_7, sX7_countRendering_10, sX7_countRendering_10n, sX7_countRendering_11, sX7_countRendering_11i, sX7_countRendering_12, sX7_countRendering_15, sX7_countRendering_16, sX7_countRendering_17, sX7_countRendering_20, pz_add, pz_mul, pz_neg, pz_sub, pz_lt, pz_le, pz_eq, pz_b0, pz_b1, pz_bb, pz_ix, Int.sub_zero, Int.zero_add, Int.add_zero, Int.mul_zero, mb_qk, mb_qx, if_true, if_false, true_or, or_true, false_or, or_false, and_true, true_and, and_false, false_and, not_true_eq_false, not_false_eq_true, ite_self, List.lookup, List.length_cons, List.length_nil, ite_not, Nat.reduceAdd, Int.reduceEq, Int.reduceLT, Int.reduceLE, pz_n0, pz_n1, pz_n2, pz_n3, pz_n4, pz_n5, pz_n6, pz_n7, pz_n8, pz_n10, pz_n12, pz_n39, pz_n40, pz_n80, pz_n99, pz_n100, pz_n999, pz_nm1, pz_nm999, pz_gf h0, pz_gf h1, gu_gf, gu_gi, gu_gq, gu_gfe, gu_gie, gu_gqe, List.set_cons_zero, List.set_cons_succ, Nat.reduceLT, Nat.reduceLeDiff, List.getD_cons_zero, List.getD_cons_succ]) | split)
/-- the seen versions of n assets from a on are kept -/
def rz_kl (s f : Int) : Nat → Int → pz_S → pz_S
  | 0, _, S => S
  | n + 1, a, S => rz_kl s f n (a + 1) (pz_su S 17 (8 * (40 * s + f) + a) (pz_sv S s f a))
theorem rz_kl_t {s f : Int} {t : Nat} (h : t ≠ 17) : ∀ (n : Nat) (a : Int) (S : pz_S), rz_kl s f n a S t = S t := by
  intro n
  induction n with
  | zero => intro a S; rfl
  | succ n ih => intro a S; exact (ih _ _).trans (pz_su_t h)
theorem rz_kl_17 {s f : Int} : ∀ (n : Nat) (a : Int) (S : pz_S) (x : Int), rz_kl s f n a S 17 x = if 8 * (40 * s + f) + a ≤ x ∧ x < 8 * (40 * s + f) + a + n then pz_sv S s f (x - 8 * (40 * s + f)) else S 17 x := by
  intro n
  induction n with
  | zero => intro a S x; rw [if_neg (by omega)]; rfl
  | succ n ih =>
    intro a S x
    refine (ih (a + 1) _ x).trans ?_
    rw [rz_sv_t (pz_su_t (by decide)) (pz_su_t (by decide)) (pz_su_t (by decide)) (pz_su_t (by decide)) (pz_su_t (by decide)) (pz_su_t (by decide)), pz_su_i]
    by_cases e : x = 8 * (40 * s + f) + a
    · rw [if_neg (by omega), if_pos e, if_pos (by omega), show x - 8 * (40 * s + f) = a by omega]
    · rw [if_neg e]
      by_cases e2 : 8 * (40 * s + f) + (a + 1) ≤ x ∧ x < 8 * (40 * s + f) + (a + 1) + n
      · rw [if_pos e2, if_pos (by omega)]
      · rw [if_neg e2, if_neg (by omega)]
set_option maxRecDepth 20000 in
set_option maxHeartbeats 4000000 in
theorem wl_keep {s f N : Int} : ∀ (n : Nat) (a : Int) (σ : mb_S) (S : pz_S), rz_R σ S ad Fo → pz_W S → 0 ≤ s → s < S 9 0 → 0 ≤ f → f < S 10 s → ¬ S 16 (40 * s + f) = 0 → S 1 0 = N → a + n = N → 0 ≤ a → ∃ σ', rz_R σ' (rz_kl s f n a S) ad Fo ∧ rz_F0 Fo σ σ' ∧ ∀ (d : Nat) (Q : mb_O → mb_S → Prop), 3 ≤ d → mb_Rn d 72 2 [some (.ref (ad 0 0)), some (.ref (ad 14 s)), some (.ref (ad 17 (40 * s + f))), some (.int (iI (a)))] [] σ Q = Q (.inl none) σ' := by
  intro n
  induction n with
  | zero =>
    intro a σ S h hW s0 s1 f0 f1 ht hN h1 h2
    have w1 := pw_1 hW 0
    have e0 := rz_geq h (t := 0) (i := 0) rfl (fun _ k => k)
    have hc : (S 1 0 ≤ a) = True := eq_true (by omega)
    refine ⟨σ, h, ⟨fun q hq => rfl, rfl⟩, fun d Q hd => ?_⟩
    rw [sX7_keepVersions_2]
    repeat' (first | (simp (config := {maxSteps := 1000000}) (disch := first | assumption | omega | exact Nat.le_of_ble_eq_true rfl | (intro _; first | rfl | simp (disch := decide) only [pz_su_t])) only [sX7_keepVersions_0, sX7_keepVersions_1, sX7_keepVersions_3, sX7_keepVersions_3n, sX7_keepVersions_4, sX7_keepVersions_10, sX7_keepVersions_10n, sX7_keepVersions_11, sX7_keepVersions_12, sX7_keepVersions_12n, sX7_keepVersions_13, sX7_keepVersions_13n, sX7_keepVersions_14, sX7_keepVersions_14n, sX7_keepVersions_15, sX7_keepVersions_16, sX7_keepVersions_19, sX7_keepVersions_22, sX7_keepVersions_25, sX7_keepVersions_28, pz_add, pz_mul, pz_neg, pz_sub, pz_lt, pz_le, pz_eq, pz_b0, pz_b1, pz_bb, pz_ix, Int.sub_zero, Int.zero_add, Int.add_zero, Int.mul_zero, mb_qk, mb_qx, if_true, if_false, true_or, or_true, false_or, or_false, and_true, true_and, and_false, false_and, not_true_eq_false, not_false_eq_true, ite_self, List.lookup, List.length_cons, List.length_nil, ite_not, Nat.reduceAdd, Int.reduceEq, Int.reduceLT, Int.reduceLE, pz_n0, pz_n1, pz_n2, pz_n3, pz_n4, pz_n5, pz_n6, pz_n7, pz_n8, pz_n10, pz_n12, pz_n39, pz_n40, pz_n80, pz_n99, pz_n100, pz_n999, pz_nm1, pz_nm999, hc, pz_gf e0, List.getD_cons_zero, List.getD_cons_succ]) | (simp (disch := first | assumption | omega | exact Nat.le_of_ble_eq_true rfl | (intro _; first | rfl | simp (disch := decide) only [pz_su_t])) only [sX7_keepVersions_7, pz_add, pz_mul, pz_neg, pz_sub, pz_lt, pz_le, pz_eq, pz_b0, pz_b1, pz_bb, pz_ix, Int.sub_zero, Int.zero_add, Int.add_zero, Int.mul_zero, mb_qk, mb_qx, if_true, if_false, true_or, or_true, false_or, or_false, and_true, true_and, and_false, false_and, not_true_eq_false, not_false_eq_true, ite_self, List.lookup, List.length_cons, List.length_nil, ite_not, Nat.reduceAdd, Int.reduceEq, Int.reduceLT, Int.reduceLE, pz_n0, pz_n1, pz_n2, pz_n3, pz_n4, pz_n5, pz_n6, pz_n7, pz_n8, pz_n10, pz_n12, pz_n39, pz_n40, pz_n80, pz_n99, pz_n100, pz_n999, pz_nm1, pz_nm999]; first | split | skip) | split)
    all_goals first | rfl | omega | ((try unfold pz_b); (repeat' split) <;> first | rfl | omega | (simp_all only []; done) | (exfalso; simp_all only [not_true_eq_false, not_false_eq_true]; omega) | skip)
  | succ n ih =>
    intro a σ S h hW s0 s1 f0 f1 ht hN h1 h2
    have w1 := pw_1 hW 0
    have e0 := rz_geq h (t := 0) (i := 0) rfl (fun _ k => k)
    have hc : (S 1 0 ≤ a) = False := eq_false (by omega)
    have hl := rz_lf hW s0 s1 f0 f1
    have hl18 : rz_lv S 18 (40 * s + f) := hl
    have hS := rz_Sc hW h s0 s1
    have hF := rz_Fr h hl
    have eF := hF.1
    obtain ⟨g, g1, g2⟩ := hF.2
    have n1 : ad 17 (40 * s + f) ≠ ad 18 (40 * s + f) := rz_ne h (t := 17) (t' := 18) hl hl (by omega)
    have n0 : ad 0 0 ≠ ad 18 (40 * s + f) := rz_ne h (t := 0) (i := 0) (t' := 18) rfl hl (by omega)
    have wv := pz_sv_r hW s f a
    obtain ⟨σ1, σE⟩ : ∃ σ1 : mb_S, σ1 = mb_up σ (ad 18 (40 * s + f)) (.inl (0, 8, .inl (upd g (iI a).toNatClampNeg (iI (pz_sv S s f a))))) := ⟨_, rfl⟩
    have hk := fun d Q => wc_keepV (v := pz_sv S s f a) eF g1 h2 (by omega) d Q
    have hsv := fun (d : Nat) (Q : mb_O → mb_S → Prop) (hd : 2 ≤ d) => pc_seenVersionC (Q := Q) hW hd (rz_C hW h) hS hF h2 (show a < S 1 0 by omega)
    have hR1 : rz_R σ1 (pz_su S 17 (8 * (40 * s + f) + a) (pz_sv S s f a)) ad Fo := by
      refine rz_L2 h hl (by rw [σE]; rfl) (fun q q0 q1 q2 => by rw [σE, gu_at q2]) (by rw [σE, gu_at n0, pz_su_t (by decide)]; exact e0) (by rw [σE, gu_at n1, pz_su_t (by decide)]; exact eF) (rz_ArU (by rw [σE]; exact gu_ae) g2 h2 (by omega) (by decide) (fun j j0 j1 => ?_)) (fun x hx => pz_su_t (fun e => hx (by rw [e]; decide))) (fun x hx => by rw [pz_su_t (by decide)]) (fun x hx => by rw [pz_su_i, if_neg (by omega)])
      show (if pz_su S 17 (8 * (40 * s + f) + a) (pz_sv S s f a) 16 (40 * s + f) = 0 then (-1 : Int) else pz_su S 17 (8 * (40 * s + f) + a) (pz_sv S s f a) 17 (8 * (40 * s + f) + j)) = if j = a then pz_sv S s f a else pz_kv S s f j
      rw [pz_su_t (by decide), if_neg ht, pz_su_i]
      unfold pz_kv
      rw [if_neg ht]
      exact rz_ic (by omega)
    obtain ⟨σ2, r1, r2, r3⟩ := ih (a + 1) σ1 _ hR1 (pws_17 hW wv.1 wv.2) s0 (by rw [pz_su_t (by decide)]; exact s1) f0 (by rw [pz_su_t (by decide)]; exact f1) (by rw [pz_su_t (by decide)]; exact ht) (by rw [pz_su_t (by decide)]; exact hN) (by omega) (by omega)
    refine ⟨σ2, r1, rz_F0T ⟨fun q hq => by rw [σE, gu_at (fun (e : q = ad 18 (40 * s + f)) => (h.1 18 _ hl18).2.2 (e ▸ hq))], by rw [σE]; rfl⟩ r2, fun d Q hd => ?_⟩
    have r4 := r3 d Q hd
    rw [σE] at r4
    rw [sX7_keepVersions_2]
    repeat' (first | (simp (config := {maxSteps := 1000000}) (disch := first | assumption | omega | exact Nat.le_of_ble_eq_true rfl | (intro _; first | rfl | simp (disch := decide) only [pz_su_t])) only [sX7_keepVersions_0, sX7_keepVersions_1, sX7_keepVersions_3, sX7_keepVersions_3n, sX7_keepVersions_4, sX7_keepVersions_10, sX7_keepVersions_10n, sX7_keepVersions_11, sX7_keepVersions_12, sX7_keepVersions_12n, sX7_keepVersions_13, sX7_keepVersions_13n, sX7_keepVersions_14, sX7_keepVersions_14n, sX7_keepVersions_15, sX7_keepVersions_16, sX7_keepVersions_19, sX7_keepVersions_22, sX7_keepVersions_25, sX7_keepVersions_28, pz_add, pz_mul, pz_neg, pz_sub, pz_lt, pz_le, pz_eq, pz_b0, pz_b1, pz_bb, pz_ix, Int.sub_zero, Int.zero_add, Int.add_zero, Int.mul_zero, mb_qk, mb_qx, if_true, if_false, true_or, or_true, false_or, or_false, and_true, true_and, and_false, false_and, not_true_eq_false, not_false_eq_true, ite_self, List.lookup, List.length_cons, List.length_nil, ite_not, Nat.reduceAdd, Int.reduceEq, Int.reduceLT, Int.reduceLE, pz_n0, pz_n1, pz_n2, pz_n3, pz_n4, pz_n5, pz_n6, pz_n7, pz_n8, pz_n10, pz_n12, pz_n39, pz_n40, pz_n80, pz_n99, pz_n100, pz_n999, pz_nm1, pz_nm999, hc, hsv, hk, r4, pz_gf e0, pz_gf eF, List.getD_cons_zero, List.getD_cons_succ]) | (simp (disch := first | assumption | omega | exact Nat.le_of_ble_eq_true rfl | (intro _; first | rfl | simp (disch := decide) only [pz_su_t])) only [sX7_keepVersions_7, pz_add, pz_mul, pz_neg, pz_sub, pz_lt, pz_le, pz_eq, pz_b0, pz_b1, pz_bb, pz_ix, Int.sub_zero, Int.zero_add, Int.add_zero, Int.mul_zero, mb_qk, mb_qx, if_true, if_false, true_or, or_true, false_or, or_false, and_true, true_and, and_false, false_and, not_true_eq_false, not_false_eq_true, ite_self, List.lookup, List.length_cons, List.length_nil, ite_not, Nat.reduceAdd, Int.reduceEq, Int.reduceLT, Int.reduceLE, pz_n0, pz_n1, pz_n2, pz_n3, pz_n4, pz_n5, pz_n6, pz_n7, pz_n8, pz_n10, pz_n12, pz_n39, pz_n40, pz_n80, pz_n99, pz_n100, pz_n999, pz_nm1, pz_nm999]; first | split | skip) | split)
    all_goals first | rfl | omega | ((try unfold pz_b); (repeat' split) <;> first | rfl | omega | (simp_all only []; done) | (exfalso; simp_all only [not_true_eq_false, not_false_eq_true]; omega) | skip)
set_option maxRecDepth 20000 in
set_option maxHeartbeats 4000000 in
theorem wc_keeps {s f : Int} (h : rz_R σ S ad Fo) (hW : pz_W S) (s0 : 0 ≤ s) (s1 : s < S 9 0) (f0 : 0 ≤ f) (f1 : f < S 10 s) (ht : ¬ S 16 (40 * s + f) = 0) : ∃ σ', rz_R σ' (rz_kl s f (S 1 0).toNat 0 S) ad Fo ∧ rz_F0 Fo σ σ' ∧ ∀ (d : Nat) (Q : mb_O → mb_S → Prop), 3 ≤ d → mb_Ex d 72 [.ref (ad 0 0), .ref (ad 14 s), .ref (ad 17 (40 * s + f))] σ Q = Q (.inl none) σ' := by
  have w1 := pw_1 hW 0
  obtain ⟨σ2, r1, r2, r3⟩ := wl_keep (N := S 1 0) (S 1 0).toNat 0 σ S h hW s0 s1 f0 f1 ht rfl (by omega) (by omega)
  refine ⟨σ2, r1, r2, fun d Q hd => ?_⟩
  have r4 := r3 d Q hd
  show mb_Rn d 72 0 [some (.ref (ad 0 0)), some (.ref (ad 14 s)), some (.ref (ad 17 (40 * s + f))), none] [] σ Q = _
  repeat' (first | (simp (config := {maxSteps := 1000000}) (disch := first | assumption | omega | exact Nat.le_of_ble_eq_true rfl | (intro _; first | rfl | simp (disch := decide) only [pz_su_t])) only [sX7_keepVersions_0, sX7_keepVersions_1, sX7_keepVersions_3, sX7_keepVersions_3n, sX7_keepVersions_4, sX7_keepVersions_10, sX7_keepVersions_10n, sX7_keepVersions_11, sX7_keepVersions_12, sX7_keepVersions_12n, sX7_keepVersions_13, sX7_keepVersions_13n, sX7_keepVersions_14, sX7_keepVersions_14n, sX7_keepVersions_15, sX7_keepVersions_16, sX7_keepVersions_19, sX7_keepVersions_22, sX7_keepVersions_25, sX7_keepVersions_28, pz_add, pz_mul, pz_neg, pz_sub, pz_lt, pz_le, pz_eq, pz_b0, pz_b1, pz_bb, pz_ix, Int.sub_zero, Int.zero_add, Int.add_zero, Int.mul_zero, mb_qk, mb_qx, if_true, if_false, true_or, or_true, false_or, or_false, and_true, true_and, and_false, false_and, not_true_eq_false, not_false_eq_true, ite_self, List.lookup, List.length_cons, List.length_nil, ite_not, Nat.reduceAdd, Int.reduceEq, Int.reduceLT, Int.reduceLE, pz_n0, pz_n1, pz_n2, pz_n3, pz_n4, pz_n5, pz_n6, pz_n7, pz_n8, pz_n10, pz_n12, pz_n39, pz_n40, pz_n80, pz_n99, pz_n100, pz_n999, pz_nm1, pz_nm999, r4]) | (simp (disch := first | assumption | omega | exact Nat.le_of_ble_eq_true rfl | (intro _; first | rfl | simp (disch := decide) only [pz_su_t])) only [sX7_keepVersions_7, pz_add, pz_mul, pz_neg, pz_sub, pz_lt, pz_le, pz_eq, pz_b0, pz_b1, pz_bb, pz_ix, Int.sub_zero, Int.zero_add, Int.add_zero, Int.mul_zero, mb_qk, mb_qx, if_true, if_false, true_or, or_true, false_or, or_false, and_true, true_and, and_false, false_and, not_true_eq_false, not_false_eq_true, ite_self, List.lookup, List.length_cons, List.length_nil, ite_not, Nat.reduceAdd, Int.reduceEq, Int.reduceLT, Int.reduceLE, pz_n0, pz_n1, pz_n2, pz_n3, pz_n4, pz_n5, pz_n6, pz_n7, pz_n8, pz_n10, pz_n12, pz_n39, pz_n40, pz_n80, pz_n99, pz_n100, pz_n999, pz_nm1, pz_nm999]; first | split | skip) | split)
/-- a rendering is counted: what was kept at a frame without one is none -/
def rz_c1 (S : pz_S) (p : Int) : pz_S := fun t x => if t = 16 ∧ x = p then S 16 p + 1 else if t = 20 ∧ x = 0 then S 20 0 + 1 else if t = 17 ∧ (8 * p ≤ x ∧ x < 8 * p + 8) ∧ S 16 p = 0 then -1 else S t x
theorem rz_c1_t {p : Int} {t : Nat} (h1 : t ≠ 16) (h2 : t ≠ 17) (h3 : t ≠ 20) : rz_c1 S p t = S t := by
  funext x
  exact (if_neg (fun g => h1 g.1)).trans ((if_neg (fun g => h3 g.1)).trans (if_neg (fun g => h2 g.1)))
theorem rz_c1_16 {p x : Int} : rz_c1 S p 16 x = if x = p then S 16 p + 1 else S 16 x := by
  by_cases e : x = p
  · rw [if_pos e]; exact if_pos ⟨rfl, e⟩
  · rw [if_neg e]; exact (if_neg (fun g => e g.2)).trans ((if_neg (fun g => absurd g.1 (by decide))).trans (if_neg (fun g => absurd g.1 (by decide))))
theorem rz_c1_20 {p x : Int} : rz_c1 S p 20 x = if x = 0 then S 20 0 + 1 else S 20 x := by
  refine (if_neg (fun g => absurd g.1 (by decide))).trans ?_
  by_cases e : x = 0
  · rw [if_pos e]; exact if_pos ⟨rfl, e⟩
  · rw [if_neg e]; exact (if_neg (fun g => e g.2)).trans (if_neg (fun g => absurd g.1 (by decide)))
theorem rz_c1_17 {p x : Int} : rz_c1 S p 17 x = if (8 * p ≤ x ∧ x < 8 * p + 8) ∧ S 16 p = 0 then -1 else S 17 x := by
  refine (if_neg (fun g => absurd g.1 (by decide))).trans ((if_neg (fun g => absurd g.1 (by decide))).trans ?_)
  by_cases e : (8 * p ≤ x ∧ x < 8 * p + 8) ∧ S 16 p = 0
  · rw [if_pos e]; exact if_pos ⟨rfl, e⟩
  · rw [if_neg e]; exact if_neg (fun g => e g.2)
theorem rz_W_c1 {p : Int} (hW : pz_W S) (h1 : S 16 p ≤ 999999999) : pz_W (rz_c1 S p) := by
  intro t i g1 g2
  have w := hW t i g1 g2
  by_cases e16 : t = 16
  · subst e16
    rw [rz_c1_16]
    have w16 := pw_16 hW p
    split
    · show (0 : Int) ≤ _ ∧ _ ≤ (1000000000 : Int); omega
    · exact w
  · by_cases e17 : t = 17
    · subst e17
      rw [rz_c1_17]
      split
      · show (-1 : Int) ≤ _ ∧ _ ≤ (11 : Int); omega
      · exact w
    · by_cases e20 : t = 20
      · subst e20; cases g1
      · rw [rz_c1_t e16 e17 e20]; exact w
set_option maxRecDepth 20000 in
set_option maxHeartbeats 4000000 in
theorem wc_count1 {s f : Int} (h : rz_R σ S ad Fo) (hW : pz_W S) (s0 : 0 ≤ s) (s1 : s < S 9 0) (f0 : 0 ≤ f) (f1 : f < S 10 s) : ∃ σ', rz_R σ' (rz_c1 S (40 * s + f)) ad Fo ∧ rz_F0 Fo σ σ' ∧ ∀ (d : Nat) (Q : mb_O → mb_S → Prop), mb_Ex d 73 [.ref (ad 0 0), .ref (ad 17 (40 * s + f))] σ Q = Q (.inl none) σ' := by
  have e0 := rz_geq h (t := 0) (i := 0) rfl (fun _ k => k)
  have hl := rz_lf hW s0 s1 f0 f1
  have hF := rz_Fr h hl
  have eF := hF.1
  have n1 : ad 17 (40 * s + f) ≠ ad 18 (40 * s + f) := rz_ne h (t := 17) (t' := 18) hl hl (by omega)
  have n0 : ad 0 0 ≠ ad 18 (40 * s + f) := rz_ne h (t := 0) (i := 0) (t' := 18) rfl hl (by omega)
  have n2 : ad 0 0 ≠ ad 17 (40 * s + f) := rz_ne h (t := 0) (i := 0) (t' := 17) rfl hl (by omega)
  have w16 := pw_16 hW (40 * s + f)
  have hc := fun d Q => wc_countR eF e0 n2 d Q
  obtain ⟨σ1, σE⟩ : ∃ σ1 : mb_S, σ1 = mb_up (mb_up σ (ad 17 (40 * s + f)) (.inr (3, [.int (iI (S 15 (40 * s + f))), .ref (ad 18 (40 * s + f)), .int (iI (S 16 (40 * s + f) + 1))]))) (ad 0 0) (.inr (7, [.ref (ad 1 0), .ref (ad 2 0), .ref (ad 3 0), .int (iI (S 1 0)), .int (iI (S 9 0)), .int (iI (S 21 0)), .int (iI (S 20 0 + 1))])) := ⟨_, rfl⟩
  refine ⟨σ1, ?_, ⟨fun q hq => ?_, by rw [σE]; rfl⟩, fun d Q => by rw [σE]; exact hc d Q⟩
  · refine rz_L2 h hl (by rw [σE]; rfl) (fun q q0 q1 q2 => by rw [σE, gu_at q0, gu_at q1]) (by rw [σE, rz_c1_20, if_pos rfl]; exact gu_ae) (by rw [σE, gu_at n2.symm, rz_c1_16, if_pos rfl]; exact gu_ae) ?_ (fun x hx => rz_c1_t (fun e => hx (by rw [e]; decide)) (fun e => hx (by rw [e]; decide)) (fun e => hx (by rw [e]; decide))) (fun x hx => by rw [rz_c1_16, if_neg hx]) (fun x hx => by rw [rz_c1_17, if_neg (by omega)])
    obtain ⟨g, g1, g2⟩ := hF.2
    refine ⟨g, by rw [σE, gu_at n0.symm, gu_at n1.symm]; exact g1, fun j j0 j1 => ?_⟩
    rw [g2 j j0 j1, rz_c1_16, if_pos rfl]
    refine congrArg iI ?_
    show pz_kv S s f j = if S 16 (40 * s + f) + 1 = 0 then (-1 : Int) else _
    rw [if_neg (by omega), rz_c1_17]
    unfold pz_kv
    by_cases e : S 16 (40 * s + f) = 0
    · rw [if_pos e, if_pos ⟨by omega, e⟩]
    · rw [if_neg e, if_neg (fun g => e g.2)]
  · rw [σE, gu_at (fun (e : q = ad 0 0) => (h.1 0 0 rfl).2.2 (e ▸ hq)), gu_at (fun (e : q = ad 17 (40 * s + f)) => (h.1 17 _ hl).2.2 (e ▸ hq))]
/-- a frame is rendered -/
theorem wc_rd {s f : Int} (h : rz_R σ S ad Fo) (hW : pz_W S) (hI : pz_I S) (hJ : rz_J S) (h9 : S 16 (40 * s + f) ≤ 999999999) (s0 : 0 ≤ s) (s1 : s < S 9 0) (f0 : 0 ≤ f) (f1 : f < S 10 s) : ∃ σ1 σ2, (∀ (d : Nat) (Q : mb_O → mb_S → Prop), mb_Ex d 73 [.ref (ad 0 0), .ref (ad 17 (40 * s + f))] σ Q = Q (.inl none) σ1) ∧ (∀ (d : Nat) (Q : mb_O → mb_S → Prop), 3 ≤ d → mb_Ex d 72 [.ref (ad 0 0), .ref (ad 14 s), .ref (ad 17 (40 * s + f))] σ1 Q = Q (.inl none) σ2) ∧ rz_R σ2 (pz_rd S s f) ad Fo ∧ rz_F0 Fo σ σ2 ∧ ∃ y, σ1.1 (ad 0 0) = some (.inr (7, y)) := by
  obtain ⟨σ1, a1, a2, a3⟩ := wc_count1 h hW s0 s1 f0 f1
  have w16 := pw_16 hW (40 * s + f)
  obtain ⟨σ2, b1, b2, b3⟩ := wc_keeps (s := s) (f := f) a1 (rz_W_c1 hW h9) s0 (by rw [rz_c1_t (by decide) (by decide) (by decide)]; exact s1) f0 (by rw [rz_c1_t (by decide) (by decide) (by decide)]; exact f1) (by rw [rz_c1_16, if_pos rfl]; omega)
  refine ⟨σ1, σ2, a3, b3, rz_eq b1 (fun x hx => ?_), rz_F0T a2 b2, _, rz_geq a1 (t := 0) (i := 0) rfl (fun _ k => k)⟩
  by_cases e16 : x = 16
  · subst e16
    funext y
    rw [rz_kl_t (by decide), rz_c1_16]
    unfold pz_rd
    rw [pz_su_t (by decide), pz_su_i]
    show _ = if _ then _ else _
    rw [show pz_kps S s f 16 = S 16 from pz_kp_t (by decide) (by decide) (by decide) _ _ _]
  · by_cases e20 : x = 20
    · subst e20
      funext y
      rw [rz_kl_t (by decide), rz_c1_20]
      unfold pz_rd
      rw [pz_su_i, pz_su_t (by decide)]
      rw [show pz_kps S s f 20 = S 20 from pz_kp_t (by decide) (by decide) (by decide) _ _ _]
    · by_cases e17 : x = 17
      · subst e17
        funext y
        rw [rz_kl_17, rz_c1_17]
        unfold pz_rd
        rw [pz_su_t (by decide), pz_su_t (by decide)]
        show pz_kp s f 8 0 S 17 y = _
        rw [rz_kp_17, rz_sv_t (rz_c1_t (by decide) (by decide) (by decide)) (rz_c1_t (by decide) (by decide) (by decide)) (rz_c1_t (by decide) (by decide) (by decide)) (rz_c1_t (by decide) (by decide) (by decide)) (rz_c1_t (by decide) (by decide) (by decide)) (rz_c1_t (by decide) (by decide) (by decide)), rz_c1_t (by decide) (by decide) (by decide)]
        have w1 := pw_1 hW 0
        by_cases c1 : 8 * (40 * s + f) ≤ y ∧ y < 8 * (40 * s + f) + S 1 0
        · rw [if_pos (by omega), if_pos (by omega)]
          unfold pz_kv1
          rw [if_pos (by omega)]
        · by_cases c2 : 8 * (40 * s + f) ≤ y ∧ y < 8 * (40 * s + f) + 8
          · rw [if_pos (by omega), if_neg (by omega)]
            unfold pz_kv1
            rw [if_neg (by omega)]
            by_cases c3 : S 16 (40 * s + f) = 0
            · rw [if_pos ⟨c2, c3⟩]
            · rw [if_neg (fun g => c3 g.2)]
              have k := (rz_I_3 hI s f s0 s1 f0 f1 c3 (y - 8 * (40 * s + f)) (by omega) (by omega)).1
              rw [show 8 * (40 * s + f) + (y - 8 * (40 * s + f)) = y by omega, (hJ.1.1 (y - 8 * (40 * s + f)) (by omega) (by omega)).1] at k
              have w17 := pw_17 hW y
              omega
          · rw [if_neg (by omega), if_neg (by omega), if_neg (fun g => c2 g.1)]
      · rw [rz_kl_t e17, rz_c1_t e16 e17 e20]
        have h18 : x ≠ 18 := fun e => hx (by rw [e]; decide)
        have h19 : x ≠ 19 := fun e => hx (by rw [e]; decide)
        exact pz_rd_t e17 h18 h19 e16 e20
theorem wc_kps {s f : Int} (h : rz_R σ S ad Fo) (hW : pz_W S) (hI : pz_I S) (hJ : rz_J S) (ht : ¬ S 16 (40 * s + f) = 0) (s0 : 0 ≤ s) (s1 : s < S 9 0) (f0 : 0 ≤ f) (f1 : f < S 10 s) : ∃ σ2, (∀ (d : Nat) (Q : mb_O → mb_S → Prop), 3 ≤ d → mb_Ex d 72 [.ref (ad 0 0), .ref (ad 14 s), .ref (ad 17 (40 * s + f))] σ Q = Q (.inl none) σ2) ∧ rz_R σ2 (pz_kps S s f) ad Fo ∧ rz_F0 Fo σ σ2 := by
  obtain ⟨σ2, b1, b2, b3⟩ := wc_keeps h hW s0 s1 f0 f1 ht
  refine ⟨σ2, b3, rz_eq b1 (fun x hx => ?_), b2⟩
  by_cases e17 : x = 17
  · subst e17
    funext y
    rw [rz_kl_17]
    show pz_kp s f 8 0 S 17 y = _
    rw [rz_kp_17]
    have w1 := pw_1 hW 0
    by_cases c1 : 8 * (40 * s + f) ≤ y ∧ y < 8 * (40 * s + f) + S 1 0
    · rw [if_pos (by omega), if_pos (by omega)]
      unfold pz_kv1
      rw [if_pos (by omega)]
    · by_cases c2 : 8 * (40 * s + f) ≤ y ∧ y < 8 * (40 * s + f) + 8
      · rw [if_pos (by omega), if_neg (by omega)]
        unfold pz_kv1
        rw [if_neg (by omega)]
        have k := (rz_I_3 hI s f s0 s1 f0 f1 ht (y - 8 * (40 * s + f)) (by omega) (by omega)).1
        rw [show 8 * (40 * s + f) + (y - 8 * (40 * s + f)) = y by omega, (hJ.1.1 (y - 8 * (40 * s + f)) (by omega) (by omega)).1] at k
        have w17 := pw_17 hW y
        omega
      · rw [if_neg (by omega), if_neg (by omega)]
  · rw [rz_kl_t e17]
    exact pz_kp_t e17 (fun e => hx (by rw [e]; decide)) (fun e => hx (by rw [e]; decide)) _ _ _
end
