/-! the law: its start -/
set_option maxRecDepth 20000 in
set_option maxHeartbeats 4000000 in
theorem wc_initX {σ : mb_S} {c : Nat} (h0 : σ.1 c = some (.inr (7, [.null, .null, .null, .int 0, .int 0, .int 0, .int 0]))) (h1 : c < σ.2.1) : ∃ σ', σ'.1 c = some (.inr (7, [.ref σ.2.1, .ref (σ.2.1 + 1), .ref (σ.2.1 + 2), .int 0, .int 0, .int 0, .int 0])) ∧ (σ'.1 σ.2.1 = some (.inl (10, 8, .inr (.inr (.inr (.inr (fun _ => none)))))) ∧ σ'.1 (σ.2.1 + 1) = some (.inl (16, 8, .inr (.inr (.inr (.inr (fun _ => none)))))) ∧ σ'.1 (σ.2.1 + 2) = some (.inl (14, 40, .inr (.inr (.inr (.inr (fun _ => none))))))) ∧ (∀ q, q < σ.2.1 → q ≠ c → σ'.1 q = σ.1 q) ∧ (σ'.2.1 = σ.2.1 + 3 ∧ σ'.2.2 = σ.2.2 + 56) ∧ ∀ (d : Nat) (Q : mb_O → mb_S → Prop), 1 ≤ d → mb_Ex d 40 [.ref c] σ Q = Q (.inl none) σ' := by
  refine ⟨(mb_up (mb_al (mb_up (mb_al (mb_up (mb_al σ (.inl (10, 8, .inr (.inr (.inr (.inr (fun _ => none)))))) 8) c (.inr (7, [.ref σ.2.1, .null, .null, .int 0, .int 0, .int 0, .int 0]))) (.inl (16, 8, .inr (.inr (.inr (.inr (fun _ => none)))))) 8) c (.inr (7, [.ref σ.2.1, .ref (σ.2.1 + 1), .null, .int 0, .int 0, .int 0, .int 0]))) (.inl (14, 40, .inr (.inr (.inr (.inr (fun _ => none)))))) 40) c (.inr (7, [.ref σ.2.1, .ref (σ.2.1 + 1), .ref (σ.2.1 + 2), .int 0, .int 0, .int 0, .int 0]))), gu_ae, ⟨by rw [gu_at (by omega), ga_at (by first | omega | (simp only [ga_n, gu_n]; omega)), gu_at (by omega), ga_at (by first | omega | (simp only [ga_n, gu_n]; omega)), gu_at (by omega)] <;> exact if_pos rfl, by rw [gu_at (by omega), ga_at (by first | omega | (simp only [ga_n, gu_n]; omega)), gu_at (by omega), ga_ae (by simp only [ga_n, gu_n])], by rw [gu_at (by omega), ga_ae (by simp only [ga_n, gu_n])]⟩, fun q h2 h3 => by rw [gu_at (by omega), ga_at (by first | omega | (simp only [ga_n, gu_n]; omega)), gu_at (by omega), ga_at (by first | omega | (simp only [ga_n, gu_n]; omega)), gu_at (by omega), ga_at (by first | omega | (simp only [ga_n, gu_n]; omega))], ⟨rfl, rfl⟩, fun d Q hd => ?_⟩
  show mb_Rn d 40 0 [some (.ref c)] [] σ Q = _
  repeat' (first | (simp (config := {maxSteps := 1000000}) (disch := first | assumption | omega | (simp only [ga_n, gu_n]; omega) | exact Nat.le_of_ble_eq_true rfl | (intro _; first | rfl | simp (disch := decide) only [pz_su_t])) only [sX7_init_0, sX7_init_0n, sX7_init_1, sX7_init_4, sX7_init_4n, sX7_init_5, sX7_init_7, sX7_init_10, sX7_init_10n, sX7_init_13, sX7_init_13n, sX7_init_14, sX7_init_16, sX7_init_19, sX7_init_19n, sX7_init_22, sX7_init_22n, sX7_init_23, sX7_init_25, sX7_init_28, sX7_init_28n, sX7_init_31, pz_add, pz_mul, pz_neg, pz_sub, pz_lt, pz_le, pz_eq, pz_b0, pz_b1, pz_bb, pz_ix, Int.sub_zero, Int.zero_add, Int.add_zero, Int.mul_zero, mb_qk, mb_qx, if_true, if_false, true_or, or_true, false_or, or_false, and_true, true_and, and_false, false_and, not_true_eq_false, not_false_eq_true, ite_self, List.lookup, List.length_cons, List.length_nil, ite_not, Nat.reduceAdd, Int.reduceEq, Int.reduceLT, Int.reduceLE, pz_gf h0, ga_gf, ga_gi, ga_gq, ga_gfe, ga_gie, ga_gqe, ga_n, gu_n, gu_gf, gu_gi, gu_gq, gu_gfe, gu_gie, gu_gqe, List.set_cons_zero, List.set_cons_succ, Nat.reduceLT, Nat.reduceLeDiff, Nat.add_assoc, List.getD_cons_zero, List.getD_cons_succ]) | split)
theorem rz_In0 : rz_In pz_S0 := by
  have hb : ∀ t, t < 26 → pz_bl t ≤ 0 ∧ 0 ≤ pz_bh t := by decide
  refine ⟨fun t i h1 h2 => hb t h2, ⟨fun B k _ _ k0 k1 => ?_, fun r b _ _ b0 b1 => ?_⟩, ⟨fun s a _ _ _ _ h => absurd rfl h, fun a v _ _ v0 v1 => ?_, fun s f a s0 s1 _ _ _ _ _ => ?_⟩, ⟨⟨fun _ _ _ => ⟨rfl, rfl⟩, fun _ _ _ _ _ _ => rfl⟩, fun _ _ _ _ _ _ => ⟨rfl, rfl, fun _ _ _ => ⟨rfl, rfl, rfl⟩⟩, fun _ _ _ => ⟨fun _ _ _ => rfl, fun _ _ _ => rfl⟩, fun _ _ _ => ⟨rfl, rfl⟩⟩⟩
  · have : k + 1 < 0 := k1
    omega
  · have : b < 0 := b1
    omega
  · have : v < 0 := v1
    omega
  · have : s < 0 := s1
    omega
def rz_Fo (B : Nat) (q : Nat) : Prop := q < B ∨ (B + 4 ≤ q ∧ q < B + 27)
theorem rz_R0 {σ : mb_S} {B : Nat} {g1 g2 g3 : Nat → Option Nat} (h0 : σ.1 B = some (.inr (7, [.ref (B + 1), .ref (B + 2), .ref (B + 3), .int 0, .int 0, .int 0, .int 0]))) (h1 : σ.1 (B + 1) = some (.inl (10, 8, .inr (.inr (.inr (.inr g1)))))) (h2 : σ.1 (B + 2) = some (.inl (16, 8, .inr (.inr (.inr (.inr g2)))))) (h3 : σ.1 (B + 3) = some (.inl (14, 40, .inr (.inr (.inr (.inr g3)))))) (hn : σ.2.1 = B + 27) : rz_R σ pz_S0 (fun t _ => B + t) (rz_Fo B) := by
  have rl : ∀ r, ¬ rz_rl pz_S0 r := fun r ⟨k1, k2, k3, k4⟩ => by
    by_cases e : r < 8
    · have : r < 0 := k3 e
      omega
    · have : (r - 8) / 12 < 0 := (k4 (by omega)).1
      omega
  have lo : ∀ t i, rz_lv pz_S0 t i → t ≤ 3 ∧ i = 0 := by
    refine rz_tag (fun i k => ⟨by omega, k⟩) (fun i k => ⟨by omega, k⟩) (fun i k => ⟨by omega, k⟩) (fun i k => ⟨by omega, k⟩) (fun i k => ?_) (fun i k => ?_) (fun i k => absurd k (rl i)) (fun i k => absurd k (rl i)) (fun i k => absurd k (rl i)) (fun i k => absurd k.1 (rl i)) (fun i k => absurd k.1 (rl _)) (fun i k => absurd k.1 (rl _)) (fun i k => absurd k.1 (rl _)) (fun i k => absurd k.1 (rl _)) (fun i k => ?_) (fun i k => ?_) (fun i k => ?_) (fun i k => ?_) (fun i k => ?_) (fun i k => ?_) (fun i k => ?_) (fun t i k => False.elim k)
    · have : i < 0 := k.2
      have := k.1; omega
    · have : i < 0 := k.2
      have := k.1; omega
    · have : i < 0 := k.2
      have := k.1; omega
    · have : i < 0 := k.2
      have := k.1; omega
    · have : i < 0 := k.2
      have := k.1; omega
    · have : i / 40 < 0 := k.2.1
      have := k.1; omega
    · have : i / 40 < 0 := k.2.1
      have := k.1; omega
    · have : i / 8 < 0 := k.2.1
      have := k.1; omega
    · have : i < 0 := k.2
      have := k.1; omega
  refine ⟨fun t i hl => ?_, fun t i t' i' hl hl' e => ?_, fun q hq => ?_⟩
  · obtain ⟨ht, hi⟩ := lo t i hl
    refine ⟨?_, (show B + t < σ.2.1 by rw [hn]; omega), fun hf => by
      have hf' : B + t < B ∨ (B + 4 ≤ B + t ∧ B + t < B + 27) := hf
      omega⟩
    rcases (show t = 0 ∨ t = 1 ∨ t = 2 ∨ t = 3 by omega) with e | e | e | e <;> subst e
    · exact ⟨_, h0, rfl⟩
    · exact ⟨_, h1, _, rfl, fun j j0 j1 => by have : j < 0 := j1; omega⟩
    · exact ⟨_, h2, _, rfl, fun j j0 j1 => by have : j < 0 := j1; omega⟩
    · exact ⟨_, h3, _, rfl, fun j j0 j1 => by have : j < 0 := j1; omega⟩
  · have a := lo t i hl
    have b := lo t' i' hl'
    have e2 : B + t = B + t' := e
    exact ⟨by omega, by omega⟩
  · rw [hn]; rcases hq with hq | hq <;> omega
set_option maxRecDepth 20000 in
set_option maxHeartbeats 4000000 in
theorem lh_start {σ : mb_S} {a0 n : Nat} {f : Nat → Int32} (hs : σ.1 a0 = some (.inl (9, n, .inl f))) (ha : a0 < σ.2.1) (hn : n ≤ 3072) : ∃ σ', (σ.2.1 ≤ σ'.2.1 ∧ σ'.2.1 ≤ σ.2.1 + 60000 ∧ σ'.2.2 ≤ σ.2.2 + 700000) ∧ ∀ (d : Nat) (Q : mb_O → mb_S → Prop), 11 ≤ d → mb_Rn d 161 0 [some (.ref a0), none, none, none, none, none, none] [] σ Q = Q (.inl (some (.int (iI (1))))) σ' := by
  obtain ⟨σ1, a1, ⟨a2, a3, a4⟩, a5, ⟨a6, a7⟩, a8⟩ := wc_initX (σ := mb_al σ (.inr (7, [.null, .null, .null, .int 0, .int 0, .int 0, .int 0])) 7) (c := σ.2.1) (if_pos rfl) (by simp only [ga_n]; omega)
  simp only [ga_n, ga_m, Nat.add_assoc, Nat.reduceAdd] at a1 a2 a3 a4 a5 a6 a7
  have hI := fun (d : Nat) (Q : mb_O → mb_S → Prop) (hd : 1 ≤ d) => pc_init (Q := Q) (σ := mb_al σ1 (.inr (8, [.int 0, .int 0, .null, .null, .null, .null, .null, .null, .null, .int 0, .null, .null, .null, .null, .null, .null, .null, .null, .null, .null, .int 0, .int 0, .null, .null, .null, .null])) 26) (m := σ1.2.1) hd (if_pos rfl) rfl
  obtain ⟨τ, τE⟩ : ∃ τ : mb_S, τ = pz_mp ((mb_al σ1 (.inr (8, [.int 0, .int 0, .null, .null, .null, .null, .null, .null, .null, .int 0, .null, .null, .null, .null, .null, .null, .null, .null, .null, .null, .int 0, .int 0, .null, .null, .null, .null])) 26).1, σ1.2.1 + 22, (mb_al σ1 (.inr (8, [.int 0, .int 0, .null, .null, .null, .null, .null, .null, .null, .int 0, .null, .null, .null, .null, .null, .null, .null, .null, .null, .null, .int 0, .int 0, .null, .null, .null, .null])) 26).2.2 + pz_sl 21) σ1.2.1 0 pz_S0 := ⟨_, rfl⟩
  rw [← τE] at hI
  have t21 : τ.2.1 = σ.2.1 + 26 := by rw [τE]; show σ1.2.1 + 22 = _; omega
  have t22 : τ.2.2 = σ.2.2 + 89 + pz_sl 21 := by rw [τE]; show σ1.2.2 + 26 + pz_sl 21 = _; omega
  have tq : ∀ q, q < σ1.2.1 → τ.1 q = σ1.1 q := fun q hq => by rw [τE, rz_mpo (Or.inl hq)]; exact ga_at (n := 26) (by omega)
  have tm : pz_mp τ σ1.2.1 0 pz_S0 = τ := by rw [τE]; exact rz_mpI
  obtain ⟨σ2, σE⟩ : ∃ σ2 : mb_S, σ2 = mb_al τ (.inl (1, 1, .inr (.inl (fun _ => 0)))) 1 := ⟨_, rfl⟩
  have sq : ∀ q, q < σ1.2.1 → σ2.1 q = σ1.1 q := fun q hq => by rw [σE, ga_at (by omega)]; exact tq q hq
  have sn : σ2.2.1 = σ.2.1 + 27 := by rw [σE, ga_n, t21]
  have so : σ2.1 (σ.2.1 + 26) = some (.inl (1, 1, .inr (.inl (fun _ => 0)))) := by rw [σE]; exact if_pos t21.symm
  have hR := rz_R0 (σ := σ2) (B := σ.2.1) (by rw [sq _ (by omega)]; exact a1) (by rw [sq _ (by omega)]; exact a2) (by rw [sq _ (by omega)]; exact a3) (by rw [sq _ (by omega)]; exact a4) sn
  have hm : pz_mp σ2 (σ.2.1 + 4) 0 pz_S0 = σ2 := by
    rw [a6] at tm
    exact rz_mpF tm (fun q q1 q2 => by rw [σE]; exact ga_at (by omega))
  have hst : rz_St σ2 pz_S0 (fun t _ => σ.2.1 + t) 0 σ.2.1 (σ.2.1 + 4) (σ.2.1 + 26) (rz_Fo σ.2.1) := ⟨⟨hR, rfl⟩, rz_In0, hm, _, so⟩
  have hF : rz_Fx (σ.2.1 + 4) (σ.2.1 + 26) (rz_Fo σ.2.1) := ⟨fun q q1 q2 => Or.inr ⟨q1, by omega⟩, Or.inr ⟨by omega, by omega⟩, Or.inr (by omega)⟩
  have hs2 : σ2.1 a0 = some (.inl (9, n, .inl f)) := by
    rw [sq a0 (by omega), a5 a0 (by omega) (by omega), ga_at (by omega)]
    exact hs
  obtain ⟨σ3, r1, ⟨r2, r3, r4⟩, r5⟩ := lh_loop hF (Or.inl ha) (by omega) (by omega) hn 512 0 σ2 pz_S0 _ 0 none none hst (fun j => Int.le_refl 0) hs2 (by omega) (by omega) (by omega)
  have e21 : pz_sl 21 = 71416 := rfl
  have sm : σ2.2.2 = σ.2.2 + 90 + pz_sl 21 := by rw [σE, ga_m, t22]; omega
  refine ⟨σ3, ⟨by omega, by omega, by omega⟩, fun d Q hd => ?_⟩
  have r6 := r5 d Q hd
  rw [σE] at r6
  have e20 : ∀ s, mb_Rn d 161 20 [some (.ref a0), some (.ref σ.2.1), some (.ref (σ.2.1 + 4)), some (.ref (σ.2.1 + 26)), none, none, none] [] s Q = mb_Rn d 161 23 [some (.ref a0), some (.ref σ.2.1), some (.ref (σ.2.1 + 4)), some (.ref (σ.2.1 + 26)), some (.int (iI 0)), none, none] [] s Q := fun s => by simp only [sL_law_20, sL_law_21]; rfl
  have a9 := fun Q => a8 (d - 1) Q (by omega)
  have hI' := fun Q => hI (d - 1) Q (by omega)
  rw [← a6] at e20 r6
  rw [show σ.2.1 + 26 = τ.2.1 from t21.symm] at e20 r6
  repeat' (first | (simp (config := {maxSteps := 1000000}) (disch := first | assumption | omega | (simp only [ga_n, gu_n]; omega) | exact Nat.le_of_ble_eq_true rfl | (intro _; first | rfl | simp (disch := decide) only [pz_su_t])) only [sL_law_0, sL_law_3, sL_law_3i, sL_law_4, sL_law_7, sL_law_7n, sL_law_8, sL_law_11, sL_law_11i, sL_law_12, sL_law_15, sL_law_15n, sL_law_16, sL_law_17, sL_law_19, sL_law_19n, pz_add, pz_mul, pz_neg, pz_sub, pz_lt, pz_le, pz_eq, pz_b0, pz_b1, pz_bb, pz_ix, Int.sub_zero, Int.zero_add, Int.add_zero, Int.mul_zero, mb_qk, mb_qx, if_true, if_false, true_or, or_true, false_or, or_false, and_true, true_and, and_false, false_and, not_true_eq_false, not_false_eq_true, ite_self, List.lookup, List.length_cons, List.length_nil, ite_not, Nat.reduceAdd, Int.reduceEq, Int.reduceLT, Int.reduceLE, a9, hI', e20, r6]) | split)
