/-! p24: what holds between the law's turns -/
section
variable {S S' : pz_S}
/-- two assets, two scenes; small drafts, versions, scenes; keys below 12; frames in their order; notes on frames -/
def lq_I (S : pz_S) : Prop := (S 1 0 = 2 ∧ S 9 0 = 2) ∧ (∀ a : Int, 0 ≤ a → a < 2 → S 3 a ≤ 3) ∧ (∀ a v : Int, 0 ≤ a → a < 2 → 0 ≤ v → v < S 2 a → S 3 (8 + 12 * a + v) ≤ 3) ∧ (∀ s : Int, 0 ≤ s → s < 2 → 1 ≤ S 10 s ∧ S 10 s ≤ 8) ∧ (∀ B : Int, 0 ≤ B → B < 20 → lq_k S B) ∧ (∀ s i : Int, 0 ≤ s → s < 2 → 0 ≤ i → i < S 10 s → S 15 (40 * s + i) < 8) ∧ (∀ s i j : Int, 0 ≤ s → s < 2 → 0 ≤ i → i < j → j < S 10 s → S 15 (40 * s + i) < S 15 (40 * s + j)) ∧ ∀ n : Int, 0 ≤ n → n < S 21 0 → S 22 n < 2 ∧ S 23 n < S 10 (S 22 n)
theorem lq_I_t (h : ∀ x ∈ [1, 2, 3, 5, 6, 9, 10, 15, 21, 22, 23], S' x = S x) (hI : lq_I S) : lq_I S' := by
  have e1 := h 1 (by decide)
  have e2 := h 2 (by decide)
  have e3 := h 3 (by decide)
  have e5 := h 5 (by decide)
  have e6 := h 6 (by decide)
  have e9 := h 9 (by decide)
  have e10 := h 10 (by decide)
  have e15 := h 15 (by decide)
  have e21 := h 21 (by decide)
  have e22 := h 22 (by decide)
  have e23 := h 23 (by decide)
  unfold lq_I lq_k at hI ⊢
  rw [e1, e2, e3, e5, e6, e9, e10, e15, e21, e22, e23]
  exact hI
theorem lq_I_bone {a p : Int} (hI : lq_I S) (a0 : 0 ≤ a) (a1 : a < 2) (h3 : S 3 a < 3) : lq_I (pz_su (pz_su S 4 (10 * a + S 3 a) p) 3 a (S 3 a + 1)) := by
  obtain ⟨i1, i2, i3, i4, i5, i6, i7, i8⟩ := hI
  have t : ∀ x : Nat, x ≠ 3 → x ≠ 4 → pz_su (pz_su S 4 (10 * a + S 3 a) p) 3 a (S 3 a + 1) x = S x := fun x h1 h2 => (pz_su_t h1).trans (pz_su_t h2)
  have e3 : ∀ x, pz_su (pz_su S 4 (10 * a + S 3 a) p) 3 a (S 3 a + 1) 3 x = if x = a then S 3 a + 1 else S 3 x := fun x => by rw [pz_su_i, pz_su_t (by decide)]
  refine ⟨by rw [t 1 (by decide) (by decide), t 9 (by decide) (by decide)]; exact i1, fun c c0 c1 => ?_, fun c v c0 c1 v0 v1 => ?_, by rw [t 10 (by decide) (by decide)]; exact i4, ?_, by rw [t 10 (by decide) (by decide), t 15 (by decide) (by decide)]; exact i6, by rw [t 10 (by decide) (by decide), t 15 (by decide) (by decide)]; exact i7, by rw [t 10 (by decide) (by decide), t 21 (by decide) (by decide), t 22 (by decide) (by decide), t 23 (by decide) (by decide)]; exact i8⟩
  · rw [e3]
    by_cases e : c = a
    · rw [if_pos e]; omega
    · rw [if_neg e]; exact i2 c c0 c1
  · rw [t 2 (by decide) (by decide)] at v1
    rw [e3, if_neg (by omega)]
    exact i3 c v c0 c1 v0 v1
  · unfold lq_k at i5 ⊢
    rw [t 5 (by decide) (by decide), t 6 (by decide) (by decide)]
    exact i5
/-- keys of a draft are changed -/
theorem lq_I_B {B0 : Int} (hI : lq_I S) (hB0 : 0 ≤ B0) (hW : pz_W S) (h : ∀ x, x ∉ [5, 6, 7, 8] → S' x = S x) (h5 : ∀ x, x ≠ B0 → S' 5 x = S 5 x) (h6 : ∀ x, (x < 12 * B0 ∨ 12 * B0 + 12 ≤ x) → S' 6 x = S 6 x) (hk : lq_k S' B0) : lq_I S' := by
  obtain ⟨i1, i2, i3, i4, i5, i6, i7, i8⟩ := hI
  refine ⟨by rw [h 1 (by decide), h 9 (by decide)]; exact i1, by rw [h 3 (by decide)]; exact i2, by rw [h 2 (by decide), h 3 (by decide)]; exact i3, by rw [h 10 (by decide)]; exact i4, fun B b0 b1 => ?_, by rw [h 10 (by decide), h 15 (by decide)]; exact i6, by rw [h 10 (by decide), h 15 (by decide)]; exact i7, by rw [h 10 (by decide), h 21 (by decide), h 22 (by decide), h 23 (by decide)]; exact i8⟩
  by_cases e : B = B0
  · rw [e]; exact hk
  · intro k k0 k1
    rw [h5 B e] at k1
    have w := pw_5 hW B
    rw [h6 _ (by omega)]
    exact i5 B b0 b1 k k0 k1
theorem lq_I_pub {a : Int} (hW : pz_W S) (hI : lq_I S) (a0 : 0 ≤ a) (a1 : a < 2) (h12 : S 2 a < 12) : lq_I (pz_pub S a) := by
  obtain ⟨i1, i2, i3, i4, i5, i6, i7, i8⟩ := hI
  have w2 := pw_2 hW a
  have w3 := pw_3 hW a
  have t : ∀ x : Nat, x ≠ 2 → x ≠ 3 → x ≠ 4 → x ≠ 5 → x ≠ 6 → x ≠ 7 → x ≠ 8 → pz_pub S a x = S x := fun x h2 h3 h4 h5 h6 h7 h8 => rz_pub_t h2 h3 h4 h5 h6 h7 h8
  have t1 : pz_pub S a 1 = S 1 := rz_pub_t (by decide) (by decide) (by decide) (by decide) (by decide) (by decide) (by decide)
  have t9 : pz_pub S a 9 = S 9 := rz_pub_t (by decide) (by decide) (by decide) (by decide) (by decide) (by decide) (by decide)
  have t10 : pz_pub S a 10 = S 10 := rz_pub_t (by decide) (by decide) (by decide) (by decide) (by decide) (by decide) (by decide)
  have t15 : pz_pub S a 15 = S 15 := rz_pub_t (by decide) (by decide) (by decide) (by decide) (by decide) (by decide) (by decide)
  have t21 : pz_pub S a 21 = S 21 := rz_pub_t (by decide) (by decide) (by decide) (by decide) (by decide) (by decide) (by decide)
  have t22 : pz_pub S a 22 = S 22 := rz_pub_t (by decide) (by decide) (by decide) (by decide) (by decide) (by decide) (by decide)
  have t23 : pz_pub S a 23 = S 23 := rz_pub_t (by decide) (by decide) (by decide) (by decide) (by decide) (by decide) (by decide)
  refine ⟨by rw [t1, t9]; exact i1, fun c c0 c1 => ?_, fun c v c0 c1 v0 v1 => ?_, by rw [t10]; exact i4, fun B b0 b1 k k0 k1 => ?_, by rw [t10, t15]; exact i6, by rw [t10, t15]; exact i7, by rw [t10, t21, t22, t23]; exact i8⟩
  · rw [rz_pub_3, if_neg (by omega)]
    exact i2 c c0 c1
  · rw [rz_pub_2] at v1
    have w2' := pw_2 hW c
    rw [rz_pub_3]
    by_cases e : 8 + 12 * c + v = 8 + 12 * a + S 2 a
    · rw [if_pos e]; exact i2 a a0 a1
    · rw [if_neg e]
      refine i3 c v c0 c1 v0 ?_
      by_cases e2 : c = a
      · subst e2; rw [if_pos rfl] at v1; omega
      · rw [if_neg e2] at v1; exact v1
  · rw [rz_pub_5 hW a0 (by omega), if_neg (by omega)] at k1
    have w5 := pw_5 hW B
    rw [rz_pub_6o hW a0 (by omega) (by omega)]
    exact i5 B b0 b1 k k0 k1
theorem lq_I_note {s f : Int} (hI : lq_I S) (s0 : 0 ≤ s) (s1 : s < 2) (f1 : f < S 10 s) : lq_I (pz_su (pz_su (pz_su S 22 (S 21 0) s) 23 (S 21 0) f) 21 0 (S 21 0 + 1)) := by
  obtain ⟨i1, i2, i3, i4, i5, i6, i7, i8⟩ := hI
  have t : ∀ x : Nat, x ≠ 21 → x ≠ 22 → x ≠ 23 → pz_su (pz_su (pz_su S 22 (S 21 0) s) 23 (S 21 0) f) 21 0 (S 21 0 + 1) x = S x := fun x h1 h2 h3 => (pz_su_t h1).trans ((pz_su_t h3).trans (pz_su_t h2))
  have t1 := t 1 (by decide) (by decide) (by decide)
  have t2 := t 2 (by decide) (by decide) (by decide)
  have t3 := t 3 (by decide) (by decide) (by decide)
  have t5 := t 5 (by decide) (by decide) (by decide)
  have t6 := t 6 (by decide) (by decide) (by decide)
  have t9 := t 9 (by decide) (by decide) (by decide)
  have t10 := t 10 (by decide) (by decide) (by decide)
  have t15 := t 15 (by decide) (by decide) (by decide)
  refine ⟨by rw [t1, t9]; exact i1, by rw [t3]; exact i2, by rw [t2, t3]; exact i3, by rw [t10]; exact i4, ?_, by rw [t10, t15]; exact i6, by rw [t10, t15]; exact i7, fun n n0 n1 => ?_⟩
  · unfold lq_k at i5 ⊢
    rw [t5, t6]
    exact i5
  · rw [pz_su_i, if_pos rfl] at n1
    rw [t10, pz_su_t (t := 21) (t' := 22) (by decide), pz_su_t (t := 23) (t' := 22) (by decide), pz_su_t (t := 21) (t' := 23) (by decide), pz_su_i, pz_su_i, pz_su_t (t := 22) (t' := 23) (by decide)]
    by_cases e : n = S 21 0
    · rw [if_pos e, if_pos e]; exact ⟨s1, f1⟩
    · rw [if_neg e, if_neg e]; exact i8 n n0 (by omega)
/-- where a note goes when frames are cut -/
def lq_mv (g k l z : Int) : Int := if g + k ≤ z then z - k else if g ≤ z then (if g < l then g else l - 1) else z
theorem lq_cy {n g k l x : Int} : pz_cy S n g k l 23 x = if x = n then lq_mv g k l (S 23 n) else S 23 x := by
  unfold pz_cy lq_mv
  by_cases c1 : g + k ≤ S 23 n
  · rw [if_pos c1, if_pos c1, pz_su_i]
  · rw [if_neg c1, if_neg c1]
    by_cases c2 : g ≤ S 23 n
    · rw [if_pos c2, if_pos c2, pz_su_t (by decide), pz_su_i]
    · rw [if_neg c2, if_neg c2]
      by_cases e : x = n
      · rw [if_pos e, e]
      · rw [if_neg e]
theorem lq_c2 {s g k l : Int} : ∀ (n : Nat) (i : Int) (S : pz_S) (x : Int), pz_c2 s g k l n i S 23 x = if (i ≤ x ∧ x < i + n) ∧ S 22 x = s then lq_mv g k l (S 23 x) else S 23 x := by
  intro n
  induction n with
  | zero => intro i S x; exact (if_neg (by omega)).symm
  | succ n ih =>
    intro i S x
    show pz_c2 s g k l n (i + 1) (if S 22 i = s then pz_cy S i g k l else S) 23 x = _
    rw [ih]
    have e22 : (if S 22 i = s then pz_cy S i g k l else S) 22 = S 22 := by
      by_cases c : S 22 i = s
      · rw [if_pos c]; exact pz_cy_t (by decide) (by decide)
      · rw [if_neg c]
    have e23 : (if S 22 i = s then pz_cy S i g k l else S) 23 x = if x = i ∧ S 22 i = s then lq_mv g k l (S 23 i) else S 23 x := by
      by_cases c : S 22 i = s
      · rw [if_pos c, lq_cy]
        by_cases e : x = i
        · rw [if_pos e, if_pos ⟨e, c⟩]
        · rw [if_neg e, if_neg (fun h => e h.1)]
      · rw [if_neg c, if_neg (fun h => c h.2)]
    rw [e22, e23]
    by_cases e : x = i
    · subst e
      rw [if_neg (show ¬ ((x + 1 ≤ x ∧ x < x + 1 + n) ∧ S 22 x = s) by omega)]
      by_cases c : S 22 x = s
      · rw [if_pos ⟨rfl, c⟩, if_pos ⟨by omega, c⟩]
      · rw [if_neg (fun h => c h.2), if_neg (fun h => c h.2)]
    · rw [if_neg (show ¬ (x = i ∧ S 22 i = s) from fun h => e h.1)]
      by_cases c : (i + 1 ≤ x ∧ x < i + 1 + n) ∧ S 22 x = s
      · rw [if_pos c, if_pos ⟨by omega, c.2⟩]
      · rw [if_neg c, if_neg (fun h => c ⟨by omega, h.2⟩)]
theorem lq_I_cut {s g k : Int} (hW : pz_W S) (hI : lq_I S) (s0 : 0 ≤ s) (s1 : s < 2) (g0 : 0 ≤ g) (k1 : 1 ≤ k) (hk : k ≤ S 10 s - g) (hk2 : k < S 10 s) : lq_I (pz_cut S s g k) := by
  obtain ⟨i1, i2, i3, i4, i5, i6, i7, i8⟩ := hI
  have hg : g ≤ S 10 s - k := by omega
  have h10 := i4 s s0 s1
  have tc : ∀ x : Nat, x ≠ 23 → x ≠ 25 → pz_cut S s g k x = rz_ct S s g k x := fun x h1 h2 => by rw [rz_cut_e]; exact rz_c2_t h1 h2 _ _ _
  have t : ∀ x : Nat, x ≠ 10 → x ≠ 15 → x ≠ 16 → x ≠ 17 → x ≠ 18 → x ≠ 19 → x ≠ 23 → x ≠ 25 → pz_cut S s g k x = S x := fun x h1 h2 h3 h4 h5 h6 h7 h8 => (tc x h7 h8).trans (rz_ct_t h1 h2 h3 h4 h5 h6)
  have t1 := t 1 (by decide) (by decide) (by decide) (by decide) (by decide) (by decide) (by decide) (by decide)
  have t2 := t 2 (by decide) (by decide) (by decide) (by decide) (by decide) (by decide) (by decide) (by decide)
  have t3 := t 3 (by decide) (by decide) (by decide) (by decide) (by decide) (by decide) (by decide) (by decide)
  have t5 := t 5 (by decide) (by decide) (by decide) (by decide) (by decide) (by decide) (by decide) (by decide)
  have t6 := t 6 (by decide) (by decide) (by decide) (by decide) (by decide) (by decide) (by decide) (by decide)
  have t9 := t 9 (by decide) (by decide) (by decide) (by decide) (by decide) (by decide) (by decide) (by decide)
  have t21 := t 21 (by decide) (by decide) (by decide) (by decide) (by decide) (by decide) (by decide) (by decide)
  have t22 := t 22 (by decide) (by decide) (by decide) (by decide) (by decide) (by decide) (by decide) (by decide)
  have e10 : ∀ x, pz_cut S s g k 10 x = if x = s then S 10 s - k else S 10 x := fun x => by rw [tc 10 (by decide) (by decide), rz_ct_10]
  have e15 : ∀ x, pz_cut S s g k 15 x = if 40 * s + g ≤ x ∧ x < 40 * s + (S 10 s - k) then S 15 (x + k) else S 15 x := fun x => by rw [tc 15 (by decide) (by decide), rz_ct_15 k1 hg]
  have e23 : ∀ n, 0 ≤ n → n < S 21 0 → pz_cut S s g k 23 n = if S 22 n = s then lq_mv g k (S 10 s - k) (S 23 n) else S 23 n := fun n n0 n1 => by
    rw [rz_cut_e, lq_c2, rz_ct_t (t := 22) (by decide) (by decide) (by decide) (by decide) (by decide) (by decide), rz_ct_t (t := 23) (by decide) (by decide) (by decide) (by decide) (by decide) (by decide)]
    exact rz_ic ⟨fun h => h.2, fun h => ⟨by omega, h⟩⟩
  refine ⟨by rw [t1, t9]; exact i1, by rw [t3]; exact i2, by rw [t2, t3]; exact i3, fun c c0 c1 => ?_, ?_, fun c i c0 c1 j0 j1 => ?_, fun c i j c0 c1 j0 j1 j2 => ?_, fun n n0 n1 => ?_⟩
  · rw [e10]
    by_cases e : c = s
    · rw [if_pos e]; omega
    · rw [if_neg e]; exact i4 c c0 c1
  · unfold lq_k at i5 ⊢
    rw [t5, t6]
    exact i5
  · have hc := i4 c c0 c1
    rw [e10] at j1
    rw [e15]
    by_cases e : c = s
    · subst e
      rw [if_pos rfl] at j1
      by_cases c2 : 40 * c + g ≤ 40 * c + i ∧ 40 * c + i < 40 * c + (S 10 c - k)
      · rw [if_pos c2]
        have := i6 c (i + k) c0 c1 (by omega) (by omega)
        rw [← Int.add_assoc] at this
        exact this
      · rw [if_neg c2]; exact i6 c i c0 c1 j0 (by omega)
    · rw [if_neg e] at j1
      rw [if_neg (by omega)]
      exact i6 c i c0 c1 j0 j1
  · have hc := i4 c c0 c1
    rw [e10] at j2
    rw [e15, e15]
    by_cases e : c = s
    · subst e
      rw [if_pos rfl] at j2
      by_cases c2 : g ≤ i
      · rw [if_pos (by omega), if_pos (by omega)]
        have := i7 c (i + k) (j + k) c0 c1 (by omega) (by omega) (by omega)
        rw [← Int.add_assoc, ← Int.add_assoc] at this
        exact this
      · rw [if_neg (by omega)]
        by_cases c3 : g ≤ j
        · rw [if_pos (by omega)]
          have := i7 c i (j + k) c0 c1 (by omega) (by omega) (by omega)
          rw [← Int.add_assoc] at this
          exact this
        · rw [if_neg (by omega)]
          exact i7 c i j c0 c1 j0 j1 (by omega)
    · rw [if_neg e] at j2
      rw [if_neg (by omega), if_neg (by omega)]
      exact i7 c i j c0 c1 j0 j1 j2
  · rw [t21] at n1
    have h8 := i8 n n0 n1
    have w22 := pw_22 hW n
    have w23 := pw_23 hW n
    rw [t22, e10, e23 n n0 n1]
    refine ⟨h8.1, ?_⟩
    by_cases e : S 22 n = s
    · rw [if_pos e, if_pos e]
      have h9 := h8.2
      rw [e] at h9
      unfold lq_mv
      repeat' split
      all_goals omega
    · rw [if_neg e, if_neg e]; exact h8.2
end
