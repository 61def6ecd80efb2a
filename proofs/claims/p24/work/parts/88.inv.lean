/-! what holds of the reference's state stays so -/
section
variable {S S' : pz_S}
theorem rz_sh_6 {B : Int} : ∀ (n : Nat) (i : Int) (S : pz_S) (k : Int), pz_sh B n i S 6 (12 * B + k) = if i - n < k ∧ k ≤ i then S 6 (12 * B + k - 1) else S 6 (12 * B + k) := by
  intro n
  induction n with
  | zero => intro i S k; rw [if_neg (by omega)]; rfl
  | succ n ih =>
    intro i S k
    refine (ih (i - 1) _ k).trans ?_
    rw [pz_cp_6, pz_cp_6]
    by_cases c : k = i
    · rw [if_neg (by omega), if_pos (by omega), if_pos (by omega), c]
    · by_cases c2 : i - 1 - n < k ∧ k ≤ i - 1
      · rw [if_pos c2, if_neg (by omega), if_pos (by omega)]
      · rw [if_neg c2, if_neg (by omega), if_neg (by omega)]
theorem rz_sd_6 {B : Int} : ∀ (n : Nat) (i : Int) (S : pz_S) (k : Int), pz_sd B n i S 6 (12 * B + k) = if i ≤ k ∧ k < i + n then S 6 (12 * B + k + 1) else S 6 (12 * B + k) := by
  intro n
  induction n with
  | zero => intro i S k; rw [if_neg (by omega)]; rfl
  | succ n ih =>
    intro i S k
    refine (ih (i + 1) _ k).trans ?_
    rw [pz_cp_6, pz_cp_6]
    by_cases c : k = i
    · rw [if_neg (by omega), if_pos (by omega), if_pos (by omega), c]
    · by_cases c2 : i + 1 ≤ k ∧ k < i + 1 + n
      · rw [if_pos c2, if_neg (by omega), if_pos (by omega)]
      · rw [if_neg c2, if_neg (by omega), if_neg (by omega)]
theorem rz_W_put (hW : pz_W S) {B f v w : Int} (h : pz_are f v w) (h12 : S 5 B < 12 ∨ pz_iK S B f) : pz_W (pz_put S B f v w) := by
  obtain ⟨⟨f0, f1⟩, ⟨v0, v1⟩, w0, w1⟩ := h
  have w5 := pw_5 hW B
  unfold pz_put
  by_cases c : pz_iK S B f
  · rw [if_pos c]; exact pw_lay hW f0 f1 v0 v1 w0 w1
  · rw [if_neg c]
    have := h12.resolve_right c
    exact pw_lay (pws_5 (pw_sh _ _ _ hW) (by omega) (by omega)) f0 f1 v0 v1 w0 w1
theorem rz_V_put (hW : pz_W S) (hV : pz_V S) {B0 f v w : Int} (hB0 : 0 ≤ B0) (hB1 : B0 < 1040) (h12 : S 5 B0 < 12 ∨ pz_iK S B0 f) : pz_V (pz_put S B0 f v w) := by
  have wk := pz_kA_r hW B0 f
  have w5 := pw_5 hW B0
  refine ⟨fun B k b0 b1 k0 k1 => ?_, fun r b r0 r1 b0 b1 => ?_⟩
  · by_cases e : B = B0
    · subst e
      by_cases c : pz_iK S B f
      · have e6 : ∀ x, pz_put S B f v w 6 x = S 6 x := fun x => by
          unfold pz_put
          rw [if_pos c, pz_lay_6]
          by_cases ex : x = 12 * B + pz_kA S B f
          · rw [if_pos ex, ex, c.2]
          · rw [if_neg ex]
        have e5 : pz_put S B f v w 5 B = S 5 B := by
          unfold pz_put
          rw [if_pos c, pz_lay_t (by decide) (by decide) (by decide)]
        rw [e5] at k1
        rw [e6, e6]
        exact hV.1 B k b0 b1 k0 k1
      · have h12' := h12.resolve_right c
        have e6 : ∀ j, pz_put S B f v w 6 (12 * B + j) = if j = pz_kA S B f then f else if pz_kA S B f < j ∧ j ≤ S 5 B then S 6 (12 * B + j - 1) else S 6 (12 * B + j) := fun j => by
          unfold pz_put
          rw [if_neg c, pz_lay_6, pz_su_t (by decide), rz_sh_6]
          by_cases ej : j = pz_kA S B f
          · rw [if_pos (by omega), if_pos ej]
          · rw [if_neg (by omega), if_neg ej]
            unfold pz_kn
            exact rz_ic (by omega)
        have e5 : pz_put S B f v w 5 B = S 5 B + 1 := by
          unfold pz_put
          rw [if_neg c, pz_lay_t (by decide) (by decide) (by decide), pz_su_e]
        rw [e5] at k1
        have lt : ∀ j, 0 ≤ j → j < pz_kA S B f → S 6 (12 * B + j) < f := fun j j0 j1 => Decidable.not_not.1 (pz_fd_no (c := fun k => ¬ S 6 (12 * B + k) < f) (S 5 B).toNat 0 j j0 j1)
        have gt : pz_kA S B f < S 5 B → f < S 6 (12 * B + pz_kA S B f) := fun h => by
          have g : ¬ S 6 (12 * B + pz_kA S B f) < f := pz_fd_yes (c := fun k => ¬ S 6 (12 * B + k) < f) (S 5 B).toNat 0 (by show pz_kA S B f < _; omega)
          have g2 : ¬ S 6 (12 * B + pz_kA S B f) = f := fun e => c ⟨h, e⟩
          omega
        have h1 := e6 k
        have h2 := e6 (k + 1)
        rw [← Int.add_assoc] at h2
        rw [h1, h2]
        by_cases c1 : k = pz_kA S B f
        · rw [if_pos c1, if_neg (by omega), if_pos (by omega), show 12 * B + k + 1 - 1 = 12 * B + pz_kA S B f by omega]
          exact gt (by omega)
        · rw [if_neg c1]
          by_cases c2 : k + 1 = pz_kA S B f
          · rw [if_pos c2, if_neg (by omega)]
            exact lt k k0 (by omega)
          · rw [if_neg c2]
            by_cases c3 : k < pz_kA S B f
            · rw [if_neg (by omega), if_neg (by omega)]
              exact hV.1 B k b0 b1 k0 (by omega)
            · rw [if_pos (by omega), if_pos (by omega)]
              have := hV.1 B (k - 1) b0 b1 (by omega) (by omega)
              rw [show 12 * B + (k - 1) = 12 * B + k - 1 by omega, show 12 * B + k - 1 + 1 = 12 * B + k + 1 - 1 by omega] at this
              exact this
    · rw [pz_put_5 e] at k1
      have w5b := pw_5 hW B
      rw [(pz_put_o hW h12 (by omega)).1, (pz_put_o hW h12 (by omega)).1]
      exact hV.1 B k b0 b1 k0 k1
  · rw [pz_put_t (by decide) (by decide) (by decide) (by decide)] at b1 ⊢
    exact hV.2 r b r0 r1 b0 b1
/-- a key taken -/
abbrev rz_tk (S : pz_S) (B f : Int) : pz_S := pz_sd B (S 5 B - 1 - pz_kA S B f).toNat (pz_kA S B f) (pz_su S 5 B (S 5 B - 1))
theorem rz_tk_t {B f : Int} {t : Nat} (h5 : t ≠ 5) (h6 : t ≠ 6) (h7 : t ≠ 7) (h8 : t ≠ 8) : rz_tk S B f t = S t := (pz_sd_t h6 h7 h8 _ _ _).trans (pz_su_t h5)
theorem rz_tk_5 {B f x : Int} : rz_tk S B f 5 x = if x = B then S 5 B - 1 else S 5 x := by
  show pz_sd _ _ _ _ 5 x = _
  rw [pz_sd_t (by decide) (by decide) (by decide), pz_su_i]
theorem rz_tk_o (hW : pz_W S) {B f x : Int} (hk : pz_kA S B f < S 5 B) (hx : x < 12 * B ∨ 12 * B + 12 ≤ x) : rz_tk S B f 6 x = S 6 x ∧ rz_tk S B f 7 x = S 7 x ∧ rz_tk S B f 8 x = S 8 x := by
  have wk := pz_kA_r hW B f
  have w5 := pw_5 hW B
  have k := pz_sd_o (B := B) (S 5 B - 1 - pz_kA S B f).toNat (pz_kA S B f) (pz_su S 5 B (S 5 B - 1)) x wk.1 (by omega) hx
  exact ⟨k.1.trans (by rw [pz_su_t (by decide)]), k.2.1.trans (by rw [pz_su_t (by decide)]), k.2.2.trans (by rw [pz_su_t (by decide)])⟩
theorem rz_W_tk (hW : pz_W S) {B f : Int} (hk : pz_kA S B f < S 5 B) : pz_W (rz_tk S B f) := by
  have wk := pz_kA_r hW B f
  have w5 := pw_5 hW B
  exact pw_sd _ _ _ (pws_5 hW (by omega) (by omega))
theorem rz_V_tk (hW : pz_W S) (hV : pz_V S) {B0 f : Int} (hk : pz_kA S B0 f < S 5 B0) : pz_V (rz_tk S B0 f) := by
  have wk := pz_kA_r hW B0 f
  have w5 := pw_5 hW B0
  refine ⟨fun B k b0 b1 k0 k1 => ?_, fun r b r0 r1 b0 b1 => ?_⟩
  · rw [rz_tk_5] at k1
    by_cases e : B = B0
    · subst e
      rw [if_pos rfl] at k1
      have e6 : ∀ j, rz_tk S B f 6 (12 * B + j) = if pz_kA S B f ≤ j ∧ j < S 5 B - 1 then S 6 (12 * B + j + 1) else S 6 (12 * B + j) := fun j => by
        show pz_sd _ _ _ _ 6 _ = _
        rw [rz_sd_6, pz_su_t (by decide)]
        exact rz_ic (by omega)
      have h1 := e6 k
      have h2 := e6 (k + 1)
      rw [← Int.add_assoc] at h2
      rw [h1, h2]
      by_cases c : pz_kA S B f ≤ k
      · rw [if_pos (by omega), if_pos (by omega)]
        have := hV.1 B (k + 1) b0 b1 (by omega) (by omega)
        rw [← Int.add_assoc] at this
        exact this
      · rw [if_neg (by omega)]
        by_cases c2 : k + 1 = pz_kA S B f
        · rw [if_pos (by omega)]
          have a1 := hV.1 B k b0 b1 k0 (by omega)
          have a2 := hV.1 B (k + 1) b0 b1 (by omega) (by omega)
          rw [← Int.add_assoc] at a2
          omega
        · rw [if_neg (by omega)]
          exact hV.1 B k b0 b1 k0 (by omega)
    · rw [if_neg e] at k1
      have w5b := pw_5 hW B
      rw [(rz_tk_o hW hk (by omega)).1, (rz_tk_o hW hk (by omega)).1]
      exact hV.1 B k b0 b1 k0 k1
  · rw [rz_tk_t (by decide) (by decide) (by decide) (by decide)] at b1 ⊢
    exact hV.2 r b r0 r1 b0 b1
/-- drafts are changed: what is kept stays right -/
theorem rz_I_dr (hW : pz_W S) (hI : pz_I S) (h : ∀ x, x ∉ [3, 4, 5, 6, 7, 8, 13, 14, 20, 21, 22, 23, 24, 25] → S' x = S x) (h3 : ∀ x, 8 ≤ x → S' 3 x = S 3 x) (h4 : ∀ x, 80 ≤ x → S' 4 x = S 4 x ∧ S' 5 x = S 5 x) (h6 : ∀ x, 960 ≤ x → S' 6 x = S 6 x ∧ S' 7 x = S 7 x ∧ S' 8 x = S 8 x) : pz_I S' := by
  refine rz_I_of ?_ ?_ ?_
  · rw [h 1 (by decide), h 2 (by decide), h 11 (by decide), h 12 (by decide)]; exact hI.1
  · rw [h 2 (by decide)]
    intro a v a0 a1 v0 v1
    rw [h3 _ (by omega)]
    exact hI.2.1 a v a0 a1 v0 v1
  · rw [h 9 (by decide), h 10 (by decide), h 16 (by decide)]
    intro s f s0 s1 f0 f1 ht a a0 a1
    obtain ⟨k1, k2, k3⟩ := rz_I_3 hI s f s0 s1 f0 f1 ht a a0 a1
    have w17 := pw_17 hW (8 * (40 * s + f) + a)
    have w18 := pw_18 hW (8 * (40 * s + f) + a)
    rw [h 2 (by decide), h 15 (by decide), h 17 (by decide), h 18 (by decide), h 19 (by decide)]
    refine ⟨k1, ?_, fun b b0 b1 => ?_⟩
    · rw [k2]
      by_cases e : S 17 (8 * (40 * s + f) + a) = -1
      · rw [if_pos e, if_pos e]
      · rw [if_neg e, if_neg e, h3 _ (by omega)]
    · have e : ¬ S 17 (8 * (40 * s + f) + a) = -1 := fun e => by rw [k2, if_pos e] at b1; omega
      rw [k3 b b0 b1]
      refine congrArg iI (rz_po hW (fun b b0 b1 => ⟨(h4 _ (by omega)).1, (h4 _ (by omega)).2, fun k k0 k1 => h6 _ (by omega)⟩) 10 b (by omega) (by omega)).symm
theorem rz_J_B (hW : pz_W S) (hJ : rz_J S) {B0 a b0 : Int} (hB : B0 = 10 * a + b0) (ha0 : 0 ≤ a) (hb : 0 ≤ b0) (hb1 : b0 < S 3 a) (hb2 : S 3 a ≤ 10) (h : ∀ x, x ∉ [5, 6, 7, 8] → S' x = S x) (h5 : ∀ x, x ≠ B0 → S' 5 x = S 5 x) (h6 : ∀ x, (x < 12 * B0 ∨ 12 * B0 + 12 ≤ x) → S' 6 x = S 6 x ∧ S' 7 x = S 7 x ∧ S' 8 x = S 8 x) : rz_J S' := by
  refine ⟨?_, ?_, ?_, ?_⟩
  · rw [h 1 (by decide), h 2 (by decide), h 3 (by decide)]; exact hJ.1
  · rw [h 3 (by decide), h 4 (by decide)]
    intro r b r0 r1 b1 b2
    have q := hJ.2.1 r b r0 r1 b1 b2
    have w3 := pw_3 hW r
    have e : 10 * r + b ≠ B0 := by
      by_cases e : r = a
      · subst e; omega
      · omega
    refine ⟨q.1, by rw [h5 _ e]; exact q.2.1, fun k k0 k1 => ?_⟩
    have z := h6 (12 * (10 * r + b) + k) (by omega)
    rw [z.1, z.2.1, z.2.2]; exact q.2.2 k k0 k1
  · rw [h 9 (by decide), h 11 (by decide), h 16 (by decide)]; exact hJ.2.2.1
  · rw [h 21 (by decide), h 24 (by decide), h 25 (by decide)]; exact hJ.2.2.2
/-- all that holds of the reference's state -/
def rz_In (S : pz_S) : Prop := pz_W S ∧ pz_V S ∧ pz_I S ∧ rz_J S
theorem rz_In_put {a b f v w : Int} (h : rz_In S) (c : pz_isB S a (-1) b) (c2 : pz_are f v w) (c3 : ¬ (S 5 (10 * a + b) = 12 ∧ ¬ pz_iK S (10 * a + b) f)) : rz_In (pz_put S (10 * a + b) f v w) := by
  obtain ⟨hW, hV, hI, hJ⟩ := h
  have hl := rz_lB hW c
  obtain ⟨⟨⟨a0, a1⟩, _⟩, b0, b1⟩ := c
  rw [show pz_rg a (-1) = a from if_pos rfl] at b1
  have w3 := pw_3 hW a
  have w5 := pw_5 hW (10 * a + b)
  have h12 : S 5 (10 * a + b) < 12 ∨ pz_iK S (10 * a + b) f := by
    by_cases g : pz_iK S (10 * a + b) f
    · exact Or.inr g
    · exact Or.inl (by have : ¬ S 5 (10 * a + b) = 12 := fun k => c3 ⟨k, g⟩; omega)
  have tt : ∀ x, x ∉ [5, 6, 7, 8] → pz_put S (10 * a + b) f v w x = S x := fun x hx => pz_put_t (fun e => hx (by rw [e]; decide)) (fun e => hx (by rw [e]; decide)) (fun e => hx (by rw [e]; decide)) (fun e => hx (by rw [e]; decide))
  refine ⟨rz_W_put hW c2 h12, rz_V_put hW hV (by omega) (by omega) h12, rz_I_dr hW hI (fun x hx => tt x (by revert hx; simp; omega)) (fun x _ => by rw [tt 3 (by decide)]) (fun x hx => ⟨by rw [tt 4 (by decide)], pz_put_5 (by omega)⟩) (fun x hx => pz_put_o hW h12 (by omega)), rz_J_B hW hJ rfl a0 b0 (by omega) w3.2 tt (fun x hx => pz_put_5 hx) (fun x hx => pz_put_o hW h12 hx)⟩
theorem rz_In_tk {a b f : Int} (h : rz_In S) (c : pz_isB S a (-1) b) (c3 : pz_iK S (10 * a + b) f) : rz_In (rz_tk S (10 * a + b) f) := by
  obtain ⟨hW, hV, hI, hJ⟩ := h
  have hl := rz_lB hW c
  obtain ⟨⟨⟨a0, a1⟩, _⟩, b0, b1⟩ := c
  rw [show pz_rg a (-1) = a from if_pos rfl] at b1
  have w3 := pw_3 hW a
  have hk := c3.1
  have tt : ∀ x, x ∉ [5, 6, 7, 8] → rz_tk S (10 * a + b) f x = S x := fun x hx => rz_tk_t (fun e => hx (by rw [e]; decide)) (fun e => hx (by rw [e]; decide)) (fun e => hx (by rw [e]; decide)) (fun e => hx (by rw [e]; decide))
  refine ⟨rz_W_tk hW hk, rz_V_tk hW hV hk, rz_I_dr hW hI (fun x hx => tt x (by revert hx; simp; omega)) (fun x _ => by rw [tt 3 (by decide)]) (fun x hx => ⟨by rw [tt 4 (by decide)], by rw [rz_tk_5, if_neg (by omega)]⟩) (fun x hx => rz_tk_o hW hk (by omega)), rz_J_B hW hJ rfl a0 b0 (by omega) w3.2 tt (fun x hx => by rw [rz_tk_5, if_neg hx]) (fun x hx => rz_tk_o hW hk hx)⟩
theorem rz_In_asset (h : rz_In S) (c : ¬ S 1 0 = 8) : rz_In (pz_su S 1 0 (S 1 0 + 1)) := by
  obtain ⟨hW, hV, hI, hJ⟩ := h
  have w1 := pw_1 hW 0
  have tt : ∀ x, x ≠ 1 → pz_su S 1 0 (S 1 0 + 1) x = S x := fun x hx => pz_su_t hx
  have e1 : pz_su S 1 0 (S 1 0 + 1) 1 0 = S 1 0 + 1 := pz_su_e
  refine ⟨pws_1 hW (by omega) (by omega), pv_t (tt 3 (by decide)) (tt 4 (by decide)) (tt 5 (by decide)) (tt 6 (by decide)) hV, rz_I_of ?_ ?_ ?_, ⟨?_, ?_⟩, ?_, ?_, ?_⟩
  · rw [e1, tt 2 (by decide), tt 11 (by decide), tt 12 (by decide)]
    intro s a s0 s1 a0 a1 hx
    have := hI.1 s a s0 s1 a0 a1 hx
    exact ⟨by omega, this.2⟩
  · rw [tt 2 (by decide), tt 3 (by decide)]; exact hI.2.1
  · rw [tt 9 (by decide), tt 10 (by decide), tt 16 (by decide)]
    intro s f s0 s1 f0 f1 ht
    exact rz_kf_t (tt 2 (by decide)) (tt 3 (by decide)) (tt 4 (by decide)) (tt 5 (by decide)) (tt 6 (by decide)) (tt 7 (by decide)) (tt 8 (by decide)) (tt 15 (by decide)) (tt 17 (by decide)) (tt 18 (by decide)) (tt 19 (by decide)) (rz_I_3 hI s f s0 s1 f0 f1 ht)
  · rw [e1, tt 2 (by decide), tt 3 (by decide)]
    intro a a0 a1
    exact hJ.1.1 a (by omega) a1
  · rw [tt 2 (by decide), tt 3 (by decide)]; exact hJ.1.2
  · rw [tt 3 (by decide), tt 4 (by decide), tt 5 (by decide), tt 6 (by decide), tt 7 (by decide), tt 8 (by decide)]; exact hJ.2.1
  · rw [tt 9 (by decide), tt 11 (by decide), tt 16 (by decide)]; exact hJ.2.2.1
  · rw [tt 21 (by decide), tt 24 (by decide), tt 25 (by decide)]; exact hJ.2.2.2
theorem rz_In_bone {a p : Int} (h : rz_In S) (c : 0 ≤ a ∧ a ≤ S 1 0 - 1) (c2 : p = -1 ∨ (0 ≤ p ∧ p ≤ S 3 a - 1)) (c3 : ¬ S 3 a = 10) : rz_In (pz_su (pz_su S 4 (10 * a + S 3 a) p) 3 a (S 3 a + 1)) := by
  obtain ⟨hW, hV, hI, hJ⟩ := h
  have w1 := pw_1 hW 0
  have w3 := pw_3 hW a
  have tt : ∀ x, x ≠ 3 → x ≠ 4 → pz_su (pz_su S 4 (10 * a + S 3 a) p) 3 a (S 3 a + 1) x = S x := fun x h3 h4 => (pz_su_t h3).trans (pz_su_t h4)
  have s3 : ∀ r, pz_su (pz_su S 4 (10 * a + S 3 a) p) 3 a (S 3 a + 1) 3 r = if r = a then S 3 a + 1 else S 3 r := fun r => by rw [pz_su_i, pz_su_t (by decide)]
  have s4 : ∀ x, pz_su (pz_su S 4 (10 * a + S 3 a) p) 3 a (S 3 a + 1) 4 x = if x = 10 * a + S 3 a then p else S 4 x := fun x => by rw [pz_su_t (by decide), pz_su_i]
  refine ⟨pws_3 (pws_4 hW (by omega) (by omega)) (by omega) (by omega), ⟨?_, ?_⟩, rz_I_dr hW hI (fun x hx => tt x (fun e => hx (by rw [e]; decide)) (fun e => hx (by rw [e]; decide))) (fun x hx => by rw [s3, if_neg (by omega)]) (fun x hx => ⟨by rw [s4, if_neg (by omega)], by rw [tt 5 (by decide) (by decide)]⟩) (fun x hx => ⟨by rw [tt 6 (by decide) (by decide)], by rw [tt 7 (by decide) (by decide)], by rw [tt 8 (by decide) (by decide)]⟩), ⟨?_, ?_⟩, ?_, ?_, ?_⟩
  · rw [tt 5 (by decide) (by decide), tt 6 (by decide) (by decide)]; exact hV.1
  · intro r b r0 r1 b0 b1
    rw [s3] at b1
    rw [s4]
    have w3r := pw_3 hW r
    by_cases e : r = a
    · subst e
      rw [if_pos rfl] at b1
      by_cases eb : b = S 3 r
      · rw [if_pos (by omega)]; omega
      · rw [if_neg (by omega)]; exact hV.2 r b r0 r1 b0 (by omega)
    · rw [if_neg e] at b1
      rw [if_neg (by omega)]; exact hV.2 r b r0 r1 b0 b1
  · rw [tt 1 (by decide) (by decide), tt 2 (by decide) (by decide)]
    intro x x0 x1
    rw [s3, if_neg (by omega)]
    exact hJ.1.1 x x0 x1
  · rw [tt 2 (by decide) (by decide)]
    intro x v x0 x1 v0 v1
    have w2 := pw_2 hW x
    rw [s3, if_neg (by omega)]
    exact hJ.1.2 x v x0 x1 v0 v1
  · rw [tt 5 (by decide) (by decide), tt 6 (by decide) (by decide), tt 7 (by decide) (by decide), tt 8 (by decide) (by decide)]
    intro r b r0 r1 b0 b1
    rw [s3] at b0
    have w3r := pw_3 hW r
    rw [s4]
    by_cases e : r = a
    · subst e
      rw [if_pos rfl] at b0
      rw [if_neg (by omega)]
      exact hJ.2.1 r b r0 r1 (by omega) b1
    · rw [if_neg e] at b0
      rw [if_neg (by omega)]
      exact hJ.2.1 r b r0 r1 b0 b1
  · rw [tt 9 (by decide) (by decide), tt 11 (by decide) (by decide), tt 16 (by decide) (by decide)]; exact hJ.2.2.1
  · rw [tt 21 (by decide) (by decide), tt 24 (by decide) (by decide), tt 25 (by decide) (by decide)]; exact hJ.2.2.2
theorem rz_W_shw {c : Int} : ∀ (n : Nat) (f : Int) (S : pz_S), 0 ≤ f → f + n ≤ 40 → pz_W S → pz_W (pz_shw c n f S) := by
  intro n
  induction n with
  | zero => intro f S _ _ h; exact h
  | succ n ih => intro f S h1 h2 h; exact ih (f + 1) _ (by omega) (by omega) (pws_15 h (by omega) (by omega))
theorem rz_In_scene {n : Int} (h : rz_In S) (c : 1 ≤ n ∧ n ≤ 40) (c2 : ¬ S 9 0 = 8) : rz_In (pz_su (pz_shw (S 9 0) n.toNat 0 (pz_su S 10 (S 9 0) n)) 9 0 (S 9 0 + 1)) := by
  obtain ⟨hW, hV, hI, hJ⟩ := h
  have w9 := pw_9 hW 0
  have tt : ∀ x, x ≠ 9 → x ≠ 10 → x ≠ 15 → pz_su (pz_shw (S 9 0) n.toNat 0 (pz_su S 10 (S 9 0) n)) 9 0 (S 9 0 + 1) x = S x := fun x h1 h2 h3 => (pz_su_t h1).trans ((pz_shw_t h3 _ _ _).trans (pz_su_t h2))
  have s9 : pz_su (pz_shw (S 9 0) n.toNat 0 (pz_su S 10 (S 9 0) n)) 9 0 (S 9 0 + 1) 9 0 = S 9 0 + 1 := pz_su_e
  have s10 : ∀ x, pz_su (pz_shw (S 9 0) n.toNat 0 (pz_su S 10 (S 9 0) n)) 9 0 (S 9 0 + 1) 10 x = if x = S 9 0 then n else S 10 x := fun x => by rw [pz_su_t (by decide), pz_shw_t (by decide), pz_su_i]
  have s15 : ∀ x, x < 40 * S 9 0 → pz_su (pz_shw (S 9 0) n.toNat 0 (pz_su S 10 (S 9 0) n)) 9 0 (S 9 0 + 1) 15 x = S 15 x := fun x hx => by rw [pz_su_t (by decide), pz_shw_15, if_neg (by omega), pz_su_t (by decide)]
  have t2 := fun x (hx : x ∉ [9, 10, 15]) => tt x (fun e => hx (by rw [e]; decide)) (fun e => hx (by rw [e]; decide)) (fun e => hx (by rw [e]; decide))
  refine ⟨pws_9 (rz_W_shw _ _ _ (by omega) (by omega) (pws_10 hW (by omega) (by omega))) (by omega) (by omega), pv_t (t2 3 (by decide)) (t2 4 (by decide)) (t2 5 (by decide)) (t2 6 (by decide)) hV, rz_I_of ?_ ?_ ?_, ?_, ?_, ?_, ?_⟩
  · rw [t2 1 (by decide), t2 2 (by decide), t2 11 (by decide), t2 12 (by decide)]; exact hI.1
  · rw [t2 2 (by decide), t2 3 (by decide)]; exact hI.2.1
  · rw [s9, t2 16 (by decide)]
    intro s f s0 s1 f0 f1 ht
    rw [s10] at f1
    by_cases e : s = S 9 0
    · rw [if_pos e] at f1
      exact absurd ((hJ.2.2.1 s (by omega) (by omega)).1 f f0 (by omega)) ht
    · rw [if_neg e] at f1
      have w10 := pw_10 hW s
      have kf := rz_I_3 hI s f s0 (by omega) f0 f1 ht
      intro a a0 a1
      obtain ⟨k1, k2, k3⟩ := kf a a0 a1
      rw [t2 2 (by decide), t2 3 (by decide), t2 17 (by decide), t2 18 (by decide), t2 19 (by decide), s15 _ (by omega)]
      exact ⟨k1, k2, fun b b0 b1 => (k3 b b0 b1).trans (congrArg iI (rz_po0 (t2 4 (by decide)) (t2 5 (by decide)) (t2 6 (by decide)) (t2 7 (by decide)) (t2 8 (by decide)) 10 b).symm)⟩
  · rw [t2 1 (by decide), t2 2 (by decide), t2 3 (by decide)]; exact hJ.1
  · rw [t2 3 (by decide), t2 4 (by decide), t2 5 (by decide), t2 6 (by decide), t2 7 (by decide), t2 8 (by decide)]; exact hJ.2.1
  · rw [s9, t2 11 (by decide), t2 16 (by decide)]
    intro s h1 h2
    exact hJ.2.2.1 s (by omega) h2
  · rw [t2 21 (by decide), t2 24 (by decide), t2 25 (by decide)]; exact hJ.2.2.2
theorem rz_In_cast {s a v f g : Int} (h : rz_In S) (c : (0 ≤ s ∧ s ≤ S 9 0 - 1) ∧ pz_isR S a v) (c2 : (0 ≤ f ∧ f ≤ 39) ∧ f ≤ g ∧ g ≤ 39) : rz_In (pz_cst S (8 * s + a) v f g) := by
  obtain ⟨hW, hV, hI, hJ⟩ := h
  obtain ⟨cs, ⟨a0, a1⟩, v0, v1⟩ := c
  have w1 := pw_1 hW 0
  have w2 := pw_2 hW a
  have s11 : ∀ x, (pz_cst S (8 * s + a) v f g) 11 x = if x = 8 * s + a then 1 else S 11 x := fun x => by unfold pz_cst; rw [pz_su_t (by decide), pz_su_t (by decide), pz_su_t (by decide), pz_su_i]
  have s12 : ∀ x, (pz_cst S (8 * s + a) v f g) 12 x = if x = 8 * s + a then v else S 12 x := fun x => by unfold pz_cst; rw [pz_su_t (by decide), pz_su_t (by decide), pz_su_i, pz_su_t (by decide)]
  have t2 : ∀ x, x ∉ [11, 12, 13, 14] → (pz_cst S (8 * s + a) v f g) x = S x := fun x hx => by unfold pz_cst; rw [pz_su_t (fun e => hx (by rw [e]; decide)), pz_su_t (fun e => hx (by rw [e]; decide)), pz_su_t (fun e => hx (by rw [e]; decide)), pz_su_t (fun e => hx (by rw [e]; decide))]
  refine ⟨pw_cst hW v0 (by omega) c2.1.1 c2.1.2 (by omega) (by omega), pv_t (t2 3 (by decide)) (t2 4 (by decide)) (t2 5 (by decide)) (t2 6 (by decide)) hV, rz_I_of ?_ ?_ ?_, ?_, ?_, ?_, ?_⟩
  · rw [t2 1 (by decide), t2 2 (by decide)]
    intro s' a' s0 s1 a0' a1' hx
    rw [s11] at hx
    rw [s12]
    by_cases e : 8 * s' + a' = 8 * s + a
    · have e2 : a' = a := by omega
      rw [if_pos e, e2]
      exact ⟨by omega, by omega⟩
    · rw [if_neg e] at hx ⊢
      exact hI.1 s' a' s0 s1 a0' a1' hx
  · rw [t2 2 (by decide), t2 3 (by decide)]; exact hI.2.1
  · rw [t2 9 (by decide), t2 10 (by decide), t2 16 (by decide)]
    intro s f s0 s1 f0 f1 ht
    exact rz_kf_t (t2 2 (by decide)) (t2 3 (by decide)) (t2 4 (by decide)) (t2 5 (by decide)) (t2 6 (by decide)) (t2 7 (by decide)) (t2 8 (by decide)) (t2 15 (by decide)) (t2 17 (by decide)) (t2 18 (by decide)) (t2 19 (by decide)) (rz_I_3 hI s f s0 s1 f0 f1 ht)
  · rw [t2 1 (by decide), t2 2 (by decide), t2 3 (by decide)]; exact hJ.1
  · rw [t2 3 (by decide), t2 4 (by decide), t2 5 (by decide), t2 6 (by decide), t2 7 (by decide), t2 8 (by decide)]; exact hJ.2.1
  · rw [t2 9 (by decide), t2 16 (by decide)]
    intro s' h1 h2
    refine ⟨(hJ.2.2.1 s' h1 h2).1, fun a' a0' a1' => ?_⟩
    rw [s11, if_neg (by omega)]
    exact (hJ.2.2.1 s' h1 h2).2 a' a0' a1'
  · rw [t2 21 (by decide), t2 24 (by decide), t2 25 (by decide)]; exact hJ.2.2.2
theorem rz_In_note {s f : Int} (h : rz_In S) (c : pz_isF S s f) (c3 : ¬ S 21 0 = 40) : rz_In (pz_su (pz_su (pz_su S 22 (S 21 0) s) 23 (S 21 0) f) 21 0 (S 21 0 + 1)) := by
  obtain ⟨hW, hV, hI, hJ⟩ := h
  obtain ⟨cs, cf⟩ := c
  have w9 := pw_9 hW 0
  have w10 := pw_10 hW s
  have w21 := pw_21 hW 0
  have t2 : ∀ x, x ∉ [21, 22, 23] → (pz_su (pz_su (pz_su S 22 (S 21 0) s) 23 (S 21 0) f) 21 0 (S 21 0 + 1)) x = S x := fun x hx => by rw [pz_su_t (fun e => hx (by rw [e]; decide)), pz_su_t (fun e => hx (by rw [e]; decide)), pz_su_t (fun e => hx (by rw [e]; decide))]
  refine ⟨pws_21 (pws_23 (pws_22 hW (by omega) (by omega)) (by omega) (by omega)) (by omega) (by omega), pv_t (t2 3 (by decide)) (t2 4 (by decide)) (t2 5 (by decide)) (t2 6 (by decide)) hV, rz_I_t (fun x hx => t2 x (by revert hx; simp; omega)) hI, ?_, ?_, ?_, ?_⟩
  · rw [t2 1 (by decide), t2 2 (by decide), t2 3 (by decide)]; exact hJ.1
  · rw [t2 3 (by decide), t2 4 (by decide), t2 5 (by decide), t2 6 (by decide), t2 7 (by decide), t2 8 (by decide)]; exact hJ.2.1
  · rw [t2 9 (by decide), t2 11 (by decide), t2 16 (by decide)]; exact hJ.2.2.1
  · rw [pz_su_e, t2 24 (by decide), t2 25 (by decide)]
    intro n n0 n1
    exact hJ.2.2.2 n (by omega) n1
theorem rz_In_settle {n : Int} (h : rz_In S) (c : 0 ≤ n ∧ n ≤ S 21 0 - 1) : rz_In (pz_su S 24 n 1) := by
  obtain ⟨hW, hV, hI, hJ⟩ := h
  have t2 : ∀ x, x ∉ [24] → (pz_su S 24 n 1) x = S x := fun x hx => pz_su_t (fun e => hx (by rw [e]; decide))
  refine ⟨pws_24 hW (by decide) (by decide), pv_t (t2 3 (by decide)) (t2 4 (by decide)) (t2 5 (by decide)) (t2 6 (by decide)) hV, rz_I_t (fun x hx => t2 x (by revert hx; simp; omega)) hI, ?_, ?_, ?_, ?_⟩
  · rw [t2 1 (by decide), t2 2 (by decide), t2 3 (by decide)]; exact hJ.1
  · rw [t2 3 (by decide), t2 4 (by decide), t2 5 (by decide), t2 6 (by decide), t2 7 (by decide), t2 8 (by decide)]; exact hJ.2.1
  · rw [t2 9 (by decide), t2 11 (by decide), t2 16 (by decide)]; exact hJ.2.2.1
  · rw [t2 21 (by decide), t2 25 (by decide)]
    intro k n0 n1
    rw [pz_su_i, if_neg (by omega)]
    exact hJ.2.2.2 k n0 n1
theorem rz_In_rd {s f : Int} (h : rz_In S) (c : pz_isF S s f) (h9 : S 16 (40 * s + f) ≤ 999999999) : rz_In (pz_rd S s f) := by
  obtain ⟨hW, hV, hI, hJ⟩ := h
  obtain ⟨cs, cf⟩ := c
  have w9 := pw_9 hW 0
  have w10 := pw_10 hW s
  have t2 : ∀ x, x ∉ [16, 17, 18, 19, 20] → pz_rd S s f x = S x := fun x hx => pz_rd_t (fun e => hx (by rw [e]; decide)) (fun e => hx (by rw [e]; decide)) (fun e => hx (by rw [e]; decide)) (fun e => hx (by rw [e]; decide)) (fun e => hx (by rw [e]; decide))
  refine ⟨pw_rd hW h9, pv_rd hV, rz_I_rd hW hI cs.1 (by omega), ?_, ?_, ?_, ?_⟩
  · rw [t2 1 (by decide), t2 2 (by decide), t2 3 (by decide)]; exact hJ.1
  · rw [t2 3 (by decide), t2 4 (by decide), t2 5 (by decide), t2 6 (by decide), t2 7 (by decide), t2 8 (by decide)]; exact hJ.2.1
  · rw [t2 9 (by decide), t2 11 (by decide)]
    intro s' h1 h2
    refine ⟨fun f' f0 f1 => ?_, (hJ.2.2.1 s' h1 h2).2⟩
    unfold pz_rd
    rw [pz_su_t (by decide), pz_su_i, if_neg (by omega)]
    show pz_kp s f 8 0 S 16 _ = 0
    rw [pz_kp_t (by decide) (by decide) (by decide)]
    exact (hJ.2.2.1 s' h1 h2).1 f' f0 f1
  · rw [t2 21 (by decide), t2 24 (by decide), t2 25 (by decide)]; exact hJ.2.2.2
theorem rz_rd_16 {s f x : Int} : pz_rd S s f 16 x = if x = 40 * s + f then S 16 (40 * s + f) + 1 else S 16 x := by
  unfold pz_rd
  rw [pz_su_t (by decide), pz_su_i]
  show (if _ then _ else pz_kp s f 8 0 S 16 x) = _
  rw [pz_kp_t (by decide) (by decide) (by decide)]
theorem rz_r1_16 {s f : Int} : pz_r1 S s f 16 (40 * s + f) ≤ S 16 (40 * s + f) + 1 := by
  unfold pz_r1
  split
  · rw [rz_rd_16, if_pos rfl]; omega
  · show pz_kp s f 8 0 S 16 _ ≤ _
    rw [pz_kp_t (by decide) (by decide) (by decide)]; omega
theorem rz_In_rS {s N B : Int} (hs0 : 0 ≤ s) (hN : N ≤ 40) (hB : B ≤ 999999999) : ∀ (n : Nat) (f : Int) (S : pz_S), rz_In S → s < S 9 0 → S 10 s = N → f + n = N → 0 ≤ f → (∀ j, f ≤ j → j < 40 → S 16 (40 * s + j) ≤ B) → (∀ x, S 16 x ≤ B + 1) → rz_In (pz_rS s n f S) ∧ ∀ x, pz_rS s n f S 16 x ≤ B + 1 := by
  intro n
  induction n with
  | zero => intro f S h _ _ _ _ _ h16; exact ⟨h, h16⟩
  | succ n ih =>
    intro f S h s1 hN1 h1 h2 h9 h16
    obtain ⟨hW, hV, hI, hJ⟩ := h
    have w9 := pw_9 hW 0
    have q9 : pz_r1 S s f 9 = S 9 := pz_r1_t (by decide) (by decide) (by decide) (by decide) (by decide)
    have q10 : pz_r1 S s f 10 = S 10 := pz_r1_t (by decide) (by decide) (by decide) (by decide) (by decide)
    have hf := h9 f (Int.le_refl _) (by omega)
    have h3 : ∀ x, x ≠ 40 * s + f → pz_r1 S s f 16 x = S 16 x := fun x hx => by
      have := pz_r1_16 (S := S) (s := s) (f := f) (i := x - 40 * s) (by omega)
      rw [show 40 * s + (x - 40 * s) = x by omega] at this
      exact this
    exact ih (f + 1) (pz_r1 S s f) ⟨pw_r1 hW (by omega), pv_r1 hV, rz_I_r1 hW hI hs0 (by omega), rz_J_r1 hJ hs0 s1 h2 (by omega)⟩ (by rw [q9]; exact s1) (by rw [q10]; exact hN1) (by omega) (by omega) (fun j j0 j1 => by rw [h3 _ (by omega)]; exact h9 j (by omega) j1) (fun x => by
      by_cases e : x = 40 * s + f
      · have := rz_r1_16 (S := S) (s := s) (f := f)
        rw [e]; omega
      · rw [h3 x e]; exact h16 x)
theorem rz_In_cut {s g k : Int} (h : rz_In S) (c : pz_isF S s g) (c3 : ¬ k < 1) (c4 : k ≤ S 10 s - g ∧ k < S 10 s) : rz_In (pz_cut S s g k) := by
  obtain ⟨hW, hV, hI, hJ⟩ := h
  obtain ⟨cs, cf⟩ := c
  have w9 := pw_9 hW 0
  have w10 := pw_10 hW s
  have tt : ∀ x, x ∉ [10, 15, 16, 17, 18, 19, 23, 25] → pz_cut S s g k x = S x := fun x hx => by
    rw [rz_cut_e]
    exact (rz_c2_t (fun e => hx (by rw [e]; decide)) (fun e => hx (by rw [e]; decide)) _ _ _).trans (rz_ct_t (fun e => hx (by rw [e]; decide)) (fun e => hx (by rw [e]; decide)) (fun e => hx (by rw [e]; decide)) (fun e => hx (by rw [e]; decide)) (fun e => hx (by rw [e]; decide)) (fun e => hx (by rw [e]; decide)))
  refine ⟨?_, pv_t (tt 3 (by decide)) (tt 4 (by decide)) (tt 5 (by decide)) (tt 6 (by decide)) hV, rz_I_cut hW hI (by omega) cf.1 (by omega) cs.1 (by omega), rz_J_cut hW hJ (by omega) cf.1 (by omega) cs.1 (by omega)⟩
  rw [rz_cut_e]
  exact pw_c2 cf.1 (by omega) (by omega) (by omega) (by omega) _ _ _ (rz_W_ct hW (by omega) (by omega))
theorem rz_ct_16u {s g k x : Int} {B : Int} (hk : 1 ≤ k) (hg : g ≤ S 10 s - k) (h : ∀ x, S 16 x ≤ B) : pz_cut S s g k 16 x ≤ B := by
  rw [rz_cut_e, rz_c2_t (by decide) (by decide), rz_ct_16 hk hg]
  split
  · exact h _
  · exact h _
theorem rz_In_pub {a : Int} (h : rz_In S) (c : 0 ≤ a ∧ a ≤ S 1 0 - 1) (c2 : ¬ (S 2 a = 12 ∨ S 3 a = 0)) : rz_In (pz_pub S a) := by
  obtain ⟨hW, hV, hI, hJ⟩ := h
  have w1 := pw_1 hW 0
  have w2 := pw_2 hW a
  exact ⟨rz_W_pub hW (by omega), rz_V_pub hW hV hJ c.1 (by omega) (by omega), rz_I_pub hW hI c.1 (by omega) (fun e => c2 (Or.inr e)) (by omega), rz_J_pub hW hJ c.1 (by omega) (by omega) (by omega)⟩
end
