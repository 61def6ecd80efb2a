/-! what the reference keeps, told place by place; that it stays told -/
section
variable {S S' : pz_S} {s f : Int}
theorem rz_sv_t (e2 : S' 2 = S 2) (e11 : S' 11 = S 11) (e12 : S' 12 = S 12) (e13 : S' 13 = S 13) (e14 : S' 14 = S 14) (e15 : S' 15 = S 15) (s f a : Int) : pz_sv S' s f a = pz_sv S s f a := by
  unfold pz_sv
  rw [e2, e11, e12, e13, e14, e15]
theorem rz_kv1_t (e1 : S' 1 = S 1) (e2 : S' 2 = S 2) (e11 : S' 11 = S 11) (e12 : S' 12 = S 12) (e13 : S' 13 = S 13) (e14 : S' 14 = S 14) (e15 : S' 15 = S 15) (s f a : Int) : pz_kv1 S' s f a = pz_kv1 S s f a := by
  unfold pz_kv1
  rw [e1, rz_sv_t e2 e11 e12 e13 e14 e15]
theorem rz_kn1_t (e3 : S' 3 = S 3) (a v : Int) : pz_kn1 S' a v = pz_kn1 S a v := by
  unfold pz_kn1
  rw [e3]
theorem rz_ki_19 {a v : Int} : ∀ (n : Nat) (b : Int) (S : pz_S) (x : Int), pz_ki s f a v n b S 19 x = if 10 * (8 * (40 * s + f) + a) + b ≤ x ∧ x < 10 * (8 * (40 * s + f) + a) + b + n then pz_po S (pz_rg a v) (S 15 (40 * s + f)) 10 (x - 10 * (8 * (40 * s + f) + a)) else S 19 x := by
  intro n
  induction n with
  | zero => intro b S x; rw [if_neg (by omega)]; rfl
  | succ n ih =>
    intro b S x
    refine (ih (b + 1) _ x).trans ?_
    rw [rz_po0 (pz_su_t (by decide)) (pz_su_t (by decide)) (pz_su_t (by decide)) (pz_su_t (by decide)) (pz_su_t (by decide)), pz_su_t (by decide), pz_su_i]
    by_cases e : x = 10 * (8 * (40 * s + f) + a) + b
    · rw [if_neg (by omega), if_pos e, if_pos (by omega), show x - 10 * (8 * (40 * s + f) + a) = b by omega]
    · rw [if_neg e]
      by_cases e2 : 10 * (8 * (40 * s + f) + a) + (b + 1) ≤ x ∧ x < 10 * (8 * (40 * s + f) + a) + (b + 1) + n
      · rw [if_pos e2, if_pos (by omega)]
      · rw [if_neg e2, if_neg (by omega)]
theorem rz_ki_t {a v : Int} {t : Nat} (h1 : t ≠ 19) : ∀ (n : Nat) (b : Int) (S : pz_S), pz_ki s f a v n b S t = S t := by
  intro n
  induction n with
  | zero => intro b S; rfl
  | succ n ih => intro b S; exact (ih _ _).trans (pz_su_t h1)
theorem rz_ka_17 {a x : Int} : pz_ka S s f a 17 x = if x = 8 * (40 * s + f) + a then pz_kv1 S s f a else S 17 x := by
  unfold pz_ka
  rw [rz_ki_t (by decide), pz_su_t (by decide), pz_su_i]
theorem rz_ka_18 {a x : Int} : pz_ka S s f a 18 x = if x = 8 * (40 * s + f) + a then pz_kn1 S a (pz_kv1 S s f a) else S 18 x := by
  unfold pz_ka
  rw [rz_ki_t (by decide), pz_su_i, pz_su_t (by decide)]
theorem rz_ka_19 {a x : Int} : pz_ka S s f a 19 x = if 10 * (8 * (40 * s + f) + a) ≤ x ∧ x < 10 * (8 * (40 * s + f) + a) + (pz_kn1 S a (pz_kv1 S s f a)).toNat then pz_po S (pz_rg a (pz_kv1 S s f a)) (S 15 (40 * s + f)) 10 (x - 10 * (8 * (40 * s + f) + a)) else S 19 x := by
  unfold pz_ka
  rw [rz_ki_19, rz_po0 ((pz_su_t (by decide)).trans (pz_su_t (by decide))) ((pz_su_t (by decide)).trans (pz_su_t (by decide))) ((pz_su_t (by decide)).trans (pz_su_t (by decide))) ((pz_su_t (by decide)).trans (pz_su_t (by decide))) ((pz_su_t (by decide)).trans (pz_su_t (by decide))), pz_su_t (by decide), pz_su_t (by decide), pz_su_t (by decide), pz_su_t (by decide), Int.add_zero]
theorem rz_kp_17 : ∀ (n : Nat) (a : Int) (S : pz_S) (x : Int), pz_kp s f n a S 17 x = if 8 * (40 * s + f) + a ≤ x ∧ x < 8 * (40 * s + f) + a + n then pz_kv1 S s f (x - 8 * (40 * s + f)) else S 17 x := by
  intro n
  induction n with
  | zero => intro a S x; rw [if_neg (by omega)]; rfl
  | succ n ih =>
    intro a S x
    refine (ih (a + 1) (pz_ka S s f a) x).trans ?_
    rw [rz_kv1_t (pz_ka_t (by decide) (by decide) (by decide)) (pz_ka_t (by decide) (by decide) (by decide)) (pz_ka_t (by decide) (by decide) (by decide)) (pz_ka_t (by decide) (by decide) (by decide)) (pz_ka_t (by decide) (by decide) (by decide)) (pz_ka_t (by decide) (by decide) (by decide)) (pz_ka_t (by decide) (by decide) (by decide)), rz_ka_17]
    by_cases e : x = 8 * (40 * s + f) + a
    · rw [if_neg (by omega), if_pos e, if_pos (by omega), show x - 8 * (40 * s + f) = a by omega]
    · rw [if_neg e]
      by_cases e2 : 8 * (40 * s + f) + (a + 1) ≤ x ∧ x < 8 * (40 * s + f) + (a + 1) + n
      · rw [if_pos e2, if_pos (by omega)]
      · rw [if_neg e2, if_neg (by omega)]
theorem rz_kp_18 : ∀ (n : Nat) (a : Int) (S : pz_S) (x : Int), pz_kp s f n a S 18 x = if 8 * (40 * s + f) + a ≤ x ∧ x < 8 * (40 * s + f) + a + n then pz_kn1 S (x - 8 * (40 * s + f)) (pz_kv1 S s f (x - 8 * (40 * s + f))) else S 18 x := by
  intro n
  induction n with
  | zero => intro a S x; rw [if_neg (by omega)]; rfl
  | succ n ih =>
    intro a S x
    refine (ih (a + 1) (pz_ka S s f a) x).trans ?_
    rw [rz_kv1_t (pz_ka_t (by decide) (by decide) (by decide)) (pz_ka_t (by decide) (by decide) (by decide)) (pz_ka_t (by decide) (by decide) (by decide)) (pz_ka_t (by decide) (by decide) (by decide)) (pz_ka_t (by decide) (by decide) (by decide)) (pz_ka_t (by decide) (by decide) (by decide)) (pz_ka_t (by decide) (by decide) (by decide)), rz_kn1_t (pz_ka_t (by decide) (by decide) (by decide)), rz_ka_18]
    by_cases e : x = 8 * (40 * s + f) + a
    · rw [if_neg (by omega), if_pos e, if_pos (by omega), show x - 8 * (40 * s + f) = a by omega]
    · rw [if_neg e]
      by_cases e2 : 8 * (40 * s + f) + (a + 1) ≤ x ∧ x < 8 * (40 * s + f) + (a + 1) + n
      · rw [if_pos e2, if_pos (by omega)]
      · rw [if_neg e2, if_neg (by omega)]
theorem rz_kn1_r (hW : pz_W S) (a v : Int) : 0 ≤ pz_kn1 S a v ∧ pz_kn1 S a v ≤ 10 := by
  unfold pz_kn1
  split
  · omega
  · exact pw_3 hW _
theorem rz_kp_19o : ∀ (n : Nat) (a : Int) (S : pz_S) (x : Int), pz_W S → (x < 10 * (8 * (40 * s + f) + a) ∨ 10 * (8 * (40 * s + f) + a + n) ≤ x) → pz_kp s f n a S 19 x = S 19 x := by
  intro n
  induction n with
  | zero => intro a S x hW h; rfl
  | succ n ih =>
    intro a S x hW h
    refine (ih (a + 1) (pz_ka S s f a) x (pw_ka hW) (by omega)).trans ?_
    have w := rz_kn1_r hW a (pz_kv1 S s f a)
    rw [rz_ka_19, if_neg (by omega)]
theorem rz_kp_19 : ∀ (n : Nat) (a : Int) (S : pz_S) (a' b : Int), pz_W S → a ≤ a' → a' < a + n → 0 ≤ b → b < pz_kn1 S a' (pz_kv1 S s f a') → pz_kp s f n a S 19 (10 * (8 * (40 * s + f) + a') + b) = pz_po S (pz_rg a' (pz_kv1 S s f a')) (S 15 (40 * s + f)) 10 b := by
  intro n
  induction n with
  | zero => intro a S a' b hW h1 h2; omega
  | succ n ih =>
    intro a S a' b hW h1 h2 h3 h4
    have w := rz_kn1_r hW a' (pz_kv1 S s f a')
    by_cases e : a' = a
    · subst e
      refine (rz_kp_19o n (a' + 1) (pz_ka S s f a') _ (pw_ka hW) (by omega)).trans ?_
      rw [rz_ka_19, if_pos (by omega), show 10 * (8 * (40 * s + f) + a') + b - 10 * (8 * (40 * s + f) + a') = b by omega]
    · have kv := rz_kv1_t (S' := pz_ka S s f a) (S := S) (pz_ka_t (by decide) (by decide) (by decide)) (pz_ka_t (by decide) (by decide) (by decide)) (pz_ka_t (by decide) (by decide) (by decide)) (pz_ka_t (by decide) (by decide) (by decide)) (pz_ka_t (by decide) (by decide) (by decide)) (pz_ka_t (by decide) (by decide) (by decide)) (pz_ka_t (by decide) (by decide) (by decide)) s f a'
      refine (ih (a + 1) (pz_ka S s f a) a' b (pw_ka hW) (by omega) (by omega) h3 (by rw [kv, rz_kn1_t (pz_ka_t (by decide) (by decide) (by decide))]; exact h4)).trans ?_
      rw [kv, rz_po0 (pz_ka_t (by decide) (by decide) (by decide)) (pz_ka_t (by decide) (by decide) (by decide)) (pz_ka_t (by decide) (by decide) (by decide)) (pz_ka_t (by decide) (by decide) (by decide)) (pz_ka_t (by decide) (by decide) (by decide)), pz_ka_t (by decide) (by decide) (by decide)]
/-- what is kept at a frame is that of the kept versions -/
def rz_kf (S : pz_S) (s f : Int) : Prop := ∀ a : Int, 0 ≤ a → a < 8 → S 17 (8 * (40 * s + f) + a) < S 2 a ∧ S 18 (8 * (40 * s + f) + a) = (if S 17 (8 * (40 * s + f) + a) = -1 then 0 else S 3 (8 + 12 * a + S 17 (8 * (40 * s + f) + a))) ∧ ∀ b : Int, 0 ≤ b → b < S 18 (8 * (40 * s + f) + a) → iI (S 19 (10 * (8 * (40 * s + f) + a) + b)) = iI (pz_po S (8 + 12 * a + S 17 (8 * (40 * s + f) + a)) (S 15 (40 * s + f)) 10 b)
theorem rz_I_of (h1 : ∀ s a : Int, 0 ≤ s → s < 8 → 0 ≤ a → a < 8 → ¬ S 11 (8 * s + a) = 0 → a < S 1 0 ∧ S 12 (8 * s + a) < S 2 a) (h2 : ∀ a v : Int, 0 ≤ a → a < 8 → 0 ≤ v → v < S 2 a → 1 ≤ S 3 (8 + 12 * a + v)) (h3 : ∀ s f : Int, 0 ≤ s → s < S 9 0 → 0 ≤ f → f < S 10 s → ¬ S 16 (40 * s + f) = 0 → rz_kf S s f) : pz_I S := ⟨h1, h2, fun s f a s0 s1 f0 f1 a0 a1 ht => h3 s f s0 s1 f0 f1 ht a a0 a1⟩
theorem rz_I_3 (h : pz_I S) : ∀ s f : Int, 0 ≤ s → s < S 9 0 → 0 ≤ f → f < S 10 s → ¬ S 16 (40 * s + f) = 0 → rz_kf S s f := fun s f s0 s1 f0 f1 ht a a0 a1 => h.2.2 s f a s0 s1 f0 f1 a0 a1 ht
theorem rz_kf_t (e2 : S' 2 = S 2) (e3 : S' 3 = S 3) (e4 : S' 4 = S 4) (e5 : S' 5 = S 5) (e6 : S' 6 = S 6) (e7 : S' 7 = S 7) (e8 : S' 8 = S 8) (e15 : S' 15 = S 15) (e17 : S' 17 = S 17) (e18 : S' 18 = S 18) (e19 : S' 19 = S 19) {s f : Int} (h : rz_kf S s f) : rz_kf S' s f := fun a a0 a1 => by
  obtain ⟨k1, k2, k3⟩ := h a a0 a1
  rw [e2, e3, e15, e17, e18, e19]
  exact ⟨k1, k2, fun b b0 b1 => (k3 b b0 b1).trans (congrArg iI (rz_po0 e4 e5 e6 e7 e8 10 b).symm)⟩
theorem rz_kf_kps (hW : pz_W S) (hI : pz_I S) (hs0 : 0 ≤ s) (hs1 : s < 8) : rz_kf (pz_kps S s f) s f := fun a a0 a1 => by
  have w2 := pw_2 hW a
  have wv : pz_kv1 S s f a < S 2 a := by
    unfold pz_kv1
    split
    · exact pz_sv_lt hI hs0 hs1 a0 a1 w2.1
    · omega
  have e17 : pz_kps S s f 17 (8 * (40 * s + f) + a) = pz_kv1 S s f a := by show pz_kp s f 8 0 S 17 _ = _; rw [rz_kp_17, if_pos (by omega), show 8 * (40 * s + f) + a - 8 * (40 * s + f) = a by omega]
  have e18 : pz_kps S s f 18 (8 * (40 * s + f) + a) = pz_kn1 S a (pz_kv1 S s f a) := by show pz_kp s f 8 0 S 18 _ = _; rw [rz_kp_18, if_pos (by omega), show 8 * (40 * s + f) + a - 8 * (40 * s + f) = a by omega]
  have tt : ∀ t, t ≠ 17 → t ≠ 18 → t ≠ 19 → pz_kps S s f t = S t := fun t t1 t2 t3 => pz_kp_t t1 t2 t3 _ _ _
  rw [e17, e18, tt 2 (by decide) (by decide) (by decide), tt 3 (by decide) (by decide) (by decide), tt 15 (by decide) (by decide) (by decide)]
  refine ⟨wv, rfl, fun b b0 b1 => ?_⟩
  show iI (pz_kp s f 8 0 S 19 _) = _
  rw [rz_kp_19 8 0 S a b hW a0 (by omega) b0 b1, rz_po0 (tt 4 (by decide) (by decide) (by decide)) (tt 5 (by decide) (by decide) (by decide)) (tt 6 (by decide) (by decide) (by decide)) (tt 7 (by decide) (by decide) (by decide)) (tt 8 (by decide) (by decide) (by decide))]
  have hv : ¬ pz_kv1 S s f a = -1 := fun e => by
    unfold pz_kn1 at b1
    rw [if_pos e] at b1
    omega
  rw [show pz_rg a (pz_kv1 S s f a) = 8 + 12 * a + pz_kv1 S s f a from if_neg hv]
theorem rz_kf_o (hW : pz_W S) {s' f' : Int} (hne : 40 * s' + f' ≠ 40 * s + f) (h : rz_kf S s' f') : rz_kf (pz_kps S s f) s' f' := fun a a0 a1 => by
  obtain ⟨k1, k2, k3⟩ := h a a0 a1
  have tt : ∀ t, t ≠ 17 → t ≠ 18 → t ≠ 19 → pz_kps S s f t = S t := fun t t1 t2 t3 => pz_kp_t t1 t2 t3 _ _ _
  have e17 : pz_kps S s f 17 (8 * (40 * s' + f') + a) = S 17 (8 * (40 * s' + f') + a) := by show pz_kp s f 8 0 S 17 _ = _; rw [rz_kp_17, if_neg (by omega)]
  have e18 : pz_kps S s f 18 (8 * (40 * s' + f') + a) = S 18 (8 * (40 * s' + f') + a) := by show pz_kp s f 8 0 S 18 _ = _; rw [rz_kp_18, if_neg (by omega)]
  have w18 := pw_18 hW (8 * (40 * s' + f') + a)
  rw [e17, e18, tt 2 (by decide) (by decide) (by decide), tt 3 (by decide) (by decide) (by decide), tt 15 (by decide) (by decide) (by decide)]
  refine ⟨k1, k2, fun b b0 b1 => ?_⟩
  show iI (pz_kp s f 8 0 S 19 _) = _
  rw [rz_kp_19o 8 0 S _ hW (by omega), rz_po0 (tt 4 (by decide) (by decide) (by decide)) (tt 5 (by decide) (by decide) (by decide)) (tt 6 (by decide) (by decide) (by decide)) (tt 7 (by decide) (by decide) (by decide)) (tt 8 (by decide) (by decide) (by decide))]
  exact k3 b b0 b1
theorem rz_I_kps (hW : pz_W S) (hI : pz_I S) (hs0 : 0 ≤ s) (hs1 : s < 8) : pz_I (pz_kps S s f) := by
  have tt : ∀ t, t ≠ 17 → t ≠ 18 → t ≠ 19 → pz_kps S s f t = S t := fun t t1 t2 t3 => pz_kp_t t1 t2 t3 _ _ _
  refine rz_I_of ?_ ?_ ?_
  · rw [tt 1 (by decide) (by decide) (by decide), tt 2 (by decide) (by decide) (by decide), tt 11 (by decide) (by decide) (by decide), tt 12 (by decide) (by decide) (by decide)]; exact hI.1
  · rw [tt 2 (by decide) (by decide) (by decide), tt 3 (by decide) (by decide) (by decide)]; exact hI.2.1
  · rw [tt 9 (by decide) (by decide) (by decide), tt 10 (by decide) (by decide) (by decide), tt 16 (by decide) (by decide) (by decide)]
    intro s' f' s0 s1 f0 f1 ht
    by_cases e : 40 * s' + f' = 40 * s + f
    · have k := rz_kf_kps (f := f) hW hI hs0 hs1
      intro a
      rw [e]
      exact k a
    · exact rz_kf_o hW e (rz_I_3 hI s' f' s0 s1 f0 f1 ht)
theorem rz_I_rd (hW : pz_W S) (hI : pz_I S) (hs0 : 0 ≤ s) (hs1 : s < 8) : pz_I (pz_rd S s f) := by
  have tt : ∀ t, t ≠ 17 → t ≠ 18 → t ≠ 19 → t ≠ 16 → t ≠ 20 → pz_rd S s f t = S t := fun t t1 t2 t3 t4 t5 => pz_rd_t t1 t2 t3 t4 t5
  have uu : ∀ t, t ≠ 16 → t ≠ 20 → pz_rd S s f t = pz_kps S s f t := fun t t4 t5 => by
    unfold pz_rd
    rw [pz_su_t t5, pz_su_t t4]
  refine rz_I_of ?_ ?_ ?_
  · rw [tt 1 (by decide) (by decide) (by decide) (by decide) (by decide), tt 2 (by decide) (by decide) (by decide) (by decide) (by decide), tt 11 (by decide) (by decide) (by decide) (by decide) (by decide), tt 12 (by decide) (by decide) (by decide) (by decide) (by decide)]; exact hI.1
  · rw [tt 2 (by decide) (by decide) (by decide) (by decide) (by decide), tt 3 (by decide) (by decide) (by decide) (by decide) (by decide)]; exact hI.2.1
  · rw [tt 9 (by decide) (by decide) (by decide) (by decide) (by decide), tt 10 (by decide) (by decide) (by decide) (by decide) (by decide)]
    intro s' f' s0 s1 f0 f1 ht
    refine rz_kf_t (uu 2 (by decide) (by decide)) (uu 3 (by decide) (by decide)) (uu 4 (by decide) (by decide)) (uu 5 (by decide) (by decide)) (uu 6 (by decide) (by decide)) (uu 7 (by decide) (by decide)) (uu 8 (by decide) (by decide)) (uu 15 (by decide) (by decide)) (uu 17 (by decide) (by decide)) (uu 18 (by decide) (by decide)) (uu 19 (by decide) (by decide)) ?_
    by_cases e : 40 * s' + f' = 40 * s + f
    · have k := rz_kf_kps (f := f) hW hI hs0 hs1
      intro a
      rw [e]
      exact k a
    · refine rz_kf_o hW e (rz_I_3 hI s' f' s0 s1 f0 f1 (fun h0 => ht ?_))
      unfold pz_rd
      rw [pz_su_t (by decide), pz_su_i, if_neg e]
      show pz_kp s f 8 0 S 16 _ = 0
      rw [pz_kp_t (by decide) (by decide) (by decide)]
      exact h0
theorem rz_I_r1 (hW : pz_W S) (hI : pz_I S) (hs0 : 0 ≤ s) (hs1 : s < 8) : pz_I (pz_r1 S s f) := by
  unfold pz_r1
  split
  · exact rz_I_rd hW hI hs0 hs1
  · exact rz_I_kps hW hI hs0 hs1
end
