/-! p24: what a rendering leaves -/
section
variable {S S' : pz_S} {s f : Int}
theorem lq_bc {c c' : Prop} [Decidable c] [Decidable c'] (h : c ↔ c') : pz_b c = pz_b c' := rz_ic h
theorem lq_po_t (hW : pz_W S) (h4 : S' 4 = S 4) (h5 : S' 5 = S 5) (h6 : S' 6 = S 6) (h7 : S' 7 = S 7) (h8 : S' 8 = S 8) (r f : Int) {b : Int} (b0 : -1 ≤ b) (b1 : b < 10) : pz_po S' r f 10 b = pz_po S r f 10 b :=
  rz_po hW (fun c _ _ => ⟨by rw [h4], by rw [h5], fun k _ _ => ⟨by rw [h6], by rw [h7], by rw [h8]⟩⟩) 10 b b0 b1
theorem lq_all_ak (hW : pz_W S) (h : ∀ t ∈ [1, 2, 3, 4, 5, 6, 7, 8, 11, 12, 13, 14, 15], S' t = S t) (h18 : S' 18 = pz_kps S s f 18) (h19 : S' 19 = pz_kps S s f 19) : pz_fd (fun a => ¬ pz_ak S' s f a) 0 (S' 1 0).toNat = S' 1 0 := by
  have w1 := pw_1 hW 0
  have e1 : S' 1 0 = S 1 0 := by rw [h 1 (by decide)]
  refine (pz_fd_all (P := fun a => pz_ak S' s f a) (by omega)).2 (fun a a0 a1 => ?_)
  rw [e1] at a1
  have esv : pz_sv S' s f a = pz_sv S s f a := rz_sv_t (h 2 (by decide)) (h 11 (by decide)) (h 12 (by decide)) (h 13 (by decide)) (h 14 (by decide)) (h 15 (by decide)) s f a
  have ev : pz_kv1 S s f a = pz_sv S s f a := if_pos a1
  have esb : pz_sb S' s f a = pz_kn1 S a (pz_kv1 S s f a) := by
    unfold pz_sb pz_kn1
    rw [esv, ev, h 3 (by decide)]
  have e18 : S' 18 (8 * (40 * s + f) + a) = pz_kn1 S a (pz_kv1 S s f a) := by
    rw [h18]
    show pz_kp s f 8 0 S 18 _ = _
    rw [rz_kp_18, if_pos (by omega), show 8 * (40 * s + f) + a - 8 * (40 * s + f) = a by omega]
  have wn := rz_kn1_r hW a (pz_kv1 S s f a)
  refine ⟨by rw [esb, e18], ?_⟩
  refine (pz_fd_all (P := fun b => pz_ok S' s f a b) (by rw [esb]; omega)).2 (fun b b0 b1 => ?_)
  rw [esb] at b1
  have e19 : S' 19 (10 * (8 * (40 * s + f) + a) + b) = pz_po S (pz_rg a (pz_kv1 S s f a)) (S 15 (40 * s + f)) 10 b := by
    rw [h19]
    exact rz_kp_19 8 0 S a b hW a0 (by omega) b0 b1
  have hne : pz_kv1 S s f a ≠ -1 := fun e => by
    rw [e] at b1
    have : b < 0 := b1
    omega
  show iI (S' 19 (10 * (8 * (40 * s + f) + a) + b)) = iI (pz_po S' (8 + 12 * a + pz_sv S' s f a) (S' 15 (40 * s + f)) 10 b)
  rw [e19, show pz_rg a (pz_kv1 S s f a) = 8 + 12 * a + pz_kv1 S s f a from if_neg hne, esv, ← ev, h 15 (by decide), lq_po_t hW (h 4 (by decide)) (h 5 (by decide)) (h 6 (by decide)) (h 7 (by decide)) (h 8 (by decide)) _ _ (by omega) (by omega)]
theorem lq_rd_18 : pz_rd S s f 18 = pz_kps S s f 18 := by
  unfold pz_rd
  rw [pz_su_t (by decide), pz_su_t (by decide)]
theorem lq_rd_19 : pz_rd S s f 19 = pz_kps S s f 19 := by
  unfold pz_rd
  rw [pz_su_t (by decide), pz_su_t (by decide)]
theorem lq_rd_17 : pz_rd S s f 17 = pz_kps S s f 17 := by
  unfold pz_rd
  rw [pz_su_t (by decide), pz_su_t (by decide)]
theorem lq_rd_20 : pz_rd S s f 20 0 = S 20 0 + 1 := by
  unfold pz_rd
  exact pz_su_e
theorem lq_nd_rd (hW : pz_W S) : ¬ pz_nd (pz_rd S s f) s f := by
  intro g
  rcases g with g | g
  · rw [rz_rd_16, if_pos rfl] at g
    have := pw_16 hW (40 * s + f)
    omega
  · exact g (lq_all_ak hW (fun t ht => pz_rd_t (fun e => by rw [e] at ht; exact absurd ht (by decide)) (fun e => by rw [e] at ht; exact absurd ht (by decide)) (fun e => by rw [e] at ht; exact absurd ht (by decide)) (fun e => by rw [e] at ht; exact absurd ht (by decide)) (fun e => by rw [e] at ht; exact absurd ht (by decide))) lq_rd_18 lq_rd_19)
theorem lq_nd_kps (hW : pz_W S) (h : ¬ S 16 (40 * s + f) = 0) : ¬ pz_nd (pz_kps S s f) s f := by
  intro g
  rcases g with g | g
  · rw [pz_kps_t (by decide) (by decide) (by decide)] at g
    exact h g
  · exact g (lq_all_ak hW (fun t ht => pz_kps_t (fun e => by rw [e] at ht; exact absurd ht (by decide)) (fun e => by rw [e] at ht; exact absurd ht (by decide)) (fun e => by rw [e] at ht; exact absurd ht (by decide))) rfl rfl)
theorem lq_nd_r1 (hW : pz_W S) : ¬ pz_nd (pz_r1 S s f) s f := by
  by_cases c : pz_nd S s f
  · rw [show pz_r1 S s f = pz_rd S s f from if_pos c]
    exact lq_nd_rd hW
  · rw [show pz_r1 S s f = pz_kps S s f from if_neg c]
    exact lq_nd_kps hW (fun e => c (Or.inl e))
theorem lq_r1_16o {x : Int} (h : x ≠ 40 * s + f) : pz_r1 S s f 16 x = S 16 x := by
  by_cases c : pz_nd S s f
  · rw [show pz_r1 S s f = pz_rd S s f from if_pos c, rz_rd_16, if_neg h]
  · rw [show pz_r1 S s f = pz_kps S s f from if_neg c, pz_kps_t (by decide) (by decide) (by decide)]
theorem lq_r1_k {t : Nat} (h1 : t = 17 ∨ t = 18 ∨ t = 19) : pz_r1 S s f t = pz_kps S s f t := by
  by_cases c : pz_nd S s f
  · rw [show pz_r1 S s f = pz_rd S s f from if_pos c]
    rcases h1 with e | e | e <;> subst e
    · exact lq_rd_17
    · exact lq_rd_18
    · exact lq_rd_19
  · rw [show pz_r1 S s f = pz_kps S s f from if_neg c]
theorem lq_r1_20 : pz_r1 S s f 20 0 = S 20 0 + pz_b (pz_nd S s f) := by
  by_cases c : pz_nd S s f
  · rw [show pz_r1 S s f = pz_rd S s f from if_pos c, lq_rd_20, pz_bt c]
  · rw [show pz_r1 S s f = pz_kps S s f from if_neg c, pz_kps_t (by decide) (by decide) (by decide), pz_bf c]
    omega
theorem lq_r1_o (hW : pz_W S) {j : Int} (hne : j ≠ f) : pz_nd (pz_r1 S s f) s j ↔ pz_nd S s j := by
  obtain ⟨S1, hS1⟩ : ∃ S1, S1 = pz_r1 S s f := ⟨_, rfl⟩
  have tt : ∀ t ∈ [1, 2, 3, 4, 5, 6, 7, 8, 11, 12, 13, 14, 15], S1 t = S t := fun t ht => by
    rw [hS1]
    exact pz_r1_t (fun e => by rw [e] at ht; exact absurd ht (by decide)) (fun e => by rw [e] at ht; exact absurd ht (by decide)) (fun e => by rw [e] at ht; exact absurd ht (by decide)) (fun e => by rw [e] at ht; exact absurd ht (by decide)) (fun e => by rw [e] at ht; exact absurd ht (by decide))
  have w1 := pw_1 hW 0
  have e16 : S1 16 (40 * s + j) = S 16 (40 * s + j) := by rw [hS1]; exact lq_r1_16o (by omega)
  have e1 : S1 1 0 = S 1 0 := by rw [tt 1 (by decide)]
  have ak : ∀ a : Int, 0 ≤ a → a < 8 → (pz_ak S1 s j a ↔ pz_ak S s j a) := by
    intro a a0 a1
    have esv : pz_sv S1 s j a = pz_sv S s j a := rz_sv_t (tt 2 (by decide)) (tt 11 (by decide)) (tt 12 (by decide)) (tt 13 (by decide)) (tt 14 (by decide)) (tt 15 (by decide)) s j a
    have esb : pz_sb S1 s j a = pz_sb S s j a := by
      unfold pz_sb
      rw [esv, tt 3 (by decide)]
    have e18 : S1 18 (8 * (40 * s + j) + a) = S 18 (8 * (40 * s + j) + a) := by
      rw [hS1, lq_r1_k (Or.inr (Or.inl rfl))]
      show pz_kp s f 8 0 S 18 _ = _
      rw [rz_kp_18, if_neg (by omega)]
    have wb : 0 ≤ pz_sb S s j a ∧ pz_sb S s j a ≤ 10 := by
      unfold pz_sb
      by_cases c : pz_sv S s j a = -1
      · rw [if_pos c]; omega
      · rw [if_neg c]; exact pw_3 hW _
    have eok : ∀ b : Int, 0 ≤ b → b < 10 → (pz_ok S1 s j a b ↔ pz_ok S s j a b) := by
      intro b b0 b1
      have e19 : S1 19 (10 * (8 * (40 * s + j) + a) + b) = S 19 (10 * (8 * (40 * s + j) + a) + b) := by
        rw [hS1, lq_r1_k (Or.inr (Or.inr rfl))]
        exact rz_kp_19o 8 0 S _ hW (by omega)
      show (iI (S1 19 (10 * (8 * (40 * s + j) + a) + b)) = iI (pz_po S1 (8 + 12 * a + pz_sv S1 s j a) (S1 15 (40 * s + j)) 10 b)) ↔ _
      rw [e19, esv, tt 15 (by decide), lq_po_t hW (tt 4 (by decide)) (tt 5 (by decide)) (tt 6 (by decide)) (tt 7 (by decide)) (tt 8 (by decide)) _ _ (by omega) (by omega)]
    have ef : pz_fd (fun b => ¬ pz_ok S1 s j a b) 0 (pz_sb S s j a).toNat = pz_fd (fun b => ¬ pz_ok S s j a b) 0 (pz_sb S s j a).toNat := rz_fd_c _ _ (fun b b0 b1 => not_congr (eok b b0 (by omega)))
    show (pz_sb S1 s j a = S1 18 (8 * (40 * s + j) + a) ∧ pz_fd (fun b => ¬ pz_ok S1 s j a b) 0 (pz_sb S1 s j a).toNat = pz_sb S1 s j a) ↔ _
    rw [esb, e18, ef]
  have ef : pz_fd (fun a => ¬ pz_ak S1 s j a) 0 (S 1 0).toNat = pz_fd (fun a => ¬ pz_ak S s j a) 0 (S 1 0).toNat := rz_fd_c _ _ (fun a a0 a1 => not_congr (ak a a0 (by omega)))
  rw [← hS1]
  show (S1 16 (40 * s + j) = 0 ∨ ¬ pz_fd (fun a => ¬ pz_ak S1 s j a) 0 (S1 1 0).toNat = S1 1 0) ↔ _
  rw [e16, e1, ef]
theorem lq_r1_kv {a : Int} (hW : pz_W S) (a0 : 0 ≤ a) (a1 : a < 8) : pz_kv (pz_r1 S s f) s f a = pz_kv1 S s f a := by
  have h16 : ¬ pz_r1 S s f 16 (40 * s + f) = 0 := fun e => lq_nd_r1 hW (Or.inl e)
  unfold pz_kv
  rw [if_neg h16, lq_r1_k (Or.inl rfl)]
  show pz_kp s f 8 0 S 17 _ = _
  rw [rz_kp_17, if_pos (by omega), show 8 * (40 * s + f) + a - 8 * (40 * s + f) = a by omega]
theorem lq_r1_kvo {j a : Int} (hne : j ≠ f) (a0 : 0 ≤ a) (a1 : a < 8) : pz_kv (pz_r1 S s f) s j a = pz_kv S s j a := by
  unfold pz_kv
  rw [lq_r1_16o (by omega), lq_r1_k (Or.inl rfl)]
  have e : pz_kps S s f 17 (8 * (40 * s + j) + a) = S 17 (8 * (40 * s + j) + a) := by
    show pz_kp s f 8 0 S 17 _ = _
    rw [rz_kp_17, if_neg (by omega)]
  rw [e]
end
section
variable {s N : Int}
theorem lq_rS : ∀ (n : Nat) (f : Int) (S : pz_S), pz_W S → (∀ j, f ≤ j → S 16 (40 * s + j) ≤ 999999999) → f + n = N → 0 ≤ f →
    (∀ t : Nat, t ≠ 16 → t ≠ 17 → t ≠ 18 → t ≠ 19 → t ≠ 20 → pz_rS s n f S t = S t) ∧ (∀ j, f ≤ j → j < N → ¬ pz_nd (pz_rS s n f S) s j) ∧ (∀ j, j < f → (pz_nd (pz_rS s n f S) s j ↔ pz_nd S s j)) ∧ pz_rN s n f S = pz_sm (fun j => pz_b (pz_nd S s j)) f n ∧ pz_rS s n f S 20 0 = S 20 0 + pz_rN s n f S ∧ (∀ j a, f ≤ j → j < N → 0 ≤ a → a < 8 → pz_kv (pz_rS s n f S) s j a = pz_kv1 S s j a) ∧ (∀ j a, j < f → 0 ≤ a → a < 8 → pz_kv (pz_rS s n f S) s j a = pz_kv S s j a) := by
  intro n
  induction n with
  | zero =>
    intro f S hW h16 hN f0
    exact ⟨fun t _ _ _ _ _ => rfl, fun j j0 j1 => by omega, fun j _ => Iff.rfl, rfl, by show S 20 0 = S 20 0 + 0; omega, fun j a j0 j1 => by omega, fun j a _ _ _ => rfl⟩
  | succ n ih =>
    intro f S hW h16 hN f0
    have hW1 : pz_W (pz_r1 S s f) := pw_r1 hW (h16 f (Int.le_refl f))
    obtain ⟨i1, i2, i3, i4, i5, i6, i7⟩ := ih (f + 1) (pz_r1 S s f) hW1 (fun j hj => by rw [lq_r1_16o (by omega)]; exact h16 j (by omega)) (by omega) (by omega)
    have r4 : pz_rN s (n + 1) f S = pz_b (pz_nd S s f) + pz_rN s n (f + 1) (pz_r1 S s f) := rfl
    refine ⟨fun t h1 h2 h3 h4 h5 => (i1 t h1 h2 h3 h4 h5).trans (pz_r1_t h2 h3 h4 h1 h5), fun j j0 j1 => ?_, fun j hj => (i3 j (by omega)).trans (lq_r1_o hW (by omega)), ?_, ?_, fun j a j0 j1 a0 a1 => ?_, fun j a hj a0 a1 => (i7 j a (by omega) a0 a1).trans (lq_r1_kvo (by omega) a0 a1)⟩
    · by_cases e : j = f
      · subst e
        exact fun g => lq_nd_r1 hW ((i3 j (by omega)).1 g)
      · exact i2 j (by omega) j1
    · rw [r4, i4]
      show _ = pz_b (pz_nd S s f) + pz_sm (fun j => pz_b (pz_nd S s j)) (f + 1) n
      rw [pz_sm_congr n (f + 1) (fun j j0 j1 => lq_bc (lq_r1_o hW (by omega)))]
    · show pz_rS s n (f + 1) (pz_r1 S s f) 20 0 = _
      rw [i5, lq_r1_20, r4]
      omega
    · by_cases e : j = f
      · subst e
        exact (i7 j a (by omega) a0 a1).trans (lq_r1_kv hW a0 a1)
      · refine (i6 j a (by omega) j1 a0 a1).trans ?_
        exact rz_kv1_t (pz_r1_t (by decide) (by decide) (by decide) (by decide) (by decide)) (pz_r1_t (by decide) (by decide) (by decide) (by decide) (by decide)) (pz_r1_t (by decide) (by decide) (by decide) (by decide) (by decide)) (pz_r1_t (by decide) (by decide) (by decide) (by decide) (by decide)) (pz_r1_t (by decide) (by decide) (by decide) (by decide) (by decide)) (pz_r1_t (by decide) (by decide) (by decide) (by decide) (by decide)) (pz_r1_t (by decide) (by decide) (by decide) (by decide) (by decide)) s j a
end
section
variable {S S' : pz_S} {s f : Int}
theorem lq_sm0 {g : Int → Int} : ∀ (n : Nat) (a : Int), (∀ j, a ≤ j → j < a + n → g j = 0) → pz_sm g a n = 0 := by
  intro n
  induction n with
  | zero => intro a h; rfl
  | succ n ih =>
    intro a h
    show g a + pz_sm g (a + 1) n = 0
    rw [h a (by omega) (by omega), ih (a + 1) (fun j j0 j1 => h j (by omega) (by omega))]
    rfl
theorem lq_mx0 {a L : Int} : ∀ (n : Nat) (f v0 : Int), (v0 = -1 ∨ v0 = L) → (∀ j, f ≤ j → j < f + n → pz_kv S s j a = -1 ∨ pz_kv S s j a = L) → pz_mxs S s a n f v0 0 = 0 := by
  intro n
  induction n with
  | zero => intro f v0 h0 h; rfl
  | succ n ih =>
    intro f v0 h0 h
    have k := h f (by omega) (by omega)
    show pz_mxs S s a n (f + 1) (if v0 = -1 then pz_kv S s f a else v0) (pz_b (¬ (0 : Int) = 0 ∨ (¬ pz_kv S s f a = -1 ∧ ¬ v0 = -1 ∧ ¬ pz_kv S s f a = v0))) = 0
    rw [pz_bf (show ¬ (¬ (0 : Int) = 0 ∨ (¬ pz_kv S s f a = -1 ∧ ¬ v0 = -1 ∧ ¬ pz_kv S s f a = v0)) by omega)]
    refine ih (f + 1) _ ?_ (fun j j0 j1 => h j (by omega) (by omega))
    by_cases c : v0 = -1
    · rw [if_pos c]; exact k
    · rw [if_neg c]; exact h0
/-- a scene that was rendered needs nothing and mixes nothing -/
theorem lq_render (hW : pz_W S) (h16 : ∀ i, S 16 i ≤ 999999999) : pz_rN s (S 10 s).toNat 0 S = pz_nds S s ∧ pz_rS s (S 10 s).toNat 0 S 10 s = S 10 s ∧ pz_nds (pz_rS s (S 10 s).toNat 0 S) s = 0 ∧ pz_xs (pz_rS s (S 10 s).toNat 0 S) s = 0 ∧ pz_rS s (S 10 s).toNat 0 S 20 0 = S 20 0 + pz_nds S s := by
  have w10 := pw_10 hW s
  have w1 := pw_1 hW 0
  obtain ⟨i1, i2, i3, i4, i5, i6, i7⟩ := lq_rS (s := s) (N := S 10 s) (S 10 s).toNat 0 S hW (fun j _ => h16 _) (by omega) (Int.le_refl 0)
  have t10 : pz_rS s (S 10 s).toNat 0 S 10 = S 10 := i1 10 (by decide) (by decide) (by decide) (by decide) (by decide)
  have t1 : pz_rS s (S 10 s).toNat 0 S 1 = S 1 := i1 1 (by decide) (by decide) (by decide) (by decide) (by decide)
  have t11 : pz_rS s (S 10 s).toNat 0 S 11 = S 11 := i1 11 (by decide) (by decide) (by decide) (by decide) (by decide)
  have t12 : pz_rS s (S 10 s).toNat 0 S 12 = S 12 := i1 12 (by decide) (by decide) (by decide) (by decide) (by decide)
  refine ⟨i4, by rw [t10], ?_, ?_, by rw [i5, i4]⟩
  · refine lq_sm0 _ _ (fun j j0 j1 => pz_bf (i2 j j0 ?_))
    rw [t10] at j1
    omega
  · refine lq_sm0 _ _ (fun a a0 a1 => ?_)
    rw [t1] at a1
    refine pz_bf (fun g => g.2 ?_)
    obtain ⟨⟨g1, g2⟩, -⟩ := g
    rw [t11] at g1
    rw [t12] at g2
    show pz_mxs _ s a (pz_rS s (S 10 s).toNat 0 S 10 s).toNat 0 (-1) 0 = 0
    rw [t10]
    refine lq_mx0 (L := S 2 a - 1) _ 0 (-1) (Or.inl rfl) (fun j j0 j1 => ?_)
    rw [i6 j a j0 (by omega) a0 (by omega)]
    unfold pz_kv1 pz_sv
    rw [if_pos (show a < S 1 0 by omega), if_pos g2]
    by_cases c : S 11 (8 * s + a) = 0 ∨ ¬ (S 13 (8 * s + a) ≤ S 15 (40 * s + j) ∧ S 15 (40 * s + j) ≤ S 14 (8 * s + a))
    · exact Or.inl (if_pos c)
    · exact Or.inr (if_neg c)
end
