/-! p24: sums that the law takes -/
section
variable {S S' : pz_S} {s f : Int}
theorem lq_sma {g h : Int → Int} : ∀ (n : Nat) (a : Int), pz_sm (fun j => g j + h j) a n = pz_sm g a n + pz_sm h a n := by
  intro n
  induction n with
  | zero => intro a; rfl
  | succ n ih =>
    intro a
    show g a + h a + pz_sm (fun j => g j + h j) (a + 1) n = g a + pz_sm g (a + 1) n + (h a + pz_sm h (a + 1) n)
    rw [ih]
    omega
theorem lq_swap {g : Int → Int → Int} {b : Int} {m : Nat} : ∀ (n : Nat) (a : Int), pz_sm (fun i => pz_sm (fun k => g i k) b m) a n = pz_sm (fun k => pz_sm (fun i => g i k) a n) b m := by
  intro n
  induction n with
  | zero => intro a; exact (lq_sm0 _ _ (fun j _ _ => rfl)).symm
  | succ n ih =>
    intro a
    show pz_sm (fun k => g a k) b m + pz_sm (fun i => pz_sm (fun k => g i k) b m) (a + 1) n = pz_sm (fun k => g a k + pz_sm (fun i => g i k) (a + 1) n) b m
    rw [ih, lq_sma]
theorem lq_sm1 {g h : Int → Int} {x : Int} : ∀ (n : Nat) (a : Int), (∀ j, a ≤ j → j < a + n → j ≠ x → h j = g j) → a ≤ x → x < a + n → pz_sm h a n = pz_sm g a n + h x - g x := by
  intro n
  induction n with
  | zero => intro a _ h1 h2; omega
  | succ n ih =>
    intro a hj h1 h2
    show h a + pz_sm h (a + 1) n = g a + pz_sm g (a + 1) n + h x - g x
    by_cases e : a = x
    · subst e
      rw [pz_sm_congr n (a + 1) (fun j j0 j1 => hj j (by omega) (by omega) (by omega))]
      omega
    · rw [ih (a + 1) (fun j j0 j1 => hj j (by omega) (by omega)) (by omega) (by omega), hj a (by omega) (by omega) e]
      omega
theorem lq_smle {g h : Int → Int} : ∀ (n : Nat) (a : Int), (∀ j, a ≤ j → j < a + n → g j ≤ h j) → pz_sm g a n ≤ pz_sm h a n := by
  intro n
  induction n with
  | zero => intro a _; exact Int.le_refl _
  | succ n ih =>
    intro a hj
    show g a + pz_sm g (a + 1) n ≤ h a + pz_sm h (a + 1) n
    have h1 := hj a (by omega) (by omega)
    have h2 := ih (a + 1) (fun j j0 j1 => hj j (by omega) (by omega))
    omega
theorem lq_br {c : Prop} [Decidable c] : 0 ≤ pz_b c ∧ pz_b c ≤ 1 := by
  by_cases h : c
  · rw [pz_bt h]; omega
  · rw [pz_bf h]; omega
theorem lq_sm_r {g : Int → Int} {M : Int} : ∀ (n : Nat) (a : Int), (∀ j, a ≤ j → j < a + n → 0 ≤ g j ∧ g j ≤ M) → 0 ≤ pz_sm g a n ∧ pz_sm g a n ≤ M * n := by
  intro n
  induction n with
  | zero =>
    intro a _
    have : pz_sm g a 0 = 0 := rfl
    rw [this]
    omega
  | succ n ih =>
    intro a hj
    have h1 := hj a (by omega) (by omega)
    have h2 := ih (a + 1) (fun j j0 j1 => hj j (by omega) (by omega))
    have e : pz_sm g a (n + 1) = g a + pz_sm g (a + 1) n := rfl
    have e2 : M * ((n + 1 : Nat) : Int) = M * (n : Int) + M := by rw [show ((n + 1 : Nat) : Int) = (n : Int) + 1 by omega, Int.mul_add, Int.mul_one]
    rw [e, e2]
    omega
/-- one more at the end -/
theorem lq_sme {g : Int → Int} : ∀ (n : Nat) (a : Int), pz_sm g a (n + 1) = pz_sm g a n + g (a + n) := by
  intro n
  induction n with
  | zero =>
    intro a
    show g a + 0 = 0 + g (a + ((0 : Nat) : Int))
    rw [show a + ((0 : Nat) : Int) = a by omega]
    omega
  | succ n ih =>
    intro a
    have h := ih (a + 1)
    rw [show a + 1 + (n : Int) = a + ((n + 1 : Nat) : Int) by omega] at h
    show g a + pz_sm g (a + 1) (n + 1) = g a + pz_sm g (a + 1) n + g (a + ((n + 1 : Nat) : Int))
    rw [h]
    omega
theorem lq_smn {g : Int → Int} {i : Int} (h : 0 ≤ i) : pz_sm g 0 (i + 1).toNat = pz_sm g 0 i.toNat + g i := by
  rw [show (i + 1).toNat = i.toNat + 1 by omega, lq_sme, show (0 : Int) + (i.toNat : Int) = i by omega]
/-- the open notes of a scene, by its frames -/
abbrev lq_op (S : pz_S) (s : Int) : Int := pz_sm (fun k => pz_b (S 22 k = s ∧ S 24 k = 0)) 0 (S 21 0).toNat
theorem lq_open (hW : pz_W S) (hI : lq_I S) (s0 : 0 ≤ s) (s1 : s < 2) : pz_sm (fun i => pz_us S s i) 0 (S 10 s).toNat = lq_op S s := by
  obtain ⟨i1, i2, i3, i4, i5, i6, i7, i8⟩ := hI
  have w21 := pw_21 hW 0
  show pz_sm (fun i => pz_sm (fun k => pz_un S s i k) 0 (S 21 0).toNat) 0 (S 10 s).toNat = _
  rw [lq_swap]
  refine pz_sm_congr _ _ (fun k k0 k1 => ?_)
  have h8 := i8 k k0 (by omega)
  have w23 := pw_23 hW k
  by_cases c : S 22 k = s ∧ S 24 k = 0
  · rw [pz_bt c]
    have h9 := h8.2
    rw [c.1] at h9
    rw [lq_sm1 (g := fun _ => 0) (h := fun i => pz_un S s i k) (x := S 23 k) (S 10 s).toNat 0 (fun j j0 j1 jn => pz_bf (fun g => by omega)) w23.1 (by omega), lq_sm0 _ _ (fun _ _ _ => rfl)]
    show 0 + pz_un S s (S 23 k) k - 0 = 1
    rw [show pz_un S s (S 23 k) k = 1 from pz_bt ⟨c.2, Or.inr c.1, Or.inr rfl⟩]
    rfl
  · rw [pz_bf c]
    exact lq_sm0 _ _ (fun j j0 j1 => pz_bf (fun g => c ⟨by omega, g.1⟩))
theorem lq_bs (hW : pz_W S) (hI : lq_I S) (hP : pz_I S) (s0 : 0 ≤ s) (s1 : s < 2) : 0 ≤ pz_bs S s f ∧ pz_bs S s f ≤ 6 := by
  obtain ⟨i1, i2, i3, i4, i5, i6, i7, i8⟩ := hI
  have h := lq_sm_r (g := fun a => pz_sb S s f a) (M := 3) (S 1 0).toNat 0 (fun a a0 a1 => by
    unfold pz_sb
    have w2 := pw_2 hW a
    have lt := pz_sv_lt hP (f := f) s0 (by omega) a0 (by omega) w2.1
    have r := pz_sv_r hW s f a
    by_cases c : pz_sv S s f a = -1
    · rw [if_pos c]; omega
    · rw [if_neg c]
      have := i3 a (pz_sv S s f a) a0 (by omega) (by omega) lt
      have w3 := pw_3 hW (8 + 12 * a + pz_sv S s f a)
      omega)
  rw [i1.1] at h
  show 0 ≤ pz_sm (fun a => pz_sb S s f a) 0 (S 1 0).toNat ∧ pz_sm (fun a => pz_sb S s f a) 0 (S 1 0).toNat ≤ 6
  rw [i1.1]
  exact ⟨h.1, Int.le_trans h.2 (by decide)⟩
theorem lq_xs (hI : lq_I S) : 0 ≤ pz_xs S s ∧ pz_xs S s ≤ 2 := by
  have h := lq_sm_r (g := fun a => pz_xa S s a) (M := 1) (S 1 0).toNat 0 (fun a a0 a1 => lq_br)
  rw [hI.1.1] at h
  show 0 ≤ pz_sm (fun a => pz_xa S s a) 0 (S 1 0).toNat ∧ pz_sm (fun a => pz_xa S s a) 0 (S 1 0).toNat ≤ 2
  rw [hI.1.1]
  exact ⟨h.1, Int.le_trans h.2 (by decide)⟩
theorem lq_nds_r (hW : pz_W S) : 0 ≤ pz_nds S s ∧ pz_nds S s ≤ 40 := by
  have w := pw_10 hW s
  have h := lq_sm_r (g := fun f => pz_b (pz_nd S s f)) (M := 1) (S 10 s).toNat 0 (fun a a0 a1 => lq_br)
  refine ⟨h.1, Int.le_trans h.2 ?_⟩
  omega
theorem lq_us_r (hW : pz_W S) {i : Int} : 0 ≤ pz_us S s i ∧ pz_us S s i ≤ 40 := by
  have w := pw_21 hW 0
  have h := lq_sm_r (g := fun k => pz_un S s i k) (M := 1) (S 21 0).toNat 0 (fun a a0 a1 => lq_br)
  refine ⟨h.1, Int.le_trans h.2 ?_⟩
  omega
theorem lq_cn1 (hI : lq_I S) : pz_cn S 1 = S 2 0 + S 2 1 := by
  obtain ⟨⟨h1, h9⟩, -⟩ := hI
  have e : ∀ k, pz_ct S 1 k = if k < 2 then S 2 k else 0 := fun k => by
    unfold pz_ct
    rw [if_pos rfl, h1]
  show pz_sm (fun k => pz_ct S 1 k) 0 8 = _
  rw [pz_sm_congr 8 0 (fun j _ _ => e j)]
  simp [pz_sm]
theorem lq_cn3 (hI : lq_I S) : pz_cn S 3 = S 10 0 + S 10 1 := by
  obtain ⟨⟨h1, h9⟩, -⟩ := hI
  have e : ∀ k, pz_ct S 3 k = if k < 2 then S 10 k else 0 := fun k => by
    unfold pz_ct
    rw [if_neg (by decide), h9, if_pos rfl]
  show pz_sm (fun k => pz_ct S 3 k) 0 8 = _
  rw [pz_sm_congr 8 0 (fun j _ _ => e j)]
  simp [pz_sm]
/-- a note that is settled -/
theorem lq_settle {n : Int} (hW : pz_W S) (n0 : 0 ≤ n) (n1 : n < S 21 0) (h : S 24 n = 0) : pz_us (pz_su S 24 n 1) (-1) (-1) = pz_us S (-1) (-1) - 1 ∧ pz_us (pz_su S 24 n 1) s (-1) ≤ pz_us S (-1) (-1) - 1 := by
  have w := pw_21 hW 0
  have t21 : pz_su S 24 n 1 21 0 = S 21 0 := by rw [pz_su_t (by decide)]
  have e24 : ∀ k, pz_su S 24 n 1 24 k = if k = n then 1 else S 24 k := fun k => pz_su_i
  have q : pz_us (pz_su S 24 n 1) (-1) (-1) = pz_us S (-1) (-1) - 1 := by
    show pz_sm (fun k => pz_un (pz_su S 24 n 1) (-1) (-1) k) 0 (pz_su S 24 n 1 21 0).toNat = pz_sm (fun k => pz_un S (-1) (-1) k) 0 (S 21 0).toNat - 1
    rw [t21, lq_sm1 (g := fun k => pz_un S (-1) (-1) k) (x := n) (S 21 0).toNat 0 (fun j j0 j1 jn => ?_) n0 (by omega)]
    · have a1 : pz_un (pz_su S 24 n 1) (-1) (-1) n = 0 := pz_bf (fun g => by
        have g1 := g.1
        rw [e24, if_pos rfl] at g1
        exact absurd g1 (by decide))
      have a2 : pz_un S (-1) (-1) n = 1 := pz_bt ⟨h, Or.inl rfl, Or.inl rfl⟩
      rw [a1, a2]
      omega
    · show pz_un (pz_su S 24 n 1) (-1) (-1) j = pz_un S (-1) (-1) j
      unfold pz_un
      refine lq_bc ?_
      rw [e24, if_neg jn, pz_su_t (t := 24) (t' := 22) (by decide), pz_su_t (t := 24) (t' := 23) (by decide)]
  refine ⟨q, ?_⟩
  rw [← q]
  refine lq_smle _ _ (fun j j0 j1 => ?_)
  show pz_un (pz_su S 24 n 1) s (-1) j ≤ pz_un (pz_su S 24 n 1) (-1) (-1) j
  by_cases c : pz_su S 24 n 1 24 j = 0
  · rw [show pz_un (pz_su S 24 n 1) (-1) (-1) j = 1 from pz_bt ⟨c, Or.inl rfl, Or.inl rfl⟩]
    exact lq_br.2
  · rw [show pz_un (pz_su S 24 n 1) s (-1) j = 0 from pz_bf (fun g => c g.1)]
    exact lq_br.1
/-- how many assets are cast -/
theorem lq_cast {a v g t : Int} (hW : pz_W S) (hI : lq_I S) (a0 : 0 ≤ a) (a1 : a < 2) : pz_sm (fun b => pz_ca (pz_cst S (8 * s + a) v g t) b s) 0 (S 1 0).toNat = 1 ∨ pz_sm (fun b => pz_ca (pz_cst S (8 * s + a) v g t) b s) 0 (S 1 0).toNat = 2 := by
  have e : ∀ b, pz_ca (pz_cst S (8 * s + a) v g t) b s = if b = a then 1 else pz_ca S b s := fun b => by
    have e11 : pz_cst S (8 * s + a) v g t 11 (8 * s + b) = if b = a then 1 else S 11 (8 * s + b) := by
      unfold pz_cst
      rw [pz_su_t (by decide), pz_su_t (by decide), pz_su_t (by decide), pz_su_i]
      exact rz_ic (by omega)
    unfold pz_ca
    by_cases c : b = a
    · rw [if_pos c] at e11 ⊢
      exact pz_bt (by rw [e11]; decide)
    · rw [if_neg c] at e11 ⊢
      rw [e11]
  rw [pz_sm_congr _ _ (fun b _ _ => e b), hI.1.1]
  show (if (0 : Int) = a then 1 else pz_ca S 0 s) + ((if (0 + 1 : Int) = a then 1 else pz_ca S (0 + 1) s) + 0) = 1 ∨ (if (0 : Int) = a then 1 else pz_ca S 0 s) + ((if (0 + 1 : Int) = a then 1 else pz_ca S (0 + 1) s) + 0) = 2
  have r0 : 0 ≤ pz_ca S 0 s ∧ pz_ca S 0 s ≤ 1 := lq_br
  have r1 : 0 ≤ pz_ca S (0 + 1) s ∧ pz_ca S (0 + 1) s ≤ 1 := lq_br
  rcases (show a = 0 ∨ a = 1 by omega) with c | c <;> subst c
  · rw [if_pos rfl, if_neg (by decide)]; omega
  · rw [if_neg (by decide), if_pos (by decide)]; omega
theorem lq_kv (hW : pz_W S) (hP : pz_I S) {a : Int} (s0 : 0 ≤ s) (s1 : s < S 9 0) (f0 : 0 ≤ f) (f1 : f < S 10 s) (a0 : 0 ≤ a) (a1 : a < 8) : -1 ≤ pz_kv S s f a ∧ pz_kv S s f a < S 2 a := by
  refine ⟨(pz_kv_r hW s f a).1, ?_⟩
  have w2 := pw_2 hW a
  unfold pz_kv
  by_cases c : S 16 (40 * s + f) = 0
  · rw [if_pos c]; omega
  · rw [if_neg c]
    exact (hP.2.2 s f a s0 s1 f0 f1 a0 a1 c).1
end
