/-! p24: the law's turns: what each leaves (written by wip/p24/gen/q98.py) -/
section
variable {σ σ' : mb_S} {S S' : pz_S} {ad ad' : rz_A} {Fo : Nat → Prop} {x a0 n sA bA fA vA dA : Nat} {g gs gb gf gv gd gz : Nat → Int32}
theorem ll_Rs (h : rz_R σ S ad Fo) (hs : ∀ q, ¬ Fo q → σ'.1 q = σ.1 q) (hn : σ.2.1 ≤ σ'.2.1) : rz_R σ' S ad Fo :=
  ⟨fun t i hl => ⟨by
    obtain ⟨e, e1, e2⟩ := (h.1 t i hl).1
    exact ⟨e, (hs _ (h.1 t i hl).2.2).trans e1, e2⟩, Nat.lt_of_lt_of_le (h.1 t i hl).2.1 hn, (h.1 t i hl).2.2⟩, h.2.1, fun q hq => Nat.lt_of_lt_of_le (h.2.2 q hq) hn⟩
theorem ll_Ru (h : rz_R σ S ad Fo) {c : Nat} {e : va_E} (hc : Fo c) : rz_R (mb_up σ c e) S ad Fo := ll_Rs h (fun q hq => gu_at (fun (k : q = c) => hq (by rw [k]; exact hc))) (Nat.le_refl _)
theorem ll_x (h : rz_R σ S ad Fo) : ∃ z, σ.1 (ad 0 0) = some (.inr (7, z)) := ⟨_, rz_geq h (t := 0) (i := 0) rfl (fun _ k => k)⟩
/-- the law's own arrays are its own -/
def ll_Ad (Fo : Nat → Prop) (a0 sA bA fA vA dA : Nat) : Prop := (Fo a0 ∧ Fo sA ∧ Fo bA ∧ Fo fA ∧ Fo vA ∧ Fo dA) ∧ (a0 ≠ sA ∧ a0 ≠ bA ∧ a0 ≠ fA ∧ a0 ≠ vA ∧ a0 ≠ dA) ∧ (sA ≠ bA ∧ sA ≠ fA ∧ sA ≠ vA ∧ sA ≠ dA) ∧ (bA ≠ fA ∧ bA ≠ vA ∧ bA ≠ dA) ∧ (fA ≠ vA ∧ fA ≠ dA) ∧ vA ≠ dA
def ll_C (σ : mb_S) (a0 n sA bA fA vA dA : Nat) (g gs gb gf gv gd : Nat → Int32) : Prop := σ.1 a0 = some (.inl (9, n, .inl g)) ∧ σ.1 sA = some (.inl (0, 24, .inl gs)) ∧ σ.1 bA = some (.inl (0, 24, .inl gb)) ∧ σ.1 fA = some (.inl (0, 2, .inl gf)) ∧ σ.1 vA = some (.inl (0, 2, .inl gv)) ∧ σ.1 dA = some (.inl (0, 2, .inl gd))
def ll_N (S : pz_S) (gf gv gd : Nat → Int32) : Prop := (∀ c : Int, 0 ≤ c → c < 2 → gf (iI c).toNatClampNeg = iI (S 10 c)) ∧ (∀ c : Int, 0 ≤ c → c < 2 → gv (iI c).toNatClampNeg = iI (S 2 c)) ∧ ∀ c : Int, 0 ≤ c → c < 2 → gd (iI c).toNatClampNeg = iI (S 3 c)
theorem ll_Ck (hA : ll_Ad Fo a0 sA bA fA vA dA) (hC : ll_C σ a0 n sA bA fA vA dA g gs gb gf gv gd) (hF : ∀ q, Fo q → σ'.1 q = σ.1 q) : ll_C σ' a0 n sA bA fA vA dA g gs gb gf gv gd := by
  obtain ⟨⟨f0, f1, f2, f3, f4, f5⟩, -⟩ := hA
  obtain ⟨k0, k1, k2, k3, k4, k5⟩ := hC
  exact ⟨(hF _ f0).trans k0, (hF _ f1).trans k1, (hF _ f2).trans k2, (hF _ f3).trans k3, (hF _ f4).trans k4, (hF _ f5).trans k5⟩
theorem ll_Cs (hA : ll_Ad Fo a0 sA bA fA vA dA) (hC : ll_C σ a0 n sA bA fA vA dA g gs gb gf gv gd) : ll_C (mb_up σ sA (.inl (0, 24, .inl gz))) a0 n sA bA fA vA dA g gz gb gf gv gd := by
  obtain ⟨-, ⟨e1, e2, e3, e4, e5⟩, ⟨e6, e7, e8, e9⟩, ⟨e10, e11, e12⟩, ⟨e13, e14⟩, e15⟩ := hA
  obtain ⟨k0, k1, k2, k3, k4, k5⟩ := hC
  exact ⟨(gu_at e1).trans k0, gu_ae, (gu_at e6.symm).trans k2, (gu_at e7.symm).trans k3, (gu_at e8.symm).trans k4, (gu_at e9.symm).trans k5⟩
theorem ll_Cb (hA : ll_Ad Fo a0 sA bA fA vA dA) (hC : ll_C σ a0 n sA bA fA vA dA g gs gb gf gv gd) : ll_C (mb_up σ bA (.inl (0, 24, .inl gz))) a0 n sA bA fA vA dA g gs gz gf gv gd := by
  obtain ⟨-, ⟨e1, e2, e3, e4, e5⟩, ⟨e6, e7, e8, e9⟩, ⟨e10, e11, e12⟩, ⟨e13, e14⟩, e15⟩ := hA
  obtain ⟨k0, k1, k2, k3, k4, k5⟩ := hC
  exact ⟨(gu_at e2).trans k0, (gu_at e6).trans k1, gu_ae, (gu_at e10.symm).trans k3, (gu_at e11.symm).trans k4, (gu_at e12.symm).trans k5⟩
theorem ll_Cf (hA : ll_Ad Fo a0 sA bA fA vA dA) (hC : ll_C σ a0 n sA bA fA vA dA g gs gb gf gv gd) : ll_C (mb_up σ fA (.inl (0, 2, .inl gz))) a0 n sA bA fA vA dA g gs gb gz gv gd := by
  obtain ⟨-, ⟨e1, e2, e3, e4, e5⟩, ⟨e6, e7, e8, e9⟩, ⟨e10, e11, e12⟩, ⟨e13, e14⟩, e15⟩ := hA
  obtain ⟨k0, k1, k2, k3, k4, k5⟩ := hC
  exact ⟨(gu_at e3).trans k0, (gu_at e7).trans k1, (gu_at e10).trans k2, gu_ae, (gu_at e13.symm).trans k4, (gu_at e14.symm).trans k5⟩
theorem ll_Cv (hA : ll_Ad Fo a0 sA bA fA vA dA) (hC : ll_C σ a0 n sA bA fA vA dA g gs gb gf gv gd) : ll_C (mb_up σ vA (.inl (0, 2, .inl gz))) a0 n sA bA fA vA dA g gs gb gf gz gd := by
  obtain ⟨-, ⟨e1, e2, e3, e4, e5⟩, ⟨e6, e7, e8, e9⟩, ⟨e10, e11, e12⟩, ⟨e13, e14⟩, e15⟩ := hA
  obtain ⟨k0, k1, k2, k3, k4, k5⟩ := hC
  exact ⟨(gu_at e4).trans k0, (gu_at e8).trans k1, (gu_at e11).trans k2, (gu_at e13).trans k3, gu_ae, (gu_at e15.symm).trans k5⟩
theorem ll_Cd (hA : ll_Ad Fo a0 sA bA fA vA dA) (hC : ll_C σ a0 n sA bA fA vA dA g gs gb gf gv gd) : ll_C (mb_up σ dA (.inl (0, 2, .inl gz))) a0 n sA bA fA vA dA g gs gb gf gv gz := by
  obtain ⟨-, ⟨e1, e2, e3, e4, e5⟩, ⟨e6, e7, e8, e9⟩, ⟨e10, e11, e12⟩, ⟨e13, e14⟩, e15⟩ := hA
  obtain ⟨k0, k1, k2, k3, k4, k5⟩ := hC
  exact ⟨(gu_at e5).trans k0, (gu_at e9).trans k1, (gu_at e12).trans k2, (gu_at e14).trans k3, (gu_at e15).trans k4, gu_ae⟩
theorem ll_cst {c v f t : Int} {k : Nat} (h1 : k ≠ 11) (h2 : k ≠ 12) (h3 : k ≠ 13) (h4 : k ≠ 14) : pz_cst S c v f t k = S k := (pz_su_t h4).trans ((pz_su_t h3).trans ((pz_su_t h2).trans (pz_su_t h1)))
theorem ll_u {i c : Int} {v : Int32} (i0 : 0 ≤ i) (i1 : i ≤ 1000) (j0 : 0 ≤ c) (j1 : c ≤ 1000) : upd gz (iI i).toNatClampNeg v (iI c).toNatClampNeg = if c = i then v else gz (iI c).toNatClampNeg := by
  have e1 := pz_nat i0 (show i ≤ 2147483647 by omega)
  have e2 := pz_nat j0 (show c ≤ 2147483647 by omega)
  rw [e1, e2]
  unfold upd
  by_cases h : c = i
  · rw [if_pos h, if_pos (by rw [h])]
  · rw [if_neg h, if_neg (by omega)]
end
section
variable {σ σ1 : mb_S} {S S1 : pz_S} {ad ad1 : rz_A} {Fo : Nat → Prop} {x a0 n sA bA fA vA dA : Nat} {g gs gb gf gv gd : Nat → Int32} {nt lk tn t y dd a sc : Int} {l16 l17 l18 l19 : Option Value}
/-- the law's locals -/
abbrev ll_L (x a0 sA bA fA vA dA : Nat) (nt lk tn t y dd a sc : Int) (l16 l17 l18 l19 : Option Value) : mb_L := [some (.ref a0), some (.ref x), some (.ref sA), some (.ref bA), some (.ref fA), some (.ref vA), some (.ref dA), some (.int (iI nt)), some (.int (iI lk)), some (.int (iI 1)), some (.int (iI tn)), some (.int (iI t)), some (.int (iI y)), some (.int (iI dd)), some (.int (iI a)), some (.int (iI sc)), l16, l17, l18, l19]
/-- what holds ahead of turn t -/
def ll_S (Fo : Nat → Prop) (x a0 n sA bA fA vA dA : Nat) (σ : mb_S) (S : pz_S) (ad : rz_A) (g gs gb gf gv gd : Nat → Int32) (t nt lk : Int) : Prop := (rz_R σ S ad Fo ∧ ad 0 0 = x ∧ rz_In S ∧ lq_I S) ∧ (ll_C σ a0 n sA bA fA vA dA g gs gb gf gv gd ∧ ll_N S gf gv gd ∧ lq_T S gs gb) ∧ (nt = S 21 0 ∧ 0 ≤ lk ∧ lk ≤ 30 ∧ (∀ i, S 16 i ≤ 2 * t) ∧ 0 ≤ S 20 0 ∧ S 20 0 ≤ 100 * t) ∧ ∀ c : Int, 0 ≤ c → c < 2 → (c < t → 1 ≤ S 3 c) ∧ (t ≤ c → S 3 c = 0)
/-- a turn from pc p goes well -/
def ll_T (Fo : Nat → Prop) (x a0 n sA bA fA vA dA : Nat) (g : Nat → Int32) (p : Nat) (σ : mb_S) (nt lk tn t y dd a sc : Int) (l16 l17 l18 l19 : Option Value) : Prop := ∃ (σ' : mb_S) (S' : pz_S) (ad' : rz_A) (gs gb gf gv gd : Nat → Int32) (nt' lk' : Int) (m16 m17 m18 m19 : Option Value), ll_S Fo x a0 n sA bA fA vA dA σ' S' ad' g gs gb gf gv gd (t + 1) nt' lk' ∧ (σ.2.1 ≤ σ'.2.1 ∧ σ'.2.1 ≤ σ.2.1 + 200 ∧ σ'.2.2 ≤ σ.2.2 + 2000) ∧ ∀ (d : Nat) (Q : mb_O → mb_S → Prop), 12 ≤ d → mb_Rn d 90 p (ll_L x a0 sA bA fA vA dA nt lk tn t y dd a sc l16 l17 l18 l19) [] σ Q = mb_Rn d 90 1268 (ll_L x a0 sA bA fA vA dA nt' lk' tn t y dd a sc m16 m17 m18 m19) [] σ' Q
theorem ll_go {p p' : Nat} (h : ll_T Fo x a0 n sA bA fA vA dA g p' σ nt lk tn t y dd a sc l16 l17 l18 l19) (hw : ∀ (d : Nat) (Q : mb_O → mb_S → Prop), 12 ≤ d → mb_Rn d 90 p (ll_L x a0 sA bA fA vA dA nt lk tn t y dd a sc l16 l17 l18 l19) [] σ Q = mb_Rn d 90 p' (ll_L x a0 sA bA fA vA dA nt lk tn t y dd a sc l16 l17 l18 l19) [] σ Q) : ll_T Fo x a0 n sA bA fA vA dA g p σ nt lk tn t y dd a sc l16 l17 l18 l19 := by
  obtain ⟨σ', S', ad', gs', gb', gf', gv', gd', nt', lk', m16, m17, m18, m19, h1, h2, h3⟩ := h
  exact ⟨σ', S', ad', gs', gb', gf', gv', gd', nt', lk', m16, m17, m18, m19, h1, h2, fun d Q hd => (hw d Q hd).trans (h3 d Q hd)⟩
/-- no array of the law's is written -/
theorem ll_mk {nt' lk' : Int} (hA : ll_Ad Fo a0 sA bA fA vA dA) (hS : ll_S Fo x a0 n sA bA fA vA dA σ S ad g gs gb gf gv gd t nt lk) (hR : rz_R σ1 S1 ad1 Fo) (had : ad1 0 0 = ad 0 0) (hF : ∀ q, Fo q → σ1.1 q = σ.1 q) (hIn : rz_In S1) (hI : lq_I S1) (hT : lq_T S1 gs gb) (e2 : ∀ c : Int, 0 ≤ c → c < 2 → S1 2 c = S 2 c) (e3 : ∀ c : Int, 0 ≤ c → c < 2 → S1 3 c = S 3 c) (e10 : ∀ c : Int, 0 ≤ c → c < 2 → S1 10 c = S 10 c) (hn : nt' = S1 21 0) (k0 : 0 ≤ lk') (k1 : lk' ≤ 30) (h16 : ∀ i, S1 16 i ≤ 2 * (t + 1)) (h20 : 0 ≤ S1 20 0) (h21 : S1 20 0 ≤ 100 * (t + 1)) (ht : 2 ≤ t) : ll_S Fo x a0 n sA bA fA vA dA σ1 S1 ad1 g gs gb gf gv gd (t + 1) nt' lk' := by
  obtain ⟨⟨r1, r2, r3, r4⟩, ⟨s1, ⟨n1, n2, n3⟩, s3⟩, t1, u1⟩ := hS
  refine ⟨⟨hR, had.trans r2, hIn, hI⟩, ⟨ll_Ck hA s1 hF, ⟨fun c j0 j1 => by rw [e10 c j0 j1]; exact n1 c j0 j1, fun c j0 j1 => by rw [e2 c j0 j1]; exact n2 c j0 j1, fun c j0 j1 => by rw [e3 c j0 j1]; exact n3 c j0 j1⟩, hT⟩, ⟨hn, k0, k1, h16, h20, h21⟩, fun c j0 j1 => ?_⟩
  have u := u1 c j0 j1
  rw [e3 c j0 j1]
  exact ⟨fun _ => u.1 (by omega), fun h => by omega⟩
set_option maxHeartbeats 1000000 in
theorem lt_bone (hA : ll_Ad Fo a0 sA bA fA vA dA) (hS : ll_S Fo x a0 n sA bA fA vA dA σ S ad g gs gb gf gv gd t nt lk) (y0 : 0 ≤ y) (y1 : y ≤ 134217727) (d0 : 0 ≤ dd) (d1 : dd ≤ 31) (b0 : 0 ≤ a) (b1 : a < 2) (c0 : 0 ≤ sc) (c1 : sc < 2) (t0 : 0 ≤ t) (t1 : t ≤ 250) (hat : t < 2 → a = t) (h1 : dd < 3) (h2 : S 3 a < 3) : ll_T Fo x a0 n sA bA fA vA dA g 198 σ nt lk tn t y dd a sc l16 l17 l18 l19 := by
  obtain ⟨⟨hR, hx0, hIn, hI⟩, ⟨hC, hN, hT⟩, ⟨hnt, k0, k1, h16, h20, h21⟩, u1⟩ := id hS
  subst hx0
  obtain ⟨hW, hV, hP, hJ⟩ := id hIn
  obtain ⟨⟨i1, i9⟩, i3, iv, i10, ik, i15, i15b, i22⟩ := id hI
  obtain ⟨z0, hx⟩ := ll_x hR
  have w2 := pw_2 hW a
  have w3 := pw_3 hW a
  have w21 := pw_21 hW 0
  have q3 := i3 a b0 b1
  have q10 := i10 sc c0 c1
  have u := u1 a b0 b1
  obtain ⟨ca0, cs, cb, cf, cv, cd⟩ := id hC
  obtain ⟨n10, n2, n3⟩ := id hN
  obtain ⟨j, j0, j1, ej⟩ := lb_r (a := y / 4) (n := S 3 a + 1) (by omega) (by omega) (by omega) (by omega)
  obtain ⟨σ1, ad1, a1, a2, a3, a4⟩ := fc_bone (a := a) (p := j - 1) hW hR (by omega) (by omega) (by omega) (by omega) hJ ⟨b0, by omega⟩ (by omega) (by omega)
  have hC1 := ll_Ck hA hC a3.1
  have e3 : ∀ c, pz_su (pz_su S 4 (10 * a + S 3 a) (j - 1)) 3 a (S 3 a + 1) 3 c = if c = a then S 3 a + 1 else S 3 c := fun c => by rw [pz_su_i, pz_su_t (by decide)]
  have tt : ∀ k : Nat, k ≠ 3 → k ≠ 4 → pz_su (pz_su S 4 (10 * a + S 3 a) (j - 1)) 3 a (S 3 a + 1) k = S k := fun k h1 h2 => (pz_su_t h1).trans (pz_su_t h2)
  refine ⟨mb_up σ1 dA (.inl (0, 2, .inl (upd gd (iI a).toNatClampNeg (iI (S 3 a + 1))))), _, ad1, gs, gb, gf, gv, upd gd (iI a).toNatClampNeg (iI (S 3 a + 1)), nt, lk, l16, l17, l18, l19, ⟨⟨ll_Ru a2 hA.1.2.2.2.2.2, a1, rz_In_bone hIn ⟨b0, by omega⟩ (by omega) (by omega), lq_I_bone hI b0 b1 h2⟩, ⟨ll_Cd hA hC1, ⟨fun c j0 j1 => by rw [tt 10 (by decide) (by decide)]; exact n10 c j0 j1, fun c j0 j1 => by rw [tt 2 (by decide) (by decide)]; exact n2 c j0 j1, fun c j0 j1 => ?_⟩, ?_⟩, ⟨by rw [tt 21 (by decide) (by decide)]; exact hnt, k0, k1, fun i => by rw [tt 16 (by decide) (by decide)]; have := h16 i; omega, by rw [tt 20 (by decide) (by decide)]; exact h20, by rw [tt 20 (by decide) (by decide)]; omega⟩, fun c j0 j1 => ?_⟩, ⟨a3.2.1, Nat.le_trans a3.2.2.1 (by omega), Nat.le_trans a3.2.2.2 (by omega)⟩, fun d Q hd => ?_⟩
  · rw [ll_u b0 (by omega) j0 (by omega), e3]
    by_cases c2 : c = a
    · rw [if_pos c2, if_pos c2]
    · rw [if_neg c2, if_neg c2]; exact n3 c j0 j1
  · exact lq_T_dr hW hT (fun k => by rw [tt 2 (by decide) (by decide)]) (fun k hk => by rw [e3, if_neg (by omega)]) (fun k hk => ⟨by rw [pz_su_t (by decide), pz_su_i, if_neg (by omega)], by rw [tt 5 (by decide) (by decide)]⟩) (fun k hk => ⟨by rw [tt 6 (by decide) (by decide)], by rw [tt 7 (by decide) (by decide)], by rw [tt 8 (by decide) (by decide)]⟩)
  · have uc := u1 c j0 j1
    rw [e3]
    by_cases c2 : c = a
    · rw [if_pos c2]
      exact ⟨fun _ => by omega, fun h => by have := hat (by omega); omega⟩
    · rw [if_neg c2]
      exact ⟨fun h => uc.1 (by by_cases c3 : c = t; · have := hat (by omega); omega
                               · omega), fun h => uc.2 (by omega)⟩
  · exact la_bone hd y0 y1 d0 d1 b0 b1 c0 c1 h1 w3.1 h2 cd hC1.2.2.2.2.2 (n3 a b0 b1) ej (lk_ask (fun d Q hd => lk_bone hx a4 d Q hd))
set_option maxHeartbeats 1000000 in
theorem lt_key (hA : ll_Ad Fo a0 sA bA fA vA dA) (hS : ll_S Fo x a0 n sA bA fA vA dA σ S ad g gs gb gf gv gd t nt lk) (y0 : 0 ≤ y) (y1 : y ≤ 134217727) (d0 : 0 ≤ dd) (d1 : dd ≤ 31) (b0 : 0 ≤ a) (b1 : a < 2) (c0 : 0 ≤ sc) (c1 : sc < 2) (t0 : 0 ≤ t) (t1 : t ≤ 250) (ht : 2 ≤ t) (h1 : dd < 11) : ll_T Fo x a0 n sA bA fA vA dA g 264 σ nt lk tn t y dd a sc l16 l17 l18 l19 := by
  obtain ⟨⟨hR, hx0, hIn, hI⟩, ⟨hC, hN, hT⟩, ⟨hnt, k0, k1, h16, h20, h21⟩, u1⟩ := id hS
  subst hx0
  obtain ⟨hW, hV, hP, hJ⟩ := id hIn
  obtain ⟨⟨i1, i9⟩, i3, iv, i10, ik, i15, i15b, i22⟩ := id hI
  obtain ⟨z0, hx⟩ := ll_x hR
  have w2 := pw_2 hW a
  have w3 := pw_3 hW a
  have w21 := pw_21 hW 0
  have q3 := i3 a b0 b1
  have q10 := i10 sc c0 c1
  have u := u1 a b0 b1
  obtain ⟨ca0, cs, cb, cf, cv, cd⟩ := id hC
  obtain ⟨n10, n2, n3⟩ := id hN
  have hD := u.1 (by omega)
  have hg : pz_rg a (-1) = a := if_pos rfl
  obtain ⟨j, j0, j1, ej⟩ := lb_r (a := y / 4) (n := S 3 a) (by omega) (by omega) (by omega) (by omega)
  obtain ⟨f, f0, f1, ef⟩ := lb_r (a := y / 32) (n := 12) (by omega) (by omega) (by omega) (by omega)
  obtain ⟨v, v0, v1, ev⟩ := lb_r (a := y / 512) (n := 1999) (by omega) (by omega) (by omega) (by omega)
  obtain ⟨w, o0, o1, ew⟩ := lb_r (a := y / 16) (n := 3) (by omega) (by omega) (by omega) (by omega)
  have cB : pz_isB S a (-1) j := ⟨⟨⟨b0, by omega⟩, by omega, by omega⟩, j0, by rw [hg]; omega⟩
  have c2 : pz_are f (v - 999) w := ⟨⟨f0, by omega⟩, ⟨by omega, by omega⟩, o0, by omega⟩
  have w5 := pw_5 hW (10 * a + j)
  have c3 : ¬ (S 5 (10 * a + j) = 12 ∧ ¬ pz_iK S (10 * a + j) f) := fun h => h.2 (lq_full hW hV (by omega) (by omega) h.1 (ik _ (by omega) (by omega)) f0 f1)
  have h12 : S 5 (10 * a + j) < 12 ∨ pz_iK S (10 * a + j) f := by
    by_cases c : pz_iK S (10 * a + j) f
    · exact Or.inr c
    · exact Or.inl (by have : ¬ S 5 (10 * a + j) = 12 := fun k => c3 ⟨k, c⟩; omega)
  obtain ⟨σ1, a2, a3, a4⟩ := fc_key (a := a) (b := j) (f := f) (v := v - 999) (w := w) hW hR (by omega) (by omega) (by omega) (by omega) (by omega) (by omega) (by omega) (by omega) (by omega) (by omega) cB c2 c3
  obtain ⟨z1, hx1⟩ := ll_x a2
  have hIn1 := rz_In_put hIn cB c2 c3
  have tt : ∀ k, k ∉ [5, 6, 7, 8] → pz_put S (10 * a + j) f (v - 999) w k = S k := fun k hk => pz_put_t (fun e => hk (by rw [e]; decide)) (fun e => hk (by rw [e]; decide)) (fun e => hk (by rw [e]; decide)) (fun e => hk (by rw [e]; decide))
  have cB1 : pz_isB (pz_put S (10 * a + j) f (v - 999) w) a (-1) j := by
    unfold pz_isB pz_isR
    rw [tt 1 (by decide), tt 2 (by decide), tt 3 (by decide)]
    exact cB
  have r : 1 ≤ (if pz_iK S (10 * a + j) f then S 5 (10 * a + j) else S 5 (10 * a + j) + 1) ∧ (if pz_iK S (10 * a + j) f then S 5 (10 * a + j) else S 5 (10 * a + j) + 1) ≤ 12 := by
    by_cases c : pz_iK S (10 * a + j) f
    · rw [if_pos c]
      have := pz_kA_r hW (10 * a + j) f
      have := c.1
      omega
    · rw [if_neg c]
      have := h12.resolve_right c
      omega
  refine ⟨σ1, _, ad, gs, gb, gf, gv, gd, nt, lk, some (.int (iI (j))), some (.int (iI (f))), some (.int (iI (v - 999))), some (.int (iI (if pz_iK S (10 * a + j) f then S 5 (10 * a + j) else S 5 (10 * a + j) + 1))), ll_mk hA hS a2 rfl a3.1 hIn1 (lq_I_B hI (by omega) hW tt (fun k hk => pz_put_5 hk) (fun k hk => (pz_put_o hW h12 hk).1) (lq_put hW (ik _ (by omega) (by omega)) f1 h12)) (lq_T_dr hW hT (fun k => by rw [tt 2 (by decide)]) (fun k _ => by rw [tt 3 (by decide)]) (fun k hk => ⟨by rw [tt 4 (by decide)], pz_put_5 (by omega)⟩) (fun k hk => pz_put_o hW h12 (by omega))) (fun c _ _ => by rw [tt 2 (by decide)]) (fun c _ _ => by rw [tt 3 (by decide)]) (fun c _ _ => by rw [tt 10 (by decide)]) (by rw [tt 21 (by decide)]; exact hnt) k0 k1 (fun i => by rw [tt 16 (by decide)]; have := h16 i; omega) (by rw [tt 20 (by decide)]; exact h20) (by rw [tt 20 (by decide)]; omega) ht, ⟨a3.2.1, Nat.le_trans a3.2.2.1 (by omega), Nat.le_trans a3.2.2.2 (by omega)⟩, fun d Q hd => ?_⟩
  exact la_key hd y0 y1 d0 d1 b0 b1 c0 c1 h1 hD w3.2 cd hx1 (n3 a b0 b1) ej ef ev ew (lk_ask (fun d Q hd => lk_key hx a4 d Q hd)) r.1 r.2 (fun d Q hd => lr_po a2 hIn1 cB1 f0 (by omega) d Q hd) (fun d Q hd => lr_pa a2 hIn1 cB1 f0 (by omega) d Q hd)
set_option maxHeartbeats 1000000 in
theorem lt_unkey (hA : ll_Ad Fo a0 sA bA fA vA dA) (hS : ll_S Fo x a0 n sA bA fA vA dA σ S ad g gs gb gf gv gd t nt lk) (y0 : 0 ≤ y) (y1 : y ≤ 134217727) (d0 : 0 ≤ dd) (d1 : dd ≤ 31) (b0 : 0 ≤ a) (b1 : a < 2) (c0 : 0 ≤ sc) (c1 : sc < 2) (t0 : 0 ≤ t) (t1 : t ≤ 250) (ht : 2 ≤ t) (h1 : dd < 13) : ll_T Fo x a0 n sA bA fA vA dA g 375 σ nt lk tn t y dd a sc l16 l17 l18 l19 := by
  obtain ⟨⟨hR, hx0, hIn, hI⟩, ⟨hC, hN, hT⟩, ⟨hnt, k0, k1, h16, h20, h21⟩, u1⟩ := id hS
  subst hx0
  obtain ⟨hW, hV, hP, hJ⟩ := id hIn
  obtain ⟨⟨i1, i9⟩, i3, iv, i10, ik, i15, i15b, i22⟩ := id hI
  obtain ⟨z0, hx⟩ := ll_x hR
  have w2 := pw_2 hW a
  have w3 := pw_3 hW a
  have w21 := pw_21 hW 0
  have q3 := i3 a b0 b1
  have q10 := i10 sc c0 c1
  have u := u1 a b0 b1
  obtain ⟨ca0, cs, cb, cf, cv, cd⟩ := id hC
  obtain ⟨n10, n2, n3⟩ := id hN
  have hD := u.1 (by omega)
  have hg : pz_rg a (-1) = a := if_pos rfl
  obtain ⟨j, j0, j1, ej⟩ := lb_r (a := y / 4) (n := S 3 a) (by omega) (by omega) (by omega) (by omega)
  obtain ⟨f, f0, f1, ef⟩ := lb_r (a := y / 32) (n := 12) (by omega) (by omega) (by omega) (by omega)
  have cB : pz_isB S a (-1) j := ⟨⟨⟨b0, by omega⟩, by omega, by omega⟩, j0, by rw [hg]; omega⟩
  by_cases c3 : pz_iK S (10 * a + j) f
  · obtain ⟨σ1, a2, a3, a4⟩ := fc_unkey (a := a) (b := j) (f := f) hW hR (by omega) (by omega) (by omega) (by omega) (by omega) (by omega) cB ⟨f0, by omega⟩ c3
    have a2 : rz_R σ1 (rz_tk S (10 * a + j) f) ad Fo := a2
    obtain ⟨z1, hx1⟩ := ll_x a2
    have hIn1 := rz_In_tk hIn cB c3
    have hk := c3.1
    have tt : ∀ k, k ∉ [5, 6, 7, 8] → rz_tk S (10 * a + j) f k = S k := fun k hk => rz_tk_t (fun e => hk (by rw [e]; decide)) (fun e => hk (by rw [e]; decide)) (fun e => hk (by rw [e]; decide)) (fun e => hk (by rw [e]; decide))
    have cB1 : pz_isB (rz_tk S (10 * a + j) f) a (-1) j := by
      unfold pz_isB pz_isR
      rw [tt 1 (by decide), tt 2 (by decide), tt 3 (by decide)]
      exact cB
    have hC1 := ll_Ck hA hC a3.1
    have a5 := fc_unkey3 (a := a) (b := j) (f := f) hIn1.1 a2 (by omega) (by omega) (by omega) (by omega) (by omega) (by omega) cB1 ⟨f0, by omega⟩ (lq_gone hW hV (by omega) (by omega) c3)
    refine ⟨σ1, rz_tk S (10 * a + j) f, ad, gs, gb, gf, gv, gd, nt, lk, some (.int (iI (1))), l17, l18, l19, ll_mk hA hS a2 rfl a3.1 hIn1 (lq_I_B hI (by omega) hW tt (fun k hk => by rw [rz_tk_5, if_neg hk]) (fun k hk2 => (rz_tk_o hW hk hk2).1) (lq_tk hW (ik _ (by omega) (by omega)) hk)) (lq_T_dr hW hT (fun k => by rw [tt 2 (by decide)]) (fun k _ => by rw [tt 3 (by decide)]) (fun k hk => ⟨by rw [tt 4 (by decide)], by rw [rz_tk_5, if_neg (by omega)]⟩) (fun k hk2 => rz_tk_o hW hk (by omega))) (fun c _ _ => by rw [tt 2 (by decide)]) (fun c _ _ => by rw [tt 3 (by decide)]) (fun c _ _ => by rw [tt 10 (by decide)]) (by rw [tt 21 (by decide)]; exact hnt) k0 k1 (fun i => by rw [tt 16 (by decide)]; have := h16 i; omega) (by rw [tt 20 (by decide)]; exact h20) (by rw [tt 20 (by decide)]; omega) ht, ⟨a3.2.1, Nat.le_trans a3.2.2.1 (by omega), Nat.le_trans a3.2.2.2 (by omega)⟩, fun d Q hd => ?_⟩
    exact la_unkey hd y0 y1 d0 d1 b0 b1 c0 c1 h1 hD w3.2 cd hC1.2.2.2.2.2 (n3 a b0 b1) ej ef (lk_ask (fun d Q hd => lk_unkey hx a4 (Or.inr rfl) d Q hd)) (Or.inr rfl) (lk_ask (fun d Q hd => lk_unkey hx1 a5 (Or.inl rfl) d Q hd))
  · have a5 := fc_unkey3 (a := a) (b := j) (f := f) hW hR (by omega) (by omega) (by omega) (by omega) (by omega) (by omega) cB ⟨f0, by omega⟩ c3
    refine ⟨σ, S, ad, gs, gb, gf, gv, gd, nt, lk, some (.int (iI (0))), l17, l18, l19, ll_mk hA hS hR rfl (fun _ _ => rfl) hIn hI hT (fun _ _ _ => rfl) (fun _ _ _ => rfl) (fun _ _ _ => rfl) hnt k0 k1 (fun i => by have := h16 i; omega) h20 (by omega) ht, ⟨Nat.le_refl _, by omega, by omega⟩, fun d Q hd => ?_⟩
    exact la_unkey hd y0 y1 d0 d1 b0 b1 c0 c1 h1 hD w3.2 cd cd (n3 a b0 b1) ej ef (lk_ask (fun d Q hd => lk_unkey hx a5 (Or.inl rfl) d Q hd)) (Or.inl rfl) (lk_ask (fun d Q hd => lk_unkey hx a5 (Or.inl rfl) d Q hd))
set_option maxHeartbeats 1000000 in
theorem lt_publish (hA : ll_Ad Fo a0 sA bA fA vA dA) (hS : ll_S Fo x a0 n sA bA fA vA dA σ S ad g gs gb gf gv gd t nt lk) (y0 : 0 ≤ y) (y1 : y ≤ 134217727) (d0 : 0 ≤ dd) (d1 : dd ≤ 31) (b0 : 0 ≤ a) (b1 : a < 2) (c0 : 0 ≤ sc) (c1 : sc < 2) (t0 : 0 ≤ t) (t1 : t ≤ 250) (ht : 2 ≤ t) (h1 : dd < 16) (h2 : S 2 a < 12) : ll_T Fo x a0 n sA bA fA vA dA g 460 σ nt lk tn t y dd a sc l16 l17 l18 l19 := by
  obtain ⟨⟨hR, hx0, hIn, hI⟩, ⟨hC, hN, hT⟩, ⟨hnt, k0, k1, h16, h20, h21⟩, u1⟩ := id hS
  subst hx0
  obtain ⟨hW, hV, hP, hJ⟩ := id hIn
  obtain ⟨⟨i1, i9⟩, i3, iv, i10, ik, i15, i15b, i22⟩ := id hI
  obtain ⟨z0, hx⟩ := ll_x hR
  have w2 := pw_2 hW a
  have w3 := pw_3 hW a
  have w21 := pw_21 hW 0
  have q3 := i3 a b0 b1
  have q10 := i10 sc c0 c1
  have u := u1 a b0 b1
  obtain ⟨ca0, cs, cb, cf, cv, cd⟩ := id hC
  obtain ⟨n10, n2, n3⟩ := id hN
  have hD := u.1 (by omega)
  have hg : pz_rg a (-1) = a := if_pos rfl
  obtain ⟨σ1, ad1, a1, a2, a3, a4⟩ := fc_publish (a := a) hW hR (by omega) (by omega) hV hJ ⟨b0, by omega⟩ (by omega)
  have hIn1 := rz_In_pub hIn (a := a) ⟨b0, by omega⟩ (by omega)
  have hC1 := ll_Ck hA hC a3.1
  have hC2 := ll_Cb (gz := upd gb (iI (12 * a + S 2 a)).toNatClampNeg (iI (S 3 a))) hA hC1
  obtain ⟨σ2, e2⟩ : ∃ σ2 : mb_S, mb_up σ1 bA (.inl (0, 24, .inl (upd gb (iI (12 * a + S 2 a)).toNatClampNeg (iI (S 3 a))))) = σ2 := ⟨_, rfl⟩
  have r2 : rz_R σ2 (pz_pub S a) ad1 Fo := by rw [← e2]; exact ll_Ru a2 hA.1.2.2.1
  rw [e2] at hC2
  have p3 : pz_pub S a 3 a = S 3 a := by rw [rz_pub_3, if_neg (by omega)]
  have p1 : pz_pub S a 1 = S 1 := rz_pub_t (by decide) (by decide) (by decide) (by decide) (by decide) (by decide) (by decide)
  have tt : ∀ k ∈ [10, 16, 20, 21], pz_pub S a k = S k := fun k hk => rz_pub_t (fun e => by rw [e] at hk; exact absurd hk (by decide)) (fun e => by rw [e] at hk; exact absurd hk (by decide)) (fun e => by rw [e] at hk; exact absurd hk (by decide)) (fun e => by rw [e] at hk; exact absurd hk (by decide)) (fun e => by rw [e] at hk; exact absurd hk (by decide)) (fun e => by rw [e] at hk; exact absurd hk (by decide)) (fun e => by rw [e] at hk; exact absurd hk (by decide))
  have hP1 := fun (d : Nat) (Q : mb_O → mb_S → Prop) (hd : 10 ≤ d) => lr_poses (a := a) (v := -1) r2 hIn1 ⟨⟨b0, by rw [p1]; omega⟩, by omega, by have := pw_2 hIn1.1 a; omega⟩ d Q hd
  rw [hg, p3, a1] at hP1
  have ei := pz_nat (x := 12 * a + S 2 a) (by omega) (by omega)
  have hTp := lq_T_pub hW hV hJ hT b0 b1 h2
  rw [← ei] at hTp
  refine ⟨mb_up (mb_up σ2 sA (.inl (0, 24, .inl (upd gs (iI (12 * a + S 2 a)).toNatClampNeg (iI (lq_hs (pz_pub S a) a (S 3 a).toNat 0 17)))))) vA (.inl (0, 2, .inl (upd gv (iI a).toNatClampNeg (iI (S 2 a + 1))))), pz_pub S a, ad1, _, _, gf, _, gd, nt, lk, l16, l17, l18, l19, ⟨⟨ll_Ru (ll_Ru r2 hA.1.2.1) hA.1.2.2.2.2.1, a1, hIn1, lq_I_pub hW hI b0 b1 h2⟩, ⟨ll_Cv hA (ll_Cs hA hC2), ⟨fun c j0 j1 => by rw [tt 10 (by decide)]; exact n10 c j0 j1, fun c j0 j1 => ?_, fun c j0 j1 => ?_⟩, hTp⟩, ⟨by rw [tt 21 (by decide)]; exact hnt, k0, k1, fun i => by rw [tt 16 (by decide)]; have := h16 i; omega, by rw [tt 20 (by decide)]; exact h20, by rw [tt 20 (by decide)]; omega⟩, fun c j0 j1 => ?_⟩, ?_, fun d Q hd => ?_⟩
  · rw [ll_u b0 (by omega) j0 (by omega), rz_pub_2]
    by_cases c2 : c = a
    · rw [if_pos c2, if_pos c2]
    · rw [if_neg c2, if_neg c2]; exact n2 c j0 j1
  · rw [rz_pub_3, if_neg (by omega)]; exact n3 c j0 j1
  · have uc := u1 c j0 j1
    rw [rz_pub_3, if_neg (by omega)]
    exact ⟨fun _ => uc.1 (by omega), fun h => by omega⟩
  · rw [← e2]
    exact ⟨a3.2.1, Nat.le_trans a3.2.2.1 (by omega), Nat.le_trans a3.2.2.2 (by omega)⟩
  · exact la_publish hd y0 y1 d0 d1 b0 b1 c0 c1 h1 w2.1 h2 cv hC1.2.2.2.2.1 hC1.2.2.2.2.2 hC1.2.2.1 e2 hC2.2.2.2.2.1 hC2.2.2.2.2.2 hC2.2.1 (fun e => hA.2.2.1.2.2.1 e.symm) (n3 a b0 b1) (n2 a b0 b1) (lk_ask (fun d Q hd => lk_publish hx a4 d Q hd)) hP1
set_option maxHeartbeats 1000000 in
theorem lt_cast (hA : ll_Ad Fo a0 sA bA fA vA dA) (hS : ll_S Fo x a0 n sA bA fA vA dA σ S ad g gs gb gf gv gd t nt lk) (y0 : 0 ≤ y) (y1 : y ≤ 134217727) (d0 : 0 ≤ dd) (d1 : dd ≤ 31) (b0 : 0 ≤ a) (b1 : a < 2) (c0 : 0 ≤ sc) (c1 : sc < 2) (t0 : 0 ≤ t) (t1 : t ≤ 250) (ht : 2 ≤ t) (h1 : dd < 19) : ll_T Fo x a0 n sA bA fA vA dA g 558 σ nt lk tn t y dd a sc l16 l17 l18 l19 := by
  obtain ⟨⟨hR, hx0, hIn, hI⟩, ⟨hC, hN, hT⟩, ⟨hnt, k0, k1, h16, h20, h21⟩, u1⟩ := id hS
  subst hx0
  obtain ⟨hW, hV, hP, hJ⟩ := id hIn
  obtain ⟨⟨i1, i9⟩, i3, iv, i10, ik, i15, i15b, i22⟩ := id hI
  obtain ⟨z0, hx⟩ := ll_x hR
  have w2 := pw_2 hW a
  have w3 := pw_3 hW a
  have w21 := pw_21 hW 0
  have q3 := i3 a b0 b1
  have q10 := i10 sc c0 c1
  have u := u1 a b0 b1
  obtain ⟨ca0, cs, cb, cf, cv, cd⟩ := id hC
  obtain ⟨n10, n2, n3⟩ := id hN
  obtain ⟨j, j0, j1, ej⟩ := lb_r (a := y / 4) (n := S 2 a + 1) (by omega) (by omega) (by omega) (by omega)
  obtain ⟨f, f0, f1, ef⟩ := lb_r (a := y / 64) (n := 6) (by omega) (by omega) (by omega) (by omega)
  obtain ⟨e, e0, e1, ee⟩ := lb_r (a := y / 512) (n := 8) (by omega) (by omega) (by omega) (by omega)
  have cc : (0 ≤ sc ∧ sc ≤ S 9 0 - 1) ∧ pz_isR S a (j - 1) := ⟨⟨c0, by omega⟩, ⟨b0, by omega⟩, by omega, by omega⟩
  have c2 : (0 ≤ f ∧ f ≤ 39) ∧ f ≤ f + e ∧ f + e ≤ 39 := ⟨⟨f0, by omega⟩, by omega, by omega⟩
  obtain ⟨σ1, ad1, a1, a2, a3, a4⟩ := fc_cast (s := sc) (a := a) (v := j - 1) (f := f) (g := f + e) hW hR (by omega) (by omega) (by omega) (by omega) (by omega) (by omega) (by omega) (by omega) (by omega) (by omega) hP cc c2
  have tt : ∀ k, k ∉ [11, 12, 13, 14] → pz_cst S (8 * sc + a) (j - 1) f (f + e) k = S k := fun k hk => ll_cst (fun e => hk (by rw [e]; decide)) (fun e => hk (by rw [e]; decide)) (fun e => hk (by rw [e]; decide)) (fun e => hk (by rw [e]; decide))
  refine ⟨σ1, _, ad1, gs, gb, gf, gv, gd, nt, lk, some (.int (iI (j - 1))), some (.int (iI (f))), some (.int (iI (pz_sm (fun b => pz_ca (pz_cst S (8 * sc + a) (j - 1) f (f + e)) b sc) 0 (S 1 0).toNat))), l19, ll_mk hA hS a2 a1 a3.1 (rz_In_cast hIn cc c2) (lq_I_t (fun k hk => tt k (fun h => by revert hk h; simp; omega)) hI) (lq_T_t hW hT (fun k hk => tt k (fun h => by revert hk h; simp; omega))) (fun c _ _ => by rw [tt 2 (by decide)]) (fun c _ _ => by rw [tt 3 (by decide)]) (fun c _ _ => by rw [tt 10 (by decide)]) (by rw [tt 21 (by decide)]; exact hnt) k0 k1 (fun i => by rw [tt 16 (by decide)]; have := h16 i; omega) (by rw [tt 20 (by decide)]; exact h20) (by rw [tt 20 (by decide)]; omega) ht, ⟨a3.2.1, Nat.le_trans a3.2.2.1 (by omega), Nat.le_trans a3.2.2.2 (by omega)⟩, fun d Q hd => ?_⟩
  exact la_cast hd y0 y1 d0 d1 b0 b1 c0 c1 h1 w2.1 w2.2 cv (n2 a b0 b1) ej ef ee (lk_ask (fun d Q hd => lk_cast hx a4 d Q hd)) (lq_cast hW hI b0 b1)
set_option maxHeartbeats 1000000 in
theorem lt_cut (hA : ll_Ad Fo a0 sA bA fA vA dA) (hS : ll_S Fo x a0 n sA bA fA vA dA σ S ad g gs gb gf gv gd t nt lk) (y0 : 0 ≤ y) (y1 : y ≤ 134217727) (d0 : 0 ≤ dd) (d1 : dd ≤ 31) (b0 : 0 ≤ a) (b1 : a < 2) (c0 : 0 ≤ sc) (c1 : sc < 2) (t0 : 0 ≤ t) (t1 : t ≤ 250) (ht : 2 ≤ t) (h1 : dd = 19) : ll_T Fo x a0 n sA bA fA vA dA g 639 σ nt lk tn t y dd a sc l16 l17 l18 l19 := by
  obtain ⟨⟨hR, hx0, hIn, hI⟩, ⟨hC, hN, hT⟩, ⟨hnt, k0, k1, h16, h20, h21⟩, u1⟩ := id hS
  subst hx0
  obtain ⟨hW, hV, hP, hJ⟩ := id hIn
  obtain ⟨⟨i1, i9⟩, i3, iv, i10, ik, i15, i15b, i22⟩ := id hI
  obtain ⟨z0, hx⟩ := ll_x hR
  have w2 := pw_2 hW a
  have w3 := pw_3 hW a
  have w21 := pw_21 hW 0
  have q3 := i3 a b0 b1
  have q10 := i10 sc c0 c1
  have u := u1 a b0 b1
  obtain ⟨ca0, cs, cb, cf, cv, cd⟩ := id hC
  obtain ⟨n10, n2, n3⟩ := id hN
  obtain ⟨j, j0, j1, ej⟩ := lb_r (a := y / 4) (n := S 10 sc) (by omega) (by omega) (by omega) (by omega)
  obtain ⟨k, e0, e1, ek⟩ := lb_r (a := y / 32) (n := 2) (by omega) (by omega) (by omega) (by omega)
  have cF : pz_isF S sc j := ⟨⟨c0, by omega⟩, j0, by omega⟩
  by_cases can : 1 + k ≤ S 10 sc - j ∧ 1 + k < S 10 sc
  · obtain ⟨σ1, ad1, a1, a2, a3, a4⟩ := fc_cut (s := sc) (g := j) (k := 1 + k) hW hR (by omega) (by omega) (by omega) (by omega) (by omega) (by omega) cF (by omega) can
    have hC1 := ll_Ck hA hC a3.1
    have tt : ∀ q, q ∉ [10, 15, 16, 17, 18, 19, 23, 25] → pz_cut S sc j (1 + k) q = S q := fun q hq => by
      rw [rz_cut_e, rz_c2_t (fun e => hq (by rw [e]; decide)) (fun e => hq (by rw [e]; decide))]
      exact rz_ct_t (fun e => hq (by rw [e]; decide)) (fun e => hq (by rw [e]; decide)) (fun e => hq (by rw [e]; decide)) (fun e => hq (by rw [e]; decide)) (fun e => hq (by rw [e]; decide)) (fun e => hq (by rw [e]; decide))
    have e10 : ∀ q, pz_cut S sc j (1 + k) 10 q = if q = sc then S 10 sc - (1 + k) else S 10 q := fun q => by rw [rz_cut_e, rz_c2_t (by decide) (by decide), rz_ct_10]
    refine ⟨mb_up σ1 fA (.inl (0, 2, .inl (upd gf (iI sc).toNatClampNeg (iI (S 10 sc - (1 + k)))))), _, ad1, gs, gb, _, gv, gd, nt, lk, some (.int (iI (j))), some (.int (iI (1 + k))), some (.int (iI (S 10 sc - (1 + k)))), some (.int (iI (1))), ⟨⟨ll_Ru a2 hA.1.2.2.2.1, a1, rz_In_cut hIn cF (by omega) can, lq_I_cut hW hI c0 c1 j0 (by omega) can.1 can.2⟩, ⟨ll_Cf hA hC1, ⟨fun c j0 j1 => ?_, fun c j0 j1 => by rw [tt 2 (by decide)]; exact n2 c j0 j1, fun c j0 j1 => by rw [tt 3 (by decide)]; exact n3 c j0 j1⟩, lq_T_t hW hT (fun q hq => tt q (fun h => by revert hq h; simp; omega))⟩, ⟨by rw [tt 21 (by decide)]; exact hnt, k0, k1, fun i => ?_, by rw [tt 20 (by decide)]; exact h20, by rw [tt 20 (by decide)]; omega⟩, fun c j0 j1 => ?_⟩, ⟨a3.2.1, Nat.le_trans a3.2.2.1 (by omega), Nat.le_trans a3.2.2.2 (by omega)⟩, fun d Q hd => ?_⟩
    · rw [ll_u c0 (by omega) j0 (by omega), e10]
      by_cases c2 : c = sc
      · rw [if_pos c2, if_pos c2]
      · rw [if_neg c2, if_neg c2]; exact n10 c j0 j1
    · have := rz_ct_16u (S := S) (s := sc) (x := i) (k := 1 + k) (g := j) (by omega) (by omega) h16
      omega
    · have uc := u1 c j0 j1
      rw [tt 3 (by decide)]
      exact ⟨fun _ => uc.1 (by omega), fun h => by omega⟩
    · exact la_cut hd y0 y1 d0 d1 b0 b1 c0 c1 h1 q10.1 (by omega) cf hC1.2.2.2.1 (n10 sc c0 c1) ej j0 j1 ek e0 e1 can (lk_ask (fun d Q hd => lk_cut hx a4 d Q hd))
  · have a4 := fc_cut3 (s := sc) (g := j) (k := 1 + k) hW hR (by omega) (by omega) (by omega) (by omega) (by omega) (by omega) cF (by omega) can
    have r1 : rz_R (mb_th σ) S ad Fo := ll_Rs hR (fun _ _ => rfl) (Nat.le_succ _)
    have hC1 : ll_C (mb_th σ) a0 n sA bA fA vA dA g gs gb gf gv gd := hC
    refine ⟨mb_up (mb_th σ) fA (.inl (0, 2, .inl (upd gf (iI sc).toNatClampNeg (iI (S 10 sc - 0))))), S, ad, gs, gb, _, gv, gd, nt, lk, some (.int (iI (j))), some (.int (iI (1 + k))), some (.int (iI (-1000013))), some (.int (iI (0))), ⟨⟨ll_Ru r1 hA.1.2.2.2.1, rfl, hIn, hI⟩, ⟨ll_Cf hA hC1, ⟨fun c j0 j1 => ?_, n2, n3⟩, hT⟩, ⟨hnt, k0, k1, fun i => by have := h16 i; omega, h20, by omega⟩, fun c j0 j1 => ?_⟩, ⟨Nat.le_succ _, by show σ.2.1 + 1 ≤ _; omega, by show σ.2.2 + 6 ≤ _; omega⟩, fun d Q hd => ?_⟩
    · rw [ll_u c0 (by omega) j0 (by omega)]
      by_cases c2 : c = sc
      · rw [if_pos c2, c2, Int.sub_zero]
      · rw [if_neg c2]; exact n10 c j0 j1
    · have uc := u1 c j0 j1
      exact ⟨fun _ => uc.1 (by omega), fun h => by omega⟩
    · exact la_cutx hd y0 y1 d0 d1 b0 b1 c0 c1 h1 q10.1 (by omega) cf cf (n10 sc c0 c1) ej j0 j1 ek e0 e1 can (lk_ask_0 (fun d Q hd => lk_cut_x hx a4 d Q hd))
set_option maxHeartbeats 1000000 in
theorem lt_note (hA : ll_Ad Fo a0 sA bA fA vA dA) (hS : ll_S Fo x a0 n sA bA fA vA dA σ S ad g gs gb gf gv gd t nt lk) (y0 : 0 ≤ y) (y1 : y ≤ 134217727) (d0 : 0 ≤ dd) (d1 : dd ≤ 31) (b0 : 0 ≤ a) (b1 : a < 2) (c0 : 0 ≤ sc) (c1 : sc < 2) (t0 : 0 ≤ t) (t1 : t ≤ 250) (ht : 2 ≤ t) (h1 : dd < 22) (h2 : nt < 40) : ll_T Fo x a0 n sA bA fA vA dA g 765 σ nt lk tn t y dd a sc l16 l17 l18 l19 := by
  obtain ⟨⟨hR, hx0, hIn, hI⟩, ⟨hC, hN, hT⟩, ⟨hnt, k0, k1, h16, h20, h21⟩, u1⟩ := id hS
  subst hx0
  obtain ⟨hW, hV, hP, hJ⟩ := id hIn
  obtain ⟨⟨i1, i9⟩, i3, iv, i10, ik, i15, i15b, i22⟩ := id hI
  obtain ⟨z0, hx⟩ := ll_x hR
  have w2 := pw_2 hW a
  have w3 := pw_3 hW a
  have w21 := pw_21 hW 0
  have q3 := i3 a b0 b1
  have q10 := i10 sc c0 c1
  have u := u1 a b0 b1
  obtain ⟨ca0, cs, cb, cf, cv, cd⟩ := id hC
  obtain ⟨n10, n2, n3⟩ := id hN
  subst hnt
  obtain ⟨j, j0, j1, ej⟩ := lb_r (a := y / 4) (n := S 10 sc) (by omega) (by omega) (by omega) (by omega)
  have cF : pz_isF S sc j := ⟨⟨c0, by omega⟩, j0, by omega⟩
  obtain ⟨σ1, ad1, a1, a2, a3, a4⟩ := fc_note (s := sc) (f := j) hW hR (by omega) (by omega) (by omega) (by omega) hJ cF (by omega)
  have tt : ∀ q, q ∉ [21, 22, 23] → pz_su (pz_su (pz_su S 22 (S 21 0) sc) 23 (S 21 0) j) 21 0 (S 21 0 + 1) q = S q := fun q hq => (pz_su_t (fun e => hq (by rw [e]; decide))).trans ((pz_su_t (fun e => hq (by rw [e]; decide))).trans (pz_su_t (fun e => hq (by rw [e]; decide))))
  refine ⟨σ1, _, ad1, gs, gb, gf, gv, gd, S 21 0 + 1, lk, l16, l17, l18, l19, ll_mk hA hS a2 a1 a3.1 (rz_In_note hIn cF (by omega)) (lq_I_note hI c0 c1 j1) (lq_T_t hW hT (fun q hq => tt q (fun h => by revert hq h; simp; omega))) (fun c _ _ => by rw [tt 2 (by decide)]) (fun c _ _ => by rw [tt 3 (by decide)]) (fun c _ _ => by rw [tt 10 (by decide)]) (by rw [pz_su_e]) k0 k1 (fun i => by rw [tt 16 (by decide)]; have := h16 i; omega) (by rw [tt 20 (by decide)]; exact h20) (by rw [tt 20 (by decide)]; omega) ht, ⟨a3.2.1, Nat.le_trans a3.2.2.1 (by omega), Nat.le_trans a3.2.2.2 (by omega)⟩, fun d Q hd => ?_⟩
  exact la_note hd y0 y1 d0 d1 b0 b1 c0 c1 h1 w21.1 h2 q10.1 (by omega) cf (n10 sc c0 c1) ej (lk_ask (fun d Q hd => lk_note hx a4 d Q hd))
set_option maxHeartbeats 1000000 in
theorem lt_settle (hA : ll_Ad Fo a0 sA bA fA vA dA) (hS : ll_S Fo x a0 n sA bA fA vA dA σ S ad g gs gb gf gv gd t nt lk) (y0 : 0 ≤ y) (y1 : y ≤ 134217727) (d0 : 0 ≤ dd) (d1 : dd ≤ 31) (b0 : 0 ≤ a) (b1 : a < 2) (c0 : 0 ≤ sc) (c1 : sc < 2) (t0 : 0 ≤ t) (t1 : t ≤ 250) (ht : 2 ≤ t) (h1 : dd = 22) (h2 : 0 < nt) : ll_T Fo x a0 n sA bA fA vA dA g 818 σ nt lk tn t y dd a sc l16 l17 l18 l19 := by
  obtain ⟨⟨hR, hx0, hIn, hI⟩, ⟨hC, hN, hT⟩, ⟨hnt, k0, k1, h16, h20, h21⟩, u1⟩ := id hS
  subst hx0
  obtain ⟨hW, hV, hP, hJ⟩ := id hIn
  obtain ⟨⟨i1, i9⟩, i3, iv, i10, ik, i15, i15b, i22⟩ := id hI
  obtain ⟨z0, hx⟩ := ll_x hR
  have w2 := pw_2 hW a
  have w3 := pw_3 hW a
  have w21 := pw_21 hW 0
  have q3 := i3 a b0 b1
  have q10 := i10 sc c0 c1
  have u := u1 a b0 b1
  obtain ⟨ca0, cs, cb, cf, cv, cd⟩ := id hC
  obtain ⟨n10, n2, n3⟩ := id hN
  subst hnt
  obtain ⟨j, j0, j1, ej⟩ := lb_r (a := y / 4) (n := S 21 0) (by omega) (by omega) (by omega) (by omega)
  have us := lq_us_r (s := -1) (i := -1) hW
  have c6 : ∀ S : pz_S, pz_cn S 6 = pz_us S (-1) (-1) := fun S => (if_neg (by decide)).trans ((if_neg (by decide)).trans ((if_neg (by decide)).trans (if_pos rfl)))
  have hc := fun (d : Nat) (Q : mb_O → mb_S → Prop) (hd : 6 ≤ d) => lr_cn (w := 6) hR hIn (by omega) (by omega) d Q hd
  rw [c6] at hc
  by_cases c2 : S 24 j = 0
  · obtain ⟨σ1, ad1, a1, a2, a3, a4⟩ := fc_settle (n := j) hW hR (by omega) (by omega) ⟨j0, by omega⟩ c2
    have hIn1 := rz_In_settle hIn (n := j) ⟨j0, by omega⟩
    obtain ⟨z1, hx1⟩ := ll_x a2
    have tt : ∀ q, q ≠ 24 → pz_su S 24 j 1 q = S q := fun q hq => pz_su_t hq
    have s1 := lq_settle (s := S 22 j) hW j0 j1 c2
    have hc1 := fun (d : Nat) (Q : mb_O → mb_S → Prop) (hd : 6 ≤ d) => lr_cn (w := 6) a2 hIn1 (by omega) (by omega) d Q hd
    rw [c6, s1.1, a1] at hc1
    rw [a1] at hx1
    refine ⟨σ1, _, ad1, gs, gb, gf, gv, gd, S 21 0, lk, some (.int (iI (pz_us S (-1) (-1)))), some (.int (iI (pz_us (pz_su S 24 j 1) (S 22 j) (-1)))), l18, l19, ll_mk hA hS a2 a1 a3.1 hIn1 (lq_I_t (fun q hq => tt q (fun e => by rw [e] at hq; exact absurd hq (by decide))) hI) (lq_T_t hW hT (fun q hq => tt q (fun e => by rw [e] at hq; exact absurd hq (by decide)))) (fun c _ _ => by rw [tt 2 (by decide)]) (fun c _ _ => by rw [tt 3 (by decide)]) (fun c _ _ => by rw [tt 10 (by decide)]) (by rw [tt 21 (by decide)]) k0 k1 (fun i => by rw [tt 16 (by decide)]; have := h16 i; omega) (by rw [tt 20 (by decide)]; exact h20) (by rw [tt 20 (by decide)]; omega) ht, ⟨a3.2.1, Nat.le_trans a3.2.2.1 (by omega), Nat.le_trans a3.2.2.2 (by omega)⟩, fun d Q hd => ?_⟩
    exact la_settle hd y0 y1 d0 d1 b0 b1 c0 c1 h1 h2 w21.2 hx hx1 ej us.1 us.2 hc (lk_ask (fun d Q hd => lk_settle hx a4 d Q hd)) (lq_us_r hIn1.1).1 s1.2 hc1
  · have a4 := fc_settle2 (n := j) hW hR (by omega) (by omega) ⟨j0, by omega⟩ c2
    have r1 : rz_R (mb_th σ) S ad Fo := ll_Rs hR (fun _ _ => rfl) (Nat.le_succ _)
    have hc1 := fun (d : Nat) (Q : mb_O → mb_S → Prop) (hd : 6 ≤ d) => lr_cn (w := 6) r1 hIn (by omega) (by omega) d Q hd
    rw [c6] at hc1
    refine ⟨mb_th σ, S, ad, gs, gb, gf, gv, gd, S 21 0, lk, some (.int (iI (pz_us S (-1) (-1)))), some (.int (iI (-1000013))), l18, l19, ll_mk hA hS r1 rfl (fun _ _ => rfl) hIn hI hT (fun _ _ _ => rfl) (fun _ _ _ => rfl) (fun _ _ _ => rfl) rfl k0 k1 (fun i => by have := h16 i; omega) h20 (by omega) ht, ⟨Nat.le_succ _, by show σ.2.1 + 1 ≤ _; omega, by show σ.2.2 + 6 ≤ _; omega⟩, fun d Q hd => ?_⟩
    exact la_settlex hd y0 y1 d0 d1 b0 b1 c0 c1 h1 h2 w21.2 hx hx ej us.1 us.2 hc (lk_ask_0 (fun d Q hd => lk_settle_x hx a4 d Q hd)) hc1
set_option maxHeartbeats 1000000 in
theorem lt_one (hA : ll_Ad Fo a0 sA bA fA vA dA) (hS : ll_S Fo x a0 n sA bA fA vA dA σ S ad g gs gb gf gv gd t nt lk) (y0 : 0 ≤ y) (y1 : y ≤ 134217727) (d0 : 0 ≤ dd) (d1 : dd ≤ 31) (b0 : 0 ≤ a) (b1 : a < 2) (c0 : 0 ≤ sc) (c1 : sc < 2) (t0 : 0 ≤ t) (t1 : t ≤ 250) (ht : 2 ≤ t) (h1 : dd < 25) : ll_T Fo x a0 n sA bA fA vA dA g 920 σ nt lk tn t y dd a sc l16 l17 l18 l19 := by
  obtain ⟨⟨hR, hx0, hIn, hI⟩, ⟨hC, hN, hT⟩, ⟨hnt, k0, k1, h16, h20, h21⟩, u1⟩ := id hS
  subst hx0
  obtain ⟨hW, hV, hP, hJ⟩ := id hIn
  obtain ⟨⟨i1, i9⟩, i3, iv, i10, ik, i15, i15b, i22⟩ := id hI
  obtain ⟨z0, hx⟩ := ll_x hR
  have w2 := pw_2 hW a
  have w3 := pw_3 hW a
  have w21 := pw_21 hW 0
  have q3 := i3 a b0 b1
  have q10 := i10 sc c0 c1
  have u := u1 a b0 b1
  obtain ⟨ca0, cs, cb, cf, cv, cd⟩ := id hC
  obtain ⟨n10, n2, n3⟩ := id hN
  obtain ⟨j, j0, j1, ej⟩ := lb_r (a := y / 4) (n := S 10 sc) (by omega) (by omega) (by omega) (by omega)
  have cF : pz_isF S sc j := ⟨⟨c0, by omega⟩, j0, by omega⟩
  have b16 := h16 (40 * sc + j)
  have w16 := pw_16 hW (40 * sc + j)
  obtain ⟨σ1, ad1, a1, a2, a3, a4⟩ := fc_renderOne (s := sc) (f := j) hW hR (by omega) (by omega) (by omega) (by omega) hP hJ (by omega) cF
  have hIn1 := rz_In_rd hIn cF (by omega)
  obtain ⟨z1, hx1⟩ := ll_x a2
  rw [a1] at hx1
  have tt : ∀ q, q ∉ [16, 17, 18, 19, 20] → pz_rd S sc j q = S q := fun q hq => pz_rd_t (fun e => hq (by rw [e]; decide)) (fun e => hq (by rw [e]; decide)) (fun e => hq (by rw [e]; decide)) (fun e => hq (by rw [e]; decide)) (fun e => hq (by rw [e]; decide))
  have cF1 : pz_isF (pz_rd S sc j) sc j := by
    unfold pz_isF
    rw [tt 9 (by decide), tt 10 (by decide)]
    exact cF
  have c5 : ∀ S : pz_S, pz_cn S 5 = S 20 0 := fun S => (if_neg (by decide)).trans ((if_neg (by decide)).trans (if_pos rfl))
  have t2 : ∀ S : pz_S, pz_tf S sc j 2 = pz_b (pz_nd S sc j) := fun S => (if_neg (by decide)).trans ((if_neg (by decide)).trans (if_pos rfl))
  have t5 : ∀ S : pz_S, pz_tf S sc j 5 = S 16 (40 * sc + j) := fun S => (if_neg (by decide)).trans ((if_neg (by decide)).trans ((if_neg (by decide)).trans ((if_neg (by decide)).trans (if_neg (by decide)))))
  have hT0 := fun (d : Nat) (Q : mb_O → mb_S → Prop) (hd : 6 ≤ d) => lr_tf (w := 5) hR hIn cF (by omega) (by omega) (by omega) (by omega) d Q hd
  have hN0 := fun (d : Nat) (Q : mb_O → mb_S → Prop) (hd : 6 ≤ d) => lr_tf (w := 2) hR hIn cF (by omega) (by omega) (by omega) (by omega) d Q hd
  have hC0 := fun (d : Nat) (Q : mb_O → mb_S → Prop) (hd : 6 ≤ d) => lr_cn (w := 5) hR hIn (by omega) (by omega) d Q hd
  have hT1 := fun (d : Nat) (Q : mb_O → mb_S → Prop) (hd : 6 ≤ d) => lr_tf (w := 5) a2 hIn1 cF1 (by omega) (by omega) (by omega) (by omega) d Q hd
  have hN1 := fun (d : Nat) (Q : mb_O → mb_S → Prop) (hd : 6 ≤ d) => lr_tf (w := 2) a2 hIn1 cF1 (by omega) (by omega) (by omega) (by omega) d Q hd
  have hC1 := fun (d : Nat) (Q : mb_O → mb_S → Prop) (hd : 6 ≤ d) => lr_cn (w := 5) a2 hIn1 (by omega) (by omega) d Q hd
  rw [t5] at hT0
  rw [t2] at hN0
  rw [c5] at hC0
  rw [t5, rz_rd_16, if_pos rfl, a1] at hT1
  rw [t2, pz_bf (lq_nd_rd hW), a1] at hN1
  rw [c5, lq_rd_20, a1] at hC1
  have br : 0 ≤ pz_b (pz_nd S sc j) ∧ pz_b (pz_nd S sc j) ≤ 1 := lq_br
  have b01 : pz_b (pz_nd S sc j) = 0 ∨ pz_b (pz_nd S sc j) = 1 := by omega
  refine ⟨σ1, _, ad1, gs, gb, gf, gv, gd, nt, lk, some (.int (iI (j))), some (.int (iI (S 16 (40 * sc + j)))), some (.int (iI (S 20 0))), some (.int (iI (pz_b (pz_nd S sc j)))), ll_mk hA hS a2 a1 a3.1 hIn1 (lq_I_t (fun q hq => tt q (fun h => by revert hq h; simp; omega)) hI) (lq_T_t hW hT (fun q hq => tt q (fun h => by revert hq h; simp; omega))) (fun c _ _ => by rw [tt 2 (by decide)]) (fun c _ _ => by rw [tt 3 (by decide)]) (fun c _ _ => by rw [tt 10 (by decide)]) (by rw [tt 21 (by decide)]; exact hnt) k0 k1 (fun i => ?_) (by rw [lq_rd_20]; omega) (by rw [lq_rd_20]; omega) ht, ⟨a3.2.1, Nat.le_trans a3.2.2.1 (by omega), Nat.le_trans a3.2.2.2 (by omega)⟩, fun d Q hd => ?_⟩
  · have := h16 i
    rw [rz_rd_16]
    by_cases c : i = 40 * sc + j
    · rw [if_pos c]; omega
    · rw [if_neg c]; omega
  · exact la_one hd y0 y1 d0 d1 b0 b1 c0 c1 h1 q10.1 (by omega) cf hx hx1 (n10 sc c0 c1) ej hT0 hC0 hN0 (lk_ask (fun d Q hd => lk_renderOne hx a4 b01 d Q hd)) br.1 br.2 w16.1 (by omega) h20 (by omega) hN1 hT1 hC1
set_option maxHeartbeats 1000000 in
theorem lt_tail {t' : Int} (hA : ll_Ad Fo a0 sA bA fA vA dA) (hS : ll_S Fo x a0 n sA bA fA vA dA σ S ad g gs gb gf gv gd t nt lk) (y0 : 0 ≤ y) (y1 : y ≤ 134217727) (d0 : 0 ≤ dd) (d1 : dd ≤ 31) (b0 : 0 ≤ a) (b1 : a < 2) (c0 : 0 ≤ sc) (c1 : sc < 2) : ∃ m16 : Option Value, ∀ (d : Nat) (Q : mb_O → mb_S → Prop), 12 ≤ d → mb_Rn d 90 1162 (ll_L x a0 sA bA fA vA dA nt lk tn t' y dd a sc l16 l17 l18 l19) [] σ Q = mb_Rn d 90 1268 (ll_L x a0 sA bA fA vA dA nt lk tn t' y dd a sc m16 l17 l18 l19) [] σ Q := by
  obtain ⟨⟨hR, hx0, hIn, hI⟩, ⟨hC, hN, hT⟩, ⟨hnt, k0, k1, h16, h20, h21⟩, u1⟩ := id hS
  subst hx0
  obtain ⟨hW, hV, hP, hJ⟩ := id hIn
  obtain ⟨⟨i1, i9⟩, i3, iv, i10, ik, i15, i15b, i22⟩ := id hI
  obtain ⟨z0, hx⟩ := ll_x hR
  have w2 := pw_2 hW a
  have w3 := pw_3 hW a
  have w21 := pw_21 hW 0
  have q3 := i3 a b0 b1
  have q10 := i10 sc c0 c1
  have u := u1 a b0 b1
  obtain ⟨ca0, cs, cb, cf, cv, cd⟩ := id hC
  obtain ⟨n10, n2, n3⟩ := id hN
  have v0 := pw_2 hW 0
  have v1 := pw_2 hW 1
  have f0 := pw_10 hW 0
  have f1 := pw_10 hW 1
  have hc1 := fun (d : Nat) (Q : mb_O → mb_S → Prop) (hd : 6 ≤ d) => lr_cn (w := 1) hR hIn (by omega) (by omega) d Q hd
  have hc3 := fun (d : Nat) (Q : mb_O → mb_S → Prop) (hd : 6 ≤ d) => lr_cn (w := 3) hR hIn (by omega) (by omega) d Q hd
  rw [lq_cn1 hI] at hc1
  rw [lq_cn3 hI] at hc3
  by_cases cV : S 2 a = 0
  · exact ⟨_, fun d Q hd => la_tail0 hd y0 y1 d0 d1 b0 b1 c0 c1 cf cv hx (n10 0 (by omega) (by omega)) (n10 1 (by omega) (by omega)) (n2 0 (by omega) (by omega)) (n2 1 (by omega) (by omega)) (n2 a b0 b1) hc1 hc3 v0.1 v0.2 v1.1 v1.2 f0.1 f0.2 f1.1 f1.2 cV⟩
  · obtain ⟨j, j0, j1, ej⟩ := lb_r (a := y / 8) (n := S 2 a) (by omega) (by omega) (by omega) (by omega)
    have hg : pz_rg a j = 8 + 12 * a + j := if_neg (by omega)
    have hp := fun (d : Nat) (Q : mb_O → mb_S → Prop) (hd : 10 ≤ d) => lr_poses (a := a) (v := j) hR hIn ⟨⟨b0, by omega⟩, by omega, by omega⟩ d Q hd
    rw [hg] at hp
    have tj := hT a j b0 b1 j0 j1
    have ei := pz_nat (x := 12 * a + j) (by omega) (by omega)
    rw [← ei] at tj
    exact ⟨_, fun d Q hd => la_tail1 hd y0 y1 d0 d1 b0 b1 c0 c1 cf cv hx (n10 0 (by omega) (by omega)) (n10 1 (by omega) (by omega)) (n2 0 (by omega) (by omega)) (n2 1 (by omega) (by omega)) (n2 a b0 b1) hc1 hc3 v0.1 v0.2 v1.1 v1.2 f0.1 f0.2 f1.1 f1.2 (by omega) w2.2 ej j0 j1 cb cs tj.2 tj.1 hp⟩
set_option maxHeartbeats 1000000 in
theorem lt_look (hA : ll_Ad Fo a0 sA bA fA vA dA) (hS : ll_S Fo x a0 n sA bA fA vA dA σ S ad g gs gb gf gv gd t nt lk) (y0 : 0 ≤ y) (y1 : y ≤ 134217727) (d0 : 0 ≤ dd) (d1 : dd ≤ 31) (b0 : 0 ≤ a) (b1 : a < 2) (c0 : 0 ≤ sc) (c1 : sc < 2) (t0 : 0 ≤ t) (t1 : t ≤ 250) (ht : 2 ≤ t) (h1 : 25 ≤ dd) : ll_T Fo x a0 n sA bA fA vA dA g 1036 σ nt lk tn t y dd a sc l16 l17 l18 l19 := by
  obtain ⟨⟨hR, hx0, hIn, hI⟩, ⟨hC, hN, hT⟩, ⟨hnt, k0, k1, h16, h20, h21⟩, u1⟩ := id hS
  subst hx0
  obtain ⟨hW, hV, hP, hJ⟩ := id hIn
  obtain ⟨⟨i1, i9⟩, i3, iv, i10, ik, i15, i15b, i22⟩ := id hI
  obtain ⟨z0, hx⟩ := ll_x hR
  have w2 := pw_2 hW a
  have w3 := pw_3 hW a
  have w21 := pw_21 hW 0
  have q3 := i3 a b0 b1
  have q10 := i10 sc c0 c1
  have u := u1 a b0 b1
  obtain ⟨ca0, cs, cb, cf, cv, cd⟩ := id hC
  obtain ⟨n10, n2, n3⟩ := id hN
  by_cases cL : 30 ≤ lk
  · exact ⟨σ, S, ad, gs, gb, gf, gv, gd, nt, lk, l16, l17, l18, l19, ll_mk hA hS hR rfl (fun _ _ => rfl) hIn hI hT (fun _ _ _ => rfl) (fun _ _ _ => rfl) (fun _ _ _ => rfl) hnt k0 k1 (fun i => by have := h16 i; omega) h20 (by omega) ht, ⟨Nat.le_refl _, by omega, by omega⟩, fun d Q hd => la_nolook hd y0 y1 d0 d1 b0 b1 c0 c1 cL (by omega)⟩
  · subst hnt
    have hF := fun (d : Nat) (Q : mb_O → mb_S → Prop) (hd : 10 ≤ d) => lr_are hR hIn hI (fun i => by have := h16 i; omega) c0 c1 d Q hd
    obtain ⟨m, m0, m1, em⟩ := lb_and (iI y) (iI 3) 3 (pz_toInt (by omega) (by omega)) (by omega)
    by_cases cm : m = 0
    · rw [cm] at em
      have hS1 : ll_S Fo (ad 0 0) a0 n sA bA fA vA dA σ S ad g gs gb gf gv gd (t + 1) (S 21 0) (lk + 1) := ll_mk hA hS hR rfl (fun _ _ => rfl) hIn hI hT (fun _ _ _ => rfl) (fun _ _ _ => rfl) (fun _ _ _ => rfl) rfl (by omega) (by omega) (fun i => by have := h16 i; omega) h20 (by omega) ht
      obtain ⟨m16, hw⟩ := lt_tail (l16 := l16) (l17 := l17) (l18 := l18) (l19 := l19) (tn := tn) (t' := t) hA hS1 y0 y1 d0 d1 b0 b1 c0 c1
      exact ⟨σ, S, ad, gs, gb, gf, gv, gd, S 21 0, lk + 1, m16, l17, l18, l19, hS1, ⟨Nat.le_refl _, by omega, by omega⟩, fun d Q hd => (la_look0 hd y0 y1 d0 d1 b0 b1 c0 c1 k0 (by omega) cf (n10 sc c0 c1) hx hF em).trans (hw d Q hd)⟩
    · have cs1 : 0 ≤ sc ∧ sc ≤ S 9 0 - 1 := ⟨c0, by omega⟩
      have c5 : ∀ S : pz_S, pz_cn S 5 = S 20 0 := fun S => (if_neg (by decide)).trans ((if_neg (by decide)).trans (if_pos rfl))
      -- the first rendering
      have r1 := lq_render (s := sc) hW (fun i => by have := h16 i; omega)
      have hr1 := rz_In_rS (s := sc) (N := S 10 sc) (B := 2 * t) c0 (by omega) (by omega) (S 10 sc).toNat 0 S hIn (by omega) rfl (by omega) (by omega) (fun j _ _ => h16 _) (fun i => by have := h16 i; omega)
      have p1 := (lq_rS (s := sc) (N := S 10 sc) (S 10 sc).toNat 0 S hW (fun j _ => by have := h16 (40 * sc + j); omega) (by omega) (Int.le_refl 0)).1
      obtain ⟨σ1, ad1, a1, a2, a3, a4⟩ := fc_render (s := sc) hW hR (by omega) (by omega) hP hJ (fun i => by have := h16 i; omega) cs1
      obtain ⟨S1, hS1⟩ : ∃ S1, S1 = pz_rS sc (S 10 sc).toNat 0 S := ⟨_, rfl⟩
      rw [← hS1] at r1 hr1 p1 a2
      rw [r1.1] at a4
      have tt1 : ∀ q, q ∉ [16, 17, 18, 19, 20] → S1 q = S q := fun q hq => p1 q (fun e => hq (by rw [e]; decide)) (fun e => hq (by rw [e]; decide)) (fun e => hq (by rw [e]; decide)) (fun e => hq (by rw [e]; decide)) (fun e => hq (by rw [e]; decide))
      obtain ⟨hW1, hV1, hP1, hJ1⟩ := id hr1.1
      obtain ⟨z1, hx1⟩ := ll_x a2
      -- the second one
      have r2 := lq_render (s := sc) hW1 (fun i => by have := hr1.2 i; omega)
      have hr2 := rz_In_rS (s := sc) (N := S1 10 sc) (B := 2 * t + 1) c0 (by rw [r1.2.1]; omega) (by omega) (S1 10 sc).toNat 0 S1 hr1.1 (by rw [tt1 9 (by decide)]; omega) rfl (by rw [r1.2.1]; omega) (by omega) (fun j _ _ => hr1.2 _) (fun i => by have := hr1.2 i; omega)
      have p2 := (lq_rS (s := sc) (N := S1 10 sc) (S1 10 sc).toNat 0 S1 hW1 (fun j _ => by have := hr1.2 (40 * sc + j); omega) (by rw [r1.2.1]; omega) (Int.le_refl 0)).1
      obtain ⟨σ2, ad2, a5, a6, a7, a8⟩ := fc_render (s := sc) hW1 a2 (by omega) (by omega) hP1 hJ1 (fun i => by have := hr1.2 i; omega) (by rw [tt1 9 (by decide)]; exact cs1)
      obtain ⟨S2, hS2⟩ : ∃ S2, S2 = pz_rS sc (S1 10 sc).toNat 0 S1 := ⟨_, rfl⟩
      rw [← hS2] at r2 hr2 p2 a6
      rw [r2.1, r1.2.2.1, a1] at a8
      have tt2 : ∀ q, q ∉ [16, 17, 18, 19, 20] → S2 q = S q := fun q hq => (p2 q (fun e => hq (by rw [e]; decide)) (fun e => hq (by rw [e]; decide)) (fun e => hq (by rw [e]; decide)) (fun e => hq (by rw [e]; decide)) (fun e => hq (by rw [e]; decide))).trans (tt1 q hq)
      obtain ⟨z2, hx2⟩ := ll_x a6
      have ad20 : ad2 0 0 = ad 0 0 := a5.trans a1
      have nr := lq_nds_r (s := sc) hW
      have e20 : S2 20 0 = S 20 0 + pz_nds S sc := by rw [r2.2.2.2.2, r1.2.2.1, r1.2.2.2.2]; omega
      have hI2 : lq_I S2 := lq_I_t (fun q hq => tt2 q (fun h => by revert hq h; simp; omega)) hI
      have hS3 : ll_S Fo (ad 0 0) a0 n sA bA fA vA dA σ2 S2 ad2 g gs gb gf gv gd (t + 1) (S 21 0) (lk + 1) := ll_mk hA hS a6 ad20 (fun q hq => (a7.1 q hq).trans (a3.1 q hq)) hr2.1 hI2 (lq_T_t hW hT (fun q hq => tt2 q (fun h => by revert hq h; simp; omega))) (fun c _ _ => by rw [tt2 2 (by decide)]) (fun c _ _ => by rw [tt2 3 (by decide)]) (fun c _ _ => by rw [tt2 10 (by decide)]) (by rw [tt2 21 (by decide)]) (by omega) (by omega) (fun i => by have := hr2.2 i; omega) (by rw [e20]; omega) (by rw [e20]; omega) ht
      have hC2 := hS3.2.1.1
      have g1 := fun (d : Nat) (Q : mb_O → mb_S → Prop) (hd : 6 ≤ d) => lr_cn (w := 5) hR hIn (by omega) (by omega) d Q hd
      have g2 := fun (d : Nat) (Q : mb_O → mb_S → Prop) (hd : 6 ≤ d) => lr_nds hR hIn c0 (show sc ≤ S 9 0 - 1 by omega) d Q hd
      have g3 := fun (d : Nat) (Q : mb_O → mb_S → Prop) (hd : 6 ≤ d) => lr_nds a2 hr1.1 c0 (show sc ≤ S1 9 0 - 1 by rw [tt1 9 (by decide)]; omega) d Q hd
      have g4 := fun (d : Nat) (Q : mb_O → mb_S → Prop) (hd : 6 ≤ d) => lr_xs a2 hr1.1 c0 (show sc ≤ S1 9 0 - 1 by rw [tt1 9 (by decide)]; omega) d Q hd
      have g5 := fun (d : Nat) (Q : mb_O → mb_S → Prop) (hd : 6 ≤ d) => lr_cn (w := 5) a6 hr2.1 (by omega) (by omega) d Q hd
      have g6 := fun (d : Nat) (Q : mb_O → mb_S → Prop) (hd : 10 ≤ d) => lr_are a6 hr2.1 hI2 (fun i => by have := hr2.2 i; omega) c0 c1 d Q hd
      rw [c5] at g1
      rw [r1.2.2.1, a1] at g3
      rw [r1.2.2.2.1, a1] at g4
      rw [c5, e20, ad20] at g5
      rw [ad20, tt2 10 (by decide), tt2 21 (by decide)] at g6
      rw [a1] at hx1
      rw [ad20] at hx2
      obtain ⟨m16, hw⟩ := lt_tail (l16 := some (.int (iI (S 20 0)))) (l17 := some (.int (iI (pz_nds S sc)))) (l18 := l18) (l19 := l19) (tn := tn) (t' := t) hA hS3 y0 y1 d0 d1 b0 b1 c0 c1
      refine ⟨σ2, S2, ad2, gs, gb, gf, gv, gd, S 21 0, lk + 1, m16, some (.int (iI (pz_nds S sc))), l18, l19, hS3, ⟨Nat.le_trans a3.2.1 a7.2.1, ?_, ?_⟩, fun d Q hd => ?_⟩
      · have := a3.2.2.1
        have := a7.2.2.1
        omega
      · have := a3.2.2.2
        have := a7.2.2.2
        omega
      · exact (la_look1 hd y0 y1 d0 d1 b0 b1 c0 c1 k0 (by omega) cf (n10 sc c0 c1) hx hF em (by omega) (by omega) hx1 hx2 hC2.2.2.2.1 g1 g2 a4 g3 g4 a8 g5 g6 nr.1 (by omega) h20 (by omega)).trans (hw d Q hd)
end
