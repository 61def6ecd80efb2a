/-! p24: the poses of versions stay as they were published -/
section
variable {S S' : pz_S}
/-- some poses of a rig, together -/
def lq_h1 (S : pz_S) (r b x : Int) : Int := 31 * (31 * (31 * (31 * x + pz_po S r 0 10 b) + pz_po S r 33 10 b) + pz_po S r 66 10 b) + pz_po S r 99 10 b
def lq_hs (S : pz_S) (r : Int) : Nat → Int → Int → Int
  | 0, _, x => x
  | n + 1, b, x => lq_hs S r n (b + 1) (lq_h1 S r b x)
def lq_h (S : pz_S) (r : Int) : Int := lq_hs S r (S 3 r).toNat 0 17
theorem lq_hs_c {r r' N : Int} (h : ∀ f b : Int, 0 ≤ b → b < N → pz_po S' r' f 10 b = pz_po S r f 10 b) : ∀ (n : Nat) (b x : Int), 0 ≤ b → b + n ≤ N → lq_hs S' r' n b x = lq_hs S r n b x := by
  intro n
  induction n with
  | zero => intro b x b0 b1; rfl
  | succ n ih =>
    intro b x b0 b1
    show lq_hs S' r' n (b + 1) (lq_h1 S' r' b x) = lq_hs S r n (b + 1) (lq_h1 S r b x)
    have e : lq_h1 S' r' b x = lq_h1 S r b x := by
      unfold lq_h1
      rw [h 0 b b0 (by omega), h 33 b b0 (by omega), h 66 b b0 (by omega), h 99 b b0 (by omega)]
    rw [e]
    exact ih (b + 1) _ (by omega) (by omega)
theorem lq_h_c (hW : pz_W S) {r r' : Int} (h3 : S' 3 r' = S 3 r) (h : ∀ f b : Int, 0 ≤ b → b < S 3 r → pz_po S' r' f 10 b = pz_po S r f 10 b) : lq_h S' r' = lq_h S r := by
  have w := pw_3 hW r
  unfold lq_h
  rw [h3]
  exact lq_hs_c h _ _ _ (by omega) (by omega)
theorem lq_val_c (hW : pz_W S) {B B' f : Int} (h5 : S' 5 B' = S 5 B) (h : ∀ k : Int, 0 ≤ k → k < S 5 B → S' 6 (12 * B' + k) = S 6 (12 * B + k) ∧ S' 7 (12 * B' + k) = S 7 (12 * B + k) ∧ S' 8 (12 * B' + k) = S 8 (12 * B + k)) : pz_val S' B' f = pz_val S B f := by
  have w := pw_5 hW B
  have g := pz_kA_r hW B (f + 1)
  have ek : pz_kA S' B' (f + 1) = pz_kA S B (f + 1) := by
    unfold pz_kA
    rw [h5]
    exact rz_fd_c _ _ (fun j j1 j2 => by rw [(h j j1 (by omega)).1])
  unfold pz_val
  rw [ek, h5]
  by_cases c0 : S 5 B = 0
  · rw [if_pos c0, if_pos c0]
  · rw [if_neg c0, if_neg c0]
    have a0 := h 0 (by omega) (by omega)
    rw [Int.add_zero, Int.add_zero] at a0
    by_cases c1 : pz_kA S B (f + 1) = 0
    · rw [if_pos c1, if_pos c1, a0.2.1]
    · rw [if_neg c1, if_neg c1]
      have a1 := h (pz_kA S B (f + 1) - 1) (by omega) (by omega)
      rw [a1.1, a1.2.1, a1.2.2]
      by_cases c2 : pz_kA S B (f + 1) = S 5 B ∨ S 8 (12 * B + (pz_kA S B (f + 1) - 1)) = 0
      · rw [if_pos c2, if_pos c2]
      · rw [if_neg c2, if_neg c2]
        have a2 := h (pz_kA S B (f + 1) - 1 + 1) (by omega) (by omega)
        rw [← Int.add_assoc, ← Int.add_assoc] at a2
        rw [a2.1, a2.2.1]
theorem lq_po_c {r r' f N : Int} (h : ∀ b : Int, 0 ≤ b → b < N → S' 4 (10 * r' + b) = S 4 (10 * r + b) ∧ (-1 ≤ S 4 (10 * r + b) ∧ S 4 (10 * r + b) < N) ∧ pz_val S' (10 * r' + b) f = pz_val S (10 * r + b) f) : ∀ (n : Nat) (b : Int), -1 ≤ b → b < N → pz_po S' r' f n b = pz_po S r f n b := by
  intro n
  induction n with
  | zero => intro b h1 h2; rfl
  | succ n ih =>
    intro b h1 h2
    show (if b = -1 then 0 else pz_val S' (10 * r' + b) f + pz_po S' r' f n (S' 4 (10 * r' + b))) = if b = -1 then 0 else pz_val S (10 * r + b) f + pz_po S r f n (S 4 (10 * r + b))
    by_cases c : b = -1
    · rw [if_pos c, if_pos c]
    · have a := h b (by omega) h2
      rw [if_neg c, if_neg c, a.2.2, a.1, ih _ a.2.1.1 a.2.1.2]
/-- a version has its draft's poses -/
theorem lq_pub (hW : pz_W S) (hV : pz_V S) (hJ : rz_J S) {a : Int} (ha0 : 0 ≤ a) (ha1 : a < 8) (h12 : S 2 a < 12) {f b : Int} (b0 : 0 ≤ b) (b1 : b < S 3 a) : pz_po (pz_pub S a) (8 + 12 * a + S 2 a) f 10 b = pz_po S a f 10 b := by
  have w2 := pw_2 hW a
  have w3 := pw_3 hW a
  refine lq_po_c (N := S 3 a) (fun b b0 b1 => ⟨?_, ?_, ?_⟩) 10 b (by omega) b1
  · rw [rz_pub_4 hW ha0 ha1, if_pos (by omega)]
    congr 1
    omega
  · have p1 := pw_4 hW (10 * a + b)
    have p2 := hV.2 a b ha0 (by omega) b0 b1
    omega
  · refine lq_val_c hW ?_ (fun k k0 k1 => ?_)
    · rw [rz_pub_5 hW ha0 ha1, if_pos (by omega)]
      congr 1
      omega
    · have w5 := pw_5 hW (10 * a + b)
      rw [rz_pub_6 hW hJ ha0 ha1 h12 b0 b1 k0 (by omega), rz_pub_7 hW hJ ha0 ha1 h12 b0 b1 k0 (by omega), rz_pub_8 hW hJ ha0 ha1 h12 b0 b1 k0 (by omega), if_pos k1, if_pos k1, if_pos k1]
      exact ⟨rfl, rfl, rfl⟩
/-- what the law has written down of the versions -/
def lq_T (S : pz_S) (gs gb : Nat → Int32) : Prop := ∀ a v : Int, 0 ≤ a → a < 2 → 0 ≤ v → v < S 2 a → gs (12 * a + v).toNat = iI (lq_h S (8 + 12 * a + v)) ∧ gb (12 * a + v).toNat = iI (S 3 (8 + 12 * a + v))
/-- drafts are changed, or nothing of a rig -/
theorem lq_T_dr (hW : pz_W S) {gs gb : Nat → Int32} (hT : lq_T S gs gb) (h2 : ∀ x, S' 2 x = S 2 x) (h3 : ∀ x, 8 ≤ x → S' 3 x = S 3 x) (h4 : ∀ x, 80 ≤ x → S' 4 x = S 4 x ∧ S' 5 x = S 5 x) (h6 : ∀ x, 960 ≤ x → S' 6 x = S 6 x ∧ S' 7 x = S 7 x ∧ S' 8 x = S 8 x) : lq_T S' gs gb := by
  intro a v a0 a1 v0 v1
  rw [h2] at v1
  have t := hT a v a0 a1 v0 v1
  have w3 := pw_3 hW (8 + 12 * a + v)
  rw [h3 _ (by omega), lq_h_c hW (h3 _ (by omega)) (fun f b b0 b1 => rz_po hW (fun c c0 c1 => ⟨(h4 _ (by omega)).1, (h4 _ (by omega)).2, fun k k0 k1 => h6 _ (by omega)⟩) 10 b (by omega) (by omega))]
  exact t
theorem lq_T_t (hW : pz_W S) {gs gb : Nat → Int32} (hT : lq_T S gs gb) (h : ∀ x ∈ [2, 3, 4, 5, 6, 7, 8], S' x = S x) : lq_T S' gs gb :=
  lq_T_dr hW hT (fun x => by rw [h 2 (by decide)]) (fun x _ => by rw [h 3 (by decide)]) (fun x _ => ⟨by rw [h 4 (by decide)], by rw [h 5 (by decide)]⟩) (fun x _ => ⟨by rw [h 6 (by decide)], by rw [h 7 (by decide)], by rw [h 8 (by decide)]⟩)
theorem lq_T_pub (hW : pz_W S) (hV : pz_V S) (hJ : rz_J S) {gs gb : Nat → Int32} (hT : lq_T S gs gb) {a : Int} (ha0 : 0 ≤ a) (ha1 : a < 2) (h12 : S 2 a < 12) : lq_T (pz_pub S a) (upd gs (12 * a + S 2 a).toNat (iI (lq_hs (pz_pub S a) a (S 3 a).toNat 0 17))) (upd gb (12 * a + S 2 a).toNat (iI (S 3 a))) := by
  have w2 := pw_2 hW a
  have w3 := pw_3 hW a
  have r3 : pz_pub S a 3 (8 + 12 * a + S 2 a) = S 3 a := by rw [rz_pub_3, if_pos rfl]
  intro a' v a0 a1 v0 v1
  have w2' := pw_2 hW a'
  rw [rz_pub_2] at v1
  by_cases c : 12 * a' + v = 12 * a + S 2 a
  · have ea : a' = a := by
      by_cases e : a' = a
      · exact e
      · rw [if_neg e] at v1; omega
    subst ea
    have ev : v = S 2 a' := by omega
    subst ev
    have e1 : lq_h (pz_pub S a') (8 + 12 * a' + S 2 a') = lq_hs (pz_pub S a') a' (S 3 a').toNat 0 17 := by
      unfold lq_h
      rw [r3]
      refine lq_hs_c (N := S 3 a') (fun f b b0 b1 => ?_) _ _ _ (by omega) (by omega)
      rw [lq_pub hW hV hJ a0 (by omega) h12 b0 b1, rz_po_pub hW a0 (by omega) (by omega) b (by omega) (by omega)]
    rw [e1, r3]
    exact ⟨if_pos rfl, if_pos rfl⟩
  · have hv : v < S 2 a' := by
      by_cases e : a' = a
      · subst e
        rw [if_pos rfl] at v1
        omega
      · rw [if_neg e] at v1
        exact v1
    have hn : ¬ (12 * a' + v).toNat = (12 * a + S 2 a).toNat := by omega
    have hr : 8 + 12 * a' + v ≠ 8 + 12 * a + S 2 a := by omega
    have t := hT a' v a0 a1 v0 hv
    have w3' := pw_3 hW (8 + 12 * a' + v)
    have q3 : pz_pub S a 3 (8 + 12 * a' + v) = S 3 (8 + 12 * a' + v) := by rw [rz_pub_3, if_neg hr]
    have q : lq_h (pz_pub S a) (8 + 12 * a' + v) = lq_h S (8 + 12 * a' + v) := lq_h_c hW q3 (fun f b b0 b1 => rz_po_pub hW ha0 (by omega) hr b (by omega) (by omega))
    rw [q, q3]
    exact ⟨(if_neg hn).trans t.1, (if_neg hn).trans t.2⟩
end
