/-! p24: keys of drafts, all at frames below 12 -/
section
variable {S S' : pz_S}
theorem lq_mo (hV : pz_V S) {B : Int} (hB0 : 0 ≤ B) (hB1 : B < 1040) : ∀ (n : Nat) (k : Int), 0 ≤ k → k + n < S 5 B → S 6 (12 * B + k) + n ≤ S 6 (12 * B + (k + n)) := by
  intro n
  induction n with
  | zero =>
    intro k k0 k1
    rw [show k + ((0 : Nat) : Int) = k by omega]
    omega
  | succ n ih =>
    intro k k0 k1
    have h1 := ih k k0 (by omega)
    have h2 := hV.1 B (k + n) hB0 hB1 (by omega) (by omega)
    rw [show 12 * B + (k + (n : Int)) + 1 = 12 * B + (k + ((n + 1 : Nat) : Int)) by omega] at h2
    omega
theorem lq_m2 (hV : pz_V S) {B j k : Int} (hB0 : 0 ≤ B) (hB1 : B < 1040) (j0 : 0 ≤ j) (jk : j ≤ k) (k1 : k < S 5 B) : S 6 (12 * B + j) + (k - j) ≤ S 6 (12 * B + k) := by
  have h := lq_mo hV hB0 hB1 (k - j).toNat j j0 (by omega)
  rw [show j + ((k - j).toNat : Int) = k by omega] at h
  omega
/-- all keys of a curve lie below frame 12 -/
def lq_k (S : pz_S) (B : Int) : Prop := ∀ k : Int, 0 ≤ k → k < S 5 B → S 6 (12 * B + k) < 12
theorem lq_full (hW : pz_W S) (hV : pz_V S) {B f : Int} (hB0 : 0 ≤ B) (hB1 : B < 1040) (h12 : S 5 B = 12) (hk : lq_k S B) (f0 : 0 ≤ f) (f1 : f < 12) : pz_iK S B f := by
  have key : ∀ k, 0 ≤ k → k < 12 → S 6 (12 * B + k) = k := by
    intro k k0 k1
    have a := lq_m2 hV hB0 hB1 (j := 0) (k := k) (by omega) k0 (by omega)
    have b := lq_m2 hV hB0 hB1 (j := k) (k := 11) k0 (by omega) (by omega)
    have c := hk 11 (by omega) (by omega)
    have d := (pw_6 hW (12 * B + 0)).1
    omega
  have r := pz_kA_r hW B f
  have no : ∀ j, 0 ≤ j → j < pz_kA S B f → S 6 (12 * B + j) < f := fun j j0 j1 => Decidable.not_not.1 (pz_fd_no (c := fun k => ¬ S 6 (12 * B + k) < f) (S 5 B).toNat 0 j j0 j1)
  have yes : pz_kA S B f < S 5 B → ¬ S 6 (12 * B + pz_kA S B f) < f := fun h => pz_fd_yes (c := fun k => ¬ S 6 (12 * B + k) < f) (S 5 B).toNat 0 (by show pz_kA S B f < _; omega)
  have e : pz_kA S B f = f := by
    by_cases c : f < pz_kA S B f
    · have h1 := no f f0 c
      rw [key f f0 f1] at h1
      omega
    · by_cases c2 : pz_kA S B f = f
      · exact c2
      · have h1 := yes (by omega)
        rw [key _ r.1 (by omega)] at h1
        omega
  exact ⟨by omega, by rw [e]; exact key f f0 f1⟩
theorem lq_put (hW : pz_W S) {B f v w : Int} (hk : lq_k S B) (f1 : f < 12) (h12 : S 5 B < 12 ∨ pz_iK S B f) : lq_k (pz_put S B f v w) B := by
  have wk := pz_kA_r hW B f
  have w5 := pw_5 hW B
  intro k k0 k1
  by_cases c : pz_iK S B f
  · have e6 : ∀ x, pz_put S B f v w 6 x = S 6 x := fun x => by
      unfold pz_put
      rw [if_pos c, pz_lay_6]
      by_cases ex : x = 12 * B + pz_kA S B f
      · rw [if_pos ex, ex, c.2]
      · rw [if_neg ex]
    have e5 : pz_put S B f v w 5 B = S 5 B := by
      unfold pz_put
      rw [if_pos c, pz_lay_t (by decide) (by decide) (by decide)]
    rw [e5] at k1
    rw [e6]
    exact hk k k0 k1
  · have e6 : pz_put S B f v w 6 (12 * B + k) = if k = pz_kA S B f then f else if pz_kA S B f < k ∧ k ≤ S 5 B then S 6 (12 * B + k - 1) else S 6 (12 * B + k) := by
      unfold pz_put
      rw [if_neg c, pz_lay_6, pz_su_t (by decide), rz_sh_6]
      by_cases ej : k = pz_kA S B f
      · rw [if_pos (by omega), if_pos ej]
      · rw [if_neg (by omega), if_neg ej]
        unfold pz_kn
        exact rz_ic (by omega)
    have e5 : pz_put S B f v w 5 B = S 5 B + 1 := by
      unfold pz_put
      rw [if_neg c, pz_lay_t (by decide) (by decide) (by decide), pz_su_e]
    rw [e5] at k1
    rw [e6]
    by_cases c1 : k = pz_kA S B f
    · rw [if_pos c1]; exact f1
    · rw [if_neg c1]
      by_cases c2 : pz_kA S B f < k ∧ k ≤ S 5 B
      · rw [if_pos c2]
        have := hk (k - 1) (by omega) (by omega)
        rw [show 12 * B + (k - 1) = 12 * B + k - 1 by omega] at this
        exact this
      · rw [if_neg c2]
        exact hk k k0 (by omega)
theorem lq_put5 {B f v w : Int} : pz_put S B f v w 5 B = if pz_iK S B f then S 5 B else S 5 B + 1 := by
  by_cases c : pz_iK S B f
  · unfold pz_put
    rw [if_pos c, if_pos c, pz_lay_t (by decide) (by decide) (by decide)]
  · unfold pz_put
    rw [if_neg c, if_neg c, pz_lay_t (by decide) (by decide) (by decide), pz_su_e]
theorem lq_tk6 {B f k : Int} (hk : pz_kA S B f < S 5 B) : rz_tk S B f 6 (12 * B + k) = if pz_kA S B f ≤ k ∧ k < S 5 B - 1 then S 6 (12 * B + k + 1) else S 6 (12 * B + k) := by
  show pz_sd _ _ _ _ 6 _ = _
  rw [rz_sd_6, pz_su_t (by decide)]
  exact rz_ic (by omega)
theorem lq_tk (hW : pz_W S) {B f : Int} (hk : lq_k S B) (h : pz_kA S B f < S 5 B) : lq_k (rz_tk S B f) B := by
  have wk := pz_kA_r hW B f
  intro k k0 k1
  rw [rz_tk_5, if_pos rfl] at k1
  rw [lq_tk6 h]
  by_cases c : pz_kA S B f ≤ k ∧ k < S 5 B - 1
  · rw [if_pos c]
    have := hk (k + 1) (by omega) (by omega)
    rw [show 12 * B + (k + 1) = 12 * B + k + 1 by omega] at this
    exact this
  · rw [if_neg c]
    exact hk k k0 (by omega)
theorem lq_gone (hW : pz_W S) (hV : pz_V S) {B f : Int} (hB0 : 0 ≤ B) (hB1 : B < 1040) (h : pz_iK S B f) : ¬ pz_iK (rz_tk S B f) B f := by
  intro g
  have wk := pz_kA_r hW B f
  have wg := pz_kA_r (rz_W_tk hW h.1) B f
  obtain ⟨g1, g2⟩ := g
  rw [rz_tk_5, if_pos rfl] at g1 wg
  have no : ∀ j, 0 ≤ j → j < pz_kA S B f → S 6 (12 * B + j) < f := fun j j0 j1 => Decidable.not_not.1 (pz_fd_no (c := fun k => ¬ S 6 (12 * B + k) < f) (S 5 B).toNat 0 j j0 j1)
  rw [lq_tk6 h.1] at g2
  by_cases c : pz_kA S B f ≤ pz_kA (rz_tk S B f) B f
  · rw [if_pos ⟨c, g1⟩] at g2
    have a := lq_m2 hV hB0 hB1 (j := pz_kA S B f) (k := pz_kA (rz_tk S B f) B f + 1) wk.1 (by omega) (by omega)
    rw [h.2, show 12 * B + (pz_kA (rz_tk S B f) B f + 1) = 12 * B + pz_kA (rz_tk S B f) B f + 1 by omega] at a
    omega
  · rw [if_neg (fun q => c q.1)] at g2
    have := no _ wg.1 (by omega)
    omega
end
