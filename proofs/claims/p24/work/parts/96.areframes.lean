/-! p24: frames of a scene tell what the scene tells; notes lie on frames: the law's areFrames answers true -/
section
variable {σ : mb_S} {S : pz_S} {ad : rz_A} {Fo : Nat → Prop} {s f : Int}
theorem lr_tf (hR : rz_R σ S ad Fo) (hIn : rz_In S) (c : pz_isF S s f) (s1 : s ≤ 100) (f1 : f ≤ 100) {w : Int} (w0 : 0 ≤ w) (w1 : w ≤ 5) (d : Nat) (Q : mb_O → mb_S → Prop) (hd : 6 ≤ d) : mb_Ex d 59 [.ref (ad 0 0), .int (iI s), .int (iI f), .int (iI w)] σ Q = Q (.inl (some (.int (iI (pz_tf S s f w))))) σ :=
  (pc_ofFrameC hIn.1 hIn.2.2.1 hd (rz_C hIn.1 hR) (by have := c.1; omega) (by omega) (by have := c.2; omega) (by omega) (by omega) (by omega)).trans (if_neg (fun g => g ⟨c, w0, w1⟩))
theorem lr_kv (hR : rz_R σ S ad Fo) (hIn : rz_In S) (c : pz_isF S s f) (s1 : s ≤ 100) (f1 : f ≤ 100) {a : Int} (a0 : 0 ≤ a) (a1 : a ≤ S 1 0 - 1) (d : Nat) (Q : mb_O → mb_S → Prop) (hd : 6 ≤ d) : mb_Ex d 60 [.ref (ad 0 0), .int (iI s), .int (iI f), .int (iI a)] σ Q = Q (.inl (some (.int (iI (pz_kv S s f a))))) σ :=
  (pc_keptC hIn.1 hd (rz_C hIn.1 hR) (by have := c.1; omega) (by omega) (by have := c.2; omega) (by omega) (by omega) (by have := pw_1 hIn.1 0; omega)).trans (if_neg (fun g => g ⟨c, a0, a1⟩))
theorem lr_oa (hR : rz_R σ S ad Fo) (hIn : rz_In S) {a : Int} (a0 : 0 ≤ a) (a1 : a ≤ S 1 0 - 1) (d : Nat) (Q : mb_O → mb_S → Prop) (hd : 6 ≤ d) : mb_Ex d 48 [.ref (ad 0 0), .int (iI a), .int (iI 1)] σ Q = Q (.inl (some (.int (iI (S 2 a))))) σ :=
  (pc_ofAssetC hIn.1 hd (rz_C hIn.1 hR) (by omega) (by have := pw_1 hIn.1 0; omega) (by omega) (by omega)).trans ((if_neg (fun g => g ⟨⟨a0, a1⟩, by omega, by omega⟩)).trans (by rw [if_neg (by decide), if_pos rfl]))
theorem lr_on (hR : rz_R σ S ad Fo) (hIn : rz_In S) {n w : Int} (n0 : 0 ≤ n) (n1 : n ≤ S 21 0 - 1) (w0 : 0 ≤ w) (w1 : w ≤ 3) (d : Nat) (Q : mb_O → mb_S → Prop) (hd : 6 ≤ d) : mb_Ex d 54 [.ref (ad 0 0), .int (iI n), .int (iI w)] σ Q = Q (.inl (some (.int (iI (if w = 0 then S 22 n else if w = 1 then S 23 n else if w = 2 then pz_b (¬ S 24 n = 0) else S 25 n))))) σ :=
  (pc_ofNoteC hIn.1 hd (rz_C hIn.1 hR) (by omega) (by have := pw_21 hIn.1 0; omega) (by omega) (by omega)).trans (if_neg (fun g => g ⟨⟨n0, n1⟩, w0, w1⟩))
theorem lr_nds (hR : rz_R σ S ad Fo) (hIn : rz_In S) (s0 : 0 ≤ s) (s1 : s ≤ S 9 0 - 1) (d : Nat) (Q : mb_O → mb_S → Prop) (hd : 6 ≤ d) : mb_Ex d 57 [.ref (ad 0 0), .int (iI s)] σ Q = Q (.inl (some (.int (iI (pz_nds S s))))) σ :=
  (pc_needsC hIn.1 hIn.2.2.1 hd (rz_C hIn.1 hR) (by omega) (by have := pw_9 hIn.1 0; omega)).trans (if_neg (fun g => g ⟨s0, s1⟩))
theorem lr_xs (hR : rz_R σ S ad Fo) (hIn : rz_In S) (s0 : 0 ≤ s) (s1 : s ≤ S 9 0 - 1) (d : Nat) (Q : mb_O → mb_S → Prop) (hd : 6 ≤ d) : mb_Ex d 58 [.ref (ad 0 0), .int (iI s)] σ Q = Q (.inl (some (.int (iI (pz_xs S s))))) σ :=
  (pc_mixesC hIn.1 hd (rz_C hIn.1 hR) (by omega) (by have := pw_9 hIn.1 0; omega)).trans (if_neg (fun g => g ⟨s0, s1⟩))
theorem lr_cn (hR : rz_R σ S ad Fo) (hIn : rz_In S) {w : Int} (w0 : 0 ≤ w) (w1 : w ≤ 6) (d : Nat) (Q : mb_O → mb_S → Prop) (hd : 6 ≤ d) : mb_Ex d 61 [.ref (ad 0 0), .int (iI w)] σ Q = Q (.inl (some (.int (iI (pz_cn S w))))) σ :=
  (pc_countC hIn.1 hIn.2.2.1 hd (rz_C hIn.1 hR) (by omega) (by omega)).trans (if_neg (fun g => g ⟨w0, w1⟩))
theorem lr_po (hR : rz_R σ S ad Fo) (hIn : rz_In S) {a v b : Int} (c : pz_isB S a v b) (f0 : 0 ≤ f) (f1 : f ≤ 99) (d : Nat) (Q : mb_O → mb_S → Prop) (hd : 6 ≤ d) : mb_Ex d 46 [.ref (ad 0 0), .int (iI a), .int (iI v), .int (iI b), .int (iI f)] σ Q = Q (.inl (some (.int (iI (pz_po S (pz_rg a v) f 10 b))))) σ := by
  have w1 := pw_1 hIn.1 0
  have w2 := pw_2 hIn.1 a
  have w3 := pw_3 hIn.1 (pz_rg a v)
  obtain ⟨⟨⟨a0, a1⟩, v0, v1⟩, b0, b1⟩ := id c
  exact (pc_poseC hIn.1 hIn.2.1 hd (rz_C hIn.1 hR) (by omega) (by omega) (by omega) (by omega) (by omega) (by omega) (by omega) (by omega)).trans ((if_neg (fun g => g c)).trans (if_neg (fun g => g ⟨f0, f1⟩)))
theorem lr_pa (hR : rz_R σ S ad Fo) (hIn : rz_In S) {a v b : Int} (c : pz_isB S a v b) (f0 : 0 ≤ f) (f1 : f ≤ 99) (d : Nat) (Q : mb_O → mb_S → Prop) (hd : 6 ≤ d) : mb_Ex d 47 [.ref (ad 0 0), .int (iI a), .int (iI v), .int (iI b), .int (iI f)] σ Q = Q (.inl (some (.int (iI (pz_po S (pz_rg a v) f 10 b))))) σ := by
  have w1 := pw_1 hIn.1 0
  have w2 := pw_2 hIn.1 a
  have w3 := pw_3 hIn.1 (pz_rg a v)
  obtain ⟨⟨⟨a0, a1⟩, v0, v1⟩, b0, b1⟩ := id c
  exact (pc_poseAnewC hIn.1 hIn.2.1 hd (rz_C hIn.1 hR) (by omega) (by omega) (by omega) (by omega) (by omega) (by omega) (by omega) (by omega)).trans ((if_neg (fun g => g c)).trans (if_neg (fun g => g ⟨f0, f1⟩)))
theorem lr_poses (hR : rz_R σ S ad Fo) (hIn : rz_In S) {a v : Int} (c : pz_isR S a v) (d : Nat) (Q : mb_O → mb_S → Prop) (hd : 10 ≤ d) : mb_Ex d 88 [.ref (ad 0 0), .int (iI a), .int (iI v), .int (iI (S 3 (pz_rg a v)))] σ Q = Q (.inl (some (.int (iI (lq_hs S (pz_rg a v) (S 3 (pz_rg a v)).toNat 0 17))))) σ := by
  have w3 := pw_3 hIn.1 (pz_rg a v)
  exact lp_poses (rz_geq hR (t := 0) (i := 0) rfl (fun _ k => k)) (fun b f b0 b1 f0 f1 d Q hd => lr_po hR hIn ⟨c, b0, by omega⟩ f0 f1 d Q hd) w3.2 w3.1 d Q hd
theorem lr_notes (hR : rz_R σ S ad Fo) (hIn : rz_In S) (hI : lq_I S) (s0 : 0 ≤ s) (s1 : s < 2) {d : Nat} {Q : mb_O → mb_S → Prop} (hd : 10 ≤ d) : ∀ (n : Nat) (k la : Int) (l10 l11 l12 : Option Value), k + n = S 21 0 → 0 ≤ k → mb_Rn d 89 236 [some (.ref (ad 0 0)), some (.int (iI s)), some (.int (iI (S 10 s))), some (.int (iI (S 21 0))), some (.int (iI (pz_nds S s))), some (.int (iI (lq_op S s))), some (.int (iI la)), some (.int (iI 1)), some (.int (iI (pz_sm (fun k => pz_b (S 22 k = s ∧ S 24 k = 0)) 0 k.toNat))), some (.int (iI k)), l10, l11, l12] [] σ Q = Q (.inl (some (.int (iI 1)))) σ := by
  have hx := rz_geq hR (t := 0) (i := 0) rfl (fun _ k => k)
  have w21 := pw_21 hIn.1 0
  obtain ⟨⟨h1, h9⟩, i2, i3, i4, i5, i6, i7, i8⟩ := id hI
  have h10 := i4 s s0 s1
  intro n
  induction n with
  | zero =>
    intro k la l10 l11 l12 hk k0
    have ek : k = S 21 0 := by omega
    subst ek
    have r := lq_xs (s := s) hI
    exact lf_end hx hd (fun d Q hd => lr_nds hR hIn s0 (by omega) d Q hd) (fun d Q hd => lr_xs hR hIn s0 (by omega) d Q hd) (Int.le_refl _) w21.1 w21.2 r.1 r.2
  | succ n ih =>
    intro k la l10 l11 l12 hk k0
    have h8 := i8 k k0 (by omega)
    have w22 := pw_22 hIn.1 k
    have w23 := pw_23 hIn.1 k
    have t := fun (w : Int) (w0 : 0 ≤ w) (w1 : w ≤ 3) (d : Nat) (Q : mb_O → mb_S → Prop) (hd : 6 ≤ d) => lr_on hR hIn k0 (show k ≤ S 21 0 - 1 by omega) w0 w1 d Q hd
    rw [lf_note (w0 := S 22 k) (w1 := S 23 k) (w2 := S 24 k) hx hd (fun d Q hd => (t 0 (by omega) (by omega) d Q hd).trans (by rw [if_pos rfl])) (fun d Q hd => (t 1 (by omega) (by omega) d Q hd).trans (by rw [if_neg (by decide), if_pos rfl])) (fun d Q hd => (t 2 (by omega) (by omega) d Q hd).trans (by rw [if_neg (by decide), if_neg (by decide), if_pos rfl])) k0 (by omega) w21.2 (by omega) s0 (by omega) w22.1 (by omega) w23.1 (by omega) (fun e => by rw [← e]; exact h8.2) (by omega)]
    have q := ih (k + 1) la l10 l11 l12 (by omega) (by omega)
    rw [lq_smn k0] at q
    exact q
theorem lr_frames (hR : rz_R σ S ad Fo) (hIn : rz_In S) (hI : lq_I S) (h16 : ∀ i, S 16 i ≤ 999999999) (s0 : 0 ≤ s) (s1 : s < 2) {d : Nat} {Q : mb_O → mb_S → Prop} (hd : 10 ≤ d) : ∀ (n : Nat) (f la : Int) (l9 l10 l11 l12 : Option Value), f + n = S 10 s → 0 ≤ f → ((f = 0 ∧ la = -1) ∨ (0 < f ∧ la = S 15 (40 * s + (f - 1)))) → mb_Rn d 89 15 [some (.ref (ad 0 0)), some (.int (iI s)), some (.int (iI (S 10 s))), some (.int (iI (S 21 0))), some (.int (iI (pz_sm (fun i => pz_b (pz_nd S s i)) 0 f.toNat))), some (.int (iI (pz_sm (fun i => pz_us S s i) 0 f.toNat))), some (.int (iI la)), some (.int (iI 1)), some (.int (iI f)), l9, l10, l11, l12] [] σ Q = Q (.inl (some (.int (iI 1)))) σ := by
  have hx := rz_geq hR (t := 0) (i := 0) rfl (fun _ k => k)
  obtain ⟨⟨h1, h9⟩, i2, i3, i4, i5, i6, i7, i8⟩ := id hI
  have h10 := i4 s s0 s1
  have w21 := pw_21 hIn.1 0
  intro n
  induction n with
  | zero =>
    intro f la l9 l10 l11 l12 hf f0 hl
    have ef : f = S 10 s := by omega
    subst ef
    rw [lf_out f0 (Int.le_refl _) (by omega) (by omega), lq_open hIn.1 hI s0 s1]
    exact lr_notes hR hIn hI s0 s1 hd (S 21 0).toNat 0 la l10 l11 l12 (by omega) (by omega)
  | succ n ih =>
    intro f la l9 l10 l11 l12 hf f0 hl
    have c : pz_isF S s f := ⟨⟨s0, by omega⟩, f0, by omega⟩
    have w15 := pw_15 hIn.1 (40 * s + f)
    have w16 := pw_16 hIn.1 (40 * s + f)
    have b16 := h16 (40 * s + f)
    have lt : la < S 15 (40 * s + f) ∧ -1 ≤ la := by
      rcases hl with ⟨e, e2⟩ | ⟨e, e2⟩
      · omega
      · have := i7 s (f - 1) f s0 s1 (by omega) (by omega) (by omega)
        have w := pw_15 hIn.1 (40 * s + (f - 1))
        omega
    have t := fun (w : Int) (w0 : 0 ≤ w) (w1 : w ≤ 5) (d : Nat) (Q : mb_O → mb_S → Prop) (hd : 6 ≤ d) => lr_tf hR hIn c (by omega) (by omega) w0 w1 d Q hd
    have bs := lq_bs (f := f) hIn.1 hI hIn.2.2.1 s0 s1
    have k0 := lq_kv hIn.1 hIn.2.2.1 (a := 0) s0 (by omega) f0 (by omega) (by omega) (by omega)
    have k1 := lq_kv hIn.1 hIn.2.2.1 (a := 1) s0 (by omega) f0 (by omega) (by omega) (by omega)
    have v0 := pw_2 hIn.1 0
    have v1 := pw_2 hIn.1 1
    rw [lf_frame (c := pz_nd S s f) (sh := S 15 (40 * s + f)) (T := S 16 (40 * s + f)) (bs := pz_bs S s f) (us := pz_us S s f) (k0 := pz_kv S s f 0) (k1 := pz_kv S s f 1) (v0 := S 2 0) (v1 := S 2 1) hx hd
      (fun d Q hd => (t 0 (by omega) (by omega) d Q hd).trans (by rw [show pz_tf S s f 0 = S 15 (40 * s + f) from if_pos rfl]))
      (fun d Q hd => (t 1 (by omega) (by omega) d Q hd).trans (by rw [show pz_tf S s f 1 = pz_b (0 < S 16 (40 * s + f)) from (if_neg (by decide)).trans (if_pos rfl)]))
      (fun d Q hd => (t 2 (by omega) (by omega) d Q hd).trans (by rw [show pz_tf S s f 2 = pz_b (pz_nd S s f) from (if_neg (by decide)).trans ((if_neg (by decide)).trans (if_pos rfl))]))
      (fun d Q hd => (t 3 (by omega) (by omega) d Q hd).trans (by rw [show pz_tf S s f 3 = pz_bs S s f from (if_neg (by decide)).trans ((if_neg (by decide)).trans ((if_neg (by decide)).trans (if_pos rfl)))]))
      (fun d Q hd => (t 4 (by omega) (by omega) d Q hd).trans (by rw [show pz_tf S s f 4 = pz_us S s f from (if_neg (by decide)).trans ((if_neg (by decide)).trans ((if_neg (by decide)).trans ((if_neg (by decide)).trans (if_pos rfl))))]))
      (fun d Q hd => (t 5 (by omega) (by omega) d Q hd).trans (by rw [show pz_tf S s f 5 = S 16 (40 * s + f) from (if_neg (by decide)).trans ((if_neg (by decide)).trans ((if_neg (by decide)).trans ((if_neg (by decide)).trans (if_neg (by decide)))))]))
      (fun d Q hd => lr_kv hR hIn c (by omega) (by omega) (by omega) (by omega) d Q hd) (fun d Q hd => lr_kv hR hIn c (by omega) (by omega) (by omega) (by omega) d Q hd)
      (fun d Q hd => lr_oa hR hIn (by omega) (by omega) d Q hd) (fun d Q hd => lr_oa hR hIn (by omega) (by omega) d Q hd)
      f0 (by omega) (by omega) lt.1 (i6 s f s0 s1 f0 (by omega)) w15.1 lt.2 bs.1 bs.2 w16.1 (by omega) (fun e => Or.inl e) k0.1 k1.1 k0.2 k1.2 v0.2 v1.2 (fun e => if_pos e) (fun e => if_pos e)]
    have q := ih (f + 1) (S 15 (40 * s + f)) (some (.int (iI (S 15 (40 * s + f))))) (some (.int (iI (S 16 (40 * s + f))))) (some (.int (iI 2))) (some (.int (iI (pz_kv S s f 1)))) (by omega) (by omega) (Or.inr ⟨by omega, by rw [show f + 1 - 1 = f by omega]⟩)
    rw [lq_smn f0, lq_smn f0] at q
    exact q
theorem lr_are (hR : rz_R σ S ad Fo) (hIn : rz_In S) (hI : lq_I S) (h16 : ∀ i, S 16 i ≤ 999999999) (s0 : 0 ≤ s) (s1 : s < 2) (d : Nat) (Q : mb_O → mb_S → Prop) (hd : 10 ≤ d) : mb_Ex d 89 [.ref (ad 0 0), .int (iI s), .int (iI (S 10 s)), .int (iI (S 21 0))] σ Q = Q (.inl (some (.int (iI 1)))) σ := by
  have h10 := hI.2.2.2.1 s s0 s1
  rw [lf_in]
  exact lr_frames hR hIn hI h16 s0 s1 hd (S 10 s).toNat 0 (-1) none none none none (by omega) (by omega) (Or.inl ⟨rfl, rfl⟩)
end
