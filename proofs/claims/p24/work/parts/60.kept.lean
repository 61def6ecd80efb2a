/-! what is kept: where the class looks at versions, the reference at bones and poses -/
theorem pz_fd_all {P : Int → Prop} [DecidablePred P] {n : Int} (h0 : 0 ≤ n) : (pz_fd (fun b => ¬ P b) 0 n.toNat = n) ↔ ∀ b : Int, 0 ≤ b → b < n → P b := by
  constructor
  · intro h b h1 h2
    exact Decidable.not_not.1 (pz_fd_no (c := fun b => ¬ P b) n.toNat 0 b h1 (by omega))
  · intro h
    have g := pz_fd_ge (c := fun b => ¬ P b) n.toNat 0
    by_cases c : pz_fd (fun b => ¬ P b) 0 n.toNat < n
    · exact absurd (h _ g.1 c) (pz_fd_yes (c := fun b => ¬ P b) n.toNat 0 (by omega))
    · omega
/-- pinned versions are there; versions have bones; what is kept at a rendered frame is that of the kept version -/
def pz_I (S : pz_S) : Prop := (∀ s a : Int, 0 ≤ s → s < 8 → 0 ≤ a → a < 8 → ¬ S 11 (8 * s + a) = 0 → a < S 1 0 ∧ S 12 (8 * s + a) < S 2 a) ∧ (∀ a v : Int, 0 ≤ a → a < 8 → 0 ≤ v → v < S 2 a → 1 ≤ S 3 (8 + 12 * a + v)) ∧ ∀ s f a : Int, 0 ≤ s → s < S 9 0 → 0 ≤ f → f < S 10 s → 0 ≤ a → a < 8 → ¬ S 16 (40 * s + f) = 0 → S 17 (8 * (40 * s + f) + a) < S 2 a ∧ S 18 (8 * (40 * s + f) + a) = (if S 17 (8 * (40 * s + f) + a) = -1 then 0 else S 3 (8 + 12 * a + S 17 (8 * (40 * s + f) + a))) ∧ ∀ b : Int, 0 ≤ b → b < S 18 (8 * (40 * s + f) + a) → iI (S 19 (10 * (8 * (40 * s + f) + a) + b)) = iI (pz_po S (8 + 12 * a + S 17 (8 * (40 * s + f) + a)) (S 15 (40 * s + f)) 10 b)
theorem pz_sv_lt {S : pz_S} (hI : pz_I S) {s f a : Int} (hs0 : 0 ≤ s) (hs1 : s < 8) (ha0 : 0 ≤ a) (ha1 : a < 8) (h2 : 0 ≤ S 2 a) : pz_sv S s f a < S 2 a := by
  have w := hI.1 s a hs0 hs1 ha0 ha1
  unfold pz_sv
  split
  · omega
  · rename_i h
    split
    · omega
    · exact (w (fun c => h (Or.inl c))).2
theorem pz_la_ak {S : pz_S} (hW : pz_W S) (hI : pz_I S) {s f a : Int} (hs0 : 0 ≤ s) (hs1 : s < S 9 0) (hf0 : 0 ≤ f) (hf1 : f < S 10 s) (ha0 : 0 ≤ a) (ha1 : a < 8) (ht : ¬ S 16 (40 * s + f) = 0) : pz_la S a (pz_kv S s f a) (pz_sv S s f a) (S 15 (40 * s + f)) ↔ pz_ak S s f a := by
  have w9 := pw_9 hW 0
  have w2 := pw_2 hW a
  have w15 := pw_15 hW (40 * s + f)
  have wk := pw_17 hW (8 * (40 * s + f) + a)
  have ws := pz_sv_r hW s f a
  have wl := pz_sv_lt (f := f) hI hs0 (by omega) ha0 ha1 w2.1
  have e : pz_kv S s f a = S 17 (8 * (40 * s + f) + a) := if_neg ht
  obtain ⟨i1, i2, i3⟩ := hI.2.2 s f a hs0 hs1 hf0 hf1 ha0 ha1 ht
  have hv := fun v => hI.2.1 a v ha0 ha1
  rw [e]
  generalize hk : S 17 (8 * (40 * s + f) + a) = kv at *
  generalize hn : S 18 (8 * (40 * s + f) + a) = nb at *
  unfold pz_la pz_ak pz_lk
  rw [hn]
  by_cases c : kv = pz_sv S s f a
  · refine ⟨fun _ => ?_, fun _ => Or.inl c⟩
    have eb : pz_sb S s f a = nb := by
      rw [i2]; unfold pz_sb; rw [← c]
    refine ⟨eb, ?_⟩
    rw [pz_fd_all (P := fun b => pz_ok S s f a b)]
    · intro b h1 h2
      have := i3 b h1 (by omega)
      unfold pz_ok
      rw [this, c]
    · rw [eb, i2]; split
      · omega
      · exact (pw_3 hW _).1
  · by_cases c1 : kv = -1
    · have c2 : ¬ pz_sv S s f a = -1 := fun h => c (c1.trans h.symm)
      have g := hv (pz_sv S s f a) (by omega) wl
      have eb : pz_sb S s f a = S 3 (8 + 12 * a + pz_sv S s f a) := if_neg c2
      have en : nb = 0 := by rw [i2, if_pos c1]
      refine ⟨fun h => ?_, fun h => ?_⟩
      · exact h.elim (fun h => absurd h c) (fun h => by have := h.1; omega)
      · have := h.1; omega
    · have en : nb = S 3 (8 + 12 * a + kv) := by rw [i2, if_neg c1]
      have gk := hv kv (by omega) i1
      by_cases c2 : pz_sv S s f a = -1
      · have eb : pz_sb S s f a = 0 := if_pos c2
        refine ⟨fun h => ?_, fun h => ?_⟩
        · exact h.elim (fun h => absurd h c) (fun h => by have := h.2.1; omega)
        · have := h.1; omega
      · have eb : pz_sb S s f a = S 3 (8 + 12 * a + pz_sv S s f a) := if_neg c2
        rw [eb]
        have g3 := pw_3 hW (8 + 12 * a + kv)
        have g4 := pw_3 hW (8 + 12 * a + pz_sv S s f a)
        rw [pz_fd_all (P := fun b => iI (pz_po S (8 + 12 * a + kv) (S 15 (40 * s + f)) 10 b) = iI (pz_po S (8 + 12 * a + pz_sv S s f a) (S 15 (40 * s + f)) 10 b)) g3.1, pz_fd_all (P := fun b => pz_ok S s f a b) g4.1]
        refine ⟨fun h => ?_, fun h => ?_⟩
        · refine h.elim (fun h => absurd h c) (fun h => ?_)
          obtain ⟨_, _, _, h1, h2⟩ := h
          refine ⟨by omega, fun b b1 b2 => ?_⟩
          exact (i3 b b1 (by omega)).trans (h2 b b1 (by omega))
        · refine Or.inr ⟨by omega, by omega, by omega, by omega, fun b b1 b2 => ?_⟩
          exact ((i3 b b1 (by omega)).symm).trans (h.2 b b1 (by omega))
