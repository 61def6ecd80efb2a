/-! class and reference side by side: one call -/
section
variable {σ σ' : mb_S} {S S' : pz_S} {ad ad' : rz_A} {Fo : Nat → Prop} {x m o : Nat} {T : Int}
theorem rz_cell1 {k : Nat} (h : k < 22) : ∃ e, pz_cell m T S k = some e := by
  rcases (show k = 0 ∨ k = 1 ∨ k = 2 ∨ k = 3 ∨ k = 4 ∨ k = 5 ∨ k = 6 ∨ k = 7 ∨ k = 8 ∨ k = 9 ∨ k = 10 ∨ k = 11 ∨ k = 12 ∨ k = 13 ∨ k = 14 ∨ k = 15 ∨ k = 16 ∨ k = 17 ∨ k = 18 ∨ k = 19 ∨ k = 20 ∨ k = 21 by omega) with e | e | e | e | e | e | e | e | e | e | e | e | e | e | e | e | e | e | e | e | e | e <;> subst e <;> exact ⟨_, rfl⟩
theorem rz_mpi {q : Nat} (h1 : m ≤ q) (h2 : q < m + 22) : (pz_mp σ m T S).1 q = pz_cell m T S (q - m) := by
  obtain ⟨e, he⟩ := rz_cell1 (m := m) (T := T) (S := S) (show q - m < 22 by omega)
  rw [he]
  have := pz_hp_k (h := σ.1) (m := m) he
  rw [show m + (q - m) = q by omega] at this
  exact this
theorem rz_mpo {q : Nat} (h : q < m ∨ m + 22 ≤ q) : (pz_mp σ m T S).1 q = σ.1 q := pz_hp_o h
theorem rz_mpF (h : pz_mp σ m T S = σ) (hs : ∀ q, m ≤ q → q < m + 22 → σ'.1 q = σ.1 q) : pz_mp σ' m T S = σ' := by
  refine Prod.ext ?_ rfl
  funext q
  by_cases c : m ≤ q ∧ q < m + 22
  · rw [rz_mpi c.1 c.2, hs q c.1 c.2, ← h, rz_mpi c.1 c.2]
  · exact rz_mpo (by omega)
theorem rz_mpI {T' : Int} : pz_mp (pz_mp σ m T S) m T' S' = pz_mp σ m T' S' := by
  refine Prod.ext ?_ rfl
  funext q
  by_cases c : m ≤ q ∧ q < m + 22
  · rw [rz_mpi c.1 c.2, rz_mpi c.1 c.2]
  · rw [rz_mpo (by omega), rz_mpo (by omega), rz_mpo (by omega)]
theorem rz_Rs (h : rz_R σ S ad Fo) (hs : ∀ q, ¬ Fo q → σ'.1 q = σ.1 q) (hn : σ.2.1 ≤ σ'.2.1) : rz_R σ' S ad Fo :=
  ⟨fun t i hl => ⟨by
    obtain ⟨e, e1, e2⟩ := (h.1 t i hl).1
    exact ⟨e, (hs _ (h.1 t i hl).2.2).trans e1, e2⟩, Nat.lt_of_lt_of_le (h.1 t i hl).2.1 hn, (h.1 t i hl).2.2⟩, h.2.1, fun q hq => Nat.lt_of_lt_of_le (h.2.2 q hq) hn⟩
/-- class and reference stand alike; o: the place of the latest answer -/
def rz_St (σ : mb_S) (S : pz_S) (ad : rz_A) (T : Int) (x m o : Nat) (Fo : Nat → Prop) : Prop := (rz_R σ S ad Fo ∧ ad 0 0 = x) ∧ rz_In S ∧ pz_mp σ m T S = σ ∧ ∃ g, σ.1 o = some (.inl (1, 1, .inr (.inl g)))
def rz_Fx (m o : Nat) (Fo : Nat → Prop) : Prop := (∀ q, m ≤ q → q < m + 22 → Fo q) ∧ Fo o ∧ (o < m ∨ m + 22 ≤ o)
def rz_Pk (σ : mb_S) (N : Int) (L y : Nat) (xs : List Value) (x m o : Nat) (Fo : Nat → Prop) (vf : Int → Int64) : Prop := ∃ (σ1 σ2 : mb_S) (S' : pz_S) (ad' : rz_A) (k r : Int), (∀ (d : Nat) (Q : mb_O → mb_S → Prop), 10 ≤ d → mb_Ex d L (.ref x :: (xs ++ [.ref o])) σ Q = Q (.inl (some (.int (iI k)))) σ1) ∧ (∀ (d : Nat) (Q : mb_O → mb_S → Prop), 10 ≤ d → mb_Ex d y (.ref m :: xs) σ1 Q = Q (.inl (some (.int (iI r)))) σ2) ∧ (∀ (d : Nat) (Q : mb_O → mb_S → Prop), mb_Ex d 85 [.ref m] σ2 Q = Q (.inl (some (.int (iI k)))) σ2) ∧ ((0 ≤ k ∧ k ≤ 3) ∧ (k = 0 → ∃ g, σ2.1 o = some (rz_o g (vf r)))) ∧ rz_St σ2 S' ad' k x m o Fo ∧ (∀ i, S' 16 i ≤ N + 1) ∧ (∀ q, Fo q → ¬ (m ≤ q ∧ q < m + 22) → q ≠ o → σ1.1 q = σ.1 q ∧ σ2.1 q = σ.1 q) ∧ ((∃ fl, σ1.1 m = some (.inr (8, fl))) ∧ ∃ fl, σ2.1 m = some (.inr (8, fl))) ∧ σ.2.1 ≤ σ2.2.1 ∧ σ2.2.1 ≤ σ.2.1 + 101 ∧ σ2.2.2 ≤ σ.2.2 + 1006
theorem rz_mpm : (pz_mp σ m T S).1 m = some (.inr (8, pz_fl m T S)) := by
  have := rz_mpi (σ := σ) (m := m) (T := T) (S := S) (Nat.le_refl m) (by omega)
  rw [Nat.sub_self] at this
  exact this
theorem rz_pk_ok {N r : Int} {L y : Nat} {xs : List Value} {vf : Int → Int64} (hF : rz_Fx m o Fo) (h : rz_St σ S ad T x m o Fo) (ha : ad' 0 0 = ad 0 0) (hR : rz_R σ' S' ad' Fo) (hf : rz_F Fo σ σ') (hI : rz_In S') (h16 : ∀ i, S' 16 i ≤ N + 1) (hL : ∀ g, σ'.1 o = some (.inl (1, 1, .inr (.inl g))) → ∀ (d : Nat) (Q : mb_O → mb_S → Prop), 10 ≤ d → mb_Ex d L (.ref x :: (xs ++ [.ref o])) σ Q = Q (.inl (some (.int (iI 0)))) (mb_up σ' o (rz_o g (vf r)))) (hy : ∀ (s : mb_S) (d : Nat) (Q : mb_O → mb_S → Prop), 10 ≤ d → mb_Ex d y (.ref m :: xs) (pz_mp s m T S) Q = Q (.inl (some (.int (iI r)))) (pz_mp s m 0 S')) : rz_Pk σ N L y xs x m o Fo vf := by
  obtain ⟨⟨h1, h2⟩, h3, h4, g, h5⟩ := h
  obtain ⟨f1, f2, f3⟩ := hF
  have g1 : σ'.1 o = some (.inl (1, 1, .inr (.inl g))) := (hf.1 o f2).trans h5
  have hL1 := hL g g1
  obtain ⟨σ1, σE⟩ : ∃ σ1 : mb_S, σ1 = mb_up σ' o (rz_o g (vf r)) := ⟨_, rfl⟩
  rw [← σE] at hL1
  have k1 : ∀ q, Fo q → q ≠ o → σ1.1 q = σ.1 q := fun q hq hqo => by rw [σE, gu_at hqo]; exact hf.1 q hq
  have k2 : pz_mp σ1 m T S = σ1 := rz_mpF h4 (fun q q1 q2 => k1 q (f1 q q1 q2) (by omega))
  have k3 : rz_R σ1 S' ad' Fo := rz_Rs hR (fun q hq => by rw [σE, gu_at (fun (e : q = o) => hq (by rw [e]; exact f2))]) (by rw [σE]; exact Nat.le_refl _)
  have k4 : rz_R (pz_mp σ1 m 0 S') S' ad' Fo := rz_Rs k3 (fun q hq => rz_mpo (by
    by_cases c : m ≤ q ∧ q < m + 22
    · exact absurd (f1 q c.1 c.2) hq
    · omega)) (Nat.le_refl _)
  have hm : ∃ fl, σ1.1 m = some (.inr (8, fl)) := ⟨_, by rw [← k2]; exact rz_mpm⟩
  have ko : (pz_mp σ1 m 0 S').1 o = some (rz_o g (vf r)) := by rw [rz_mpo f3, σE]; exact gu_ae
  have kn : σ1.2 = σ'.2 := by rw [σE]; rfl
  refine ⟨σ1, pz_mp σ1 m 0 S', S', ad', 0, r, hL1, fun d Q hd => ?_, fun d Q => pc_thrown, ⟨⟨by decide, by decide⟩, fun _ => ⟨g, ko⟩⟩, ⟨⟨k4, ha.trans h2⟩, hI, rz_mpI, _, ko⟩, h16, fun q hq hqm hqo => ⟨k1 q hq hqo, (rz_mpo (by omega)).trans (k1 q hq hqo)⟩, ⟨hm, _, rz_mpm⟩, ?_, ?_, ?_⟩
  · have := hy σ1 d Q hd
    rw [k2] at this
    exact this
  · show σ.2.1 ≤ σ1.2.1; rw [kn]; exact hf.2.1
  · show σ1.2.1 ≤ _; rw [kn]; have := hf.2.2.1; omega
  · show σ1.2.2 ≤ _; rw [kn]; have := hf.2.2.2; omega
theorem rz_pk_thr {N k : Int} {L y : Nat} {xs : List Value} {vf : Int → Int64} (hF : rz_Fx m o Fo) (h : rz_St σ S ad T x m o Fo) (hk : 1 ≤ k ∧ k ≤ 3) (h16 : ∀ i, S 16 i ≤ N) (hL : ∀ (d : Nat) (Q : mb_O → mb_S → Prop), 10 ≤ d → mb_Ex d L (.ref x :: (xs ++ [.ref o])) σ Q = Q (.inl (some (.int (iI k)))) (mb_th σ)) (hy : ∀ (s : mb_S) (d : Nat) (Q : mb_O → mb_S → Prop), 10 ≤ d → mb_Ex d y (.ref m :: xs) (pz_mp s m T S) Q = Q (.inl (some (.int (iI 0)))) (pz_mp s m k S)) : rz_Pk σ N L y xs x m o Fo vf := by
  obtain ⟨⟨h1, h2⟩, h3, h4, g, h5⟩ := h
  obtain ⟨f1, f2, f3⟩ := hF
  have k1 : ∀ q, (mb_th σ).1 q = σ.1 q := fun q => rfl
  have k2 : pz_mp (mb_th σ) m T S = mb_th σ := rz_mpF h4 (fun q _ _ => rfl)
  have k3 : rz_R (mb_th σ) S ad Fo := rz_Rs h1 (fun q _ => rfl) (Nat.le_succ _)
  have k4 : rz_R (pz_mp (mb_th σ) m k S) S ad Fo := rz_Rs k3 (fun q hq => rz_mpo (by
    by_cases c : m ≤ q ∧ q < m + 22
    · exact absurd (f1 q c.1 c.2) hq
    · omega)) (Nat.le_refl _)
  have hm : ∃ fl, (mb_th σ).1 m = some (.inr (8, fl)) := ⟨_, by rw [← k2]; exact rz_mpm⟩
  have ko : (pz_mp (mb_th σ) m k S).1 o = some (.inl (1, 1, .inr (.inl g))) := by rw [rz_mpo f3]; exact h5
  refine ⟨mb_th σ, pz_mp (mb_th σ) m k S, S, ad, k, 0, hL, fun d Q hd => ?_, fun d Q => pc_thrown, ⟨by omega, fun e => by omega⟩, ⟨⟨k4, h2⟩, h3, rz_mpI, _, ko⟩, fun i => by have := h16 i; omega, fun q hq hqm hqo => ⟨rfl, rz_mpo (by omega)⟩, ⟨hm, _, rz_mpm⟩, ?_, ?_, ?_⟩
  · have := hy (mb_th σ) d Q hd
    rw [k2] at this
    exact this
  · show σ.2.1 ≤ σ.2.1 + 1; omega
  · show σ.2.1 + 1 ≤ _; omega
  · show σ.2.2 + 6 ≤ _; omega
theorem rz_Fr0 : rz_F Fo σ σ := ⟨fun _ _ => rfl, Nat.le_refl _, by omega, by omega⟩
def rz_vi1 (r : Int) : Int64 := (iI r).toInt64
def rz_vb (r : Int) : Int64 := if iI r = iI 0 then 0 else 1
theorem rz_vbe {r : Int} (h : r = 0 ∨ r = 1) : rz_vb r = if r = 0 then (0 : Int64) else 1 := by
  rcases h with e | e <;> subst e <;> rfl
end
