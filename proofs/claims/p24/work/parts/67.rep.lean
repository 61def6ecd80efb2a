/-! from the cells to the class as its methods read it -/
section
variable {σ σ' : mb_S} {S S' : pz_S} {ad ad' : rz_A} {Fo : Nat → Prop}
theorem rz_rlD (hW : pz_W S) {a : Int} (h1 : 0 ≤ a) (h2 : a < S 1 0) : rz_rl S a := by
  have w := pw_1 hW 0
  exact ⟨h1, by omega, fun _ => h2, fun k => by omega⟩
theorem rz_rlV (hW : pz_W S) {a v : Int} (h1 : 0 ≤ a) (h2 : a < S 1 0) (h3 : 0 ≤ v) (h4 : v < S 2 a) : rz_rl S (8 + 12 * a + v) := by
  have w := pw_1 hW 0
  have w2 := pw_2 hW a
  have e1 : (8 + 12 * a + v - 8) / 12 = a := by omega
  have e2 : (8 + 12 * a + v - 8) % 12 = v := by omega
  exact ⟨by omega, by omega, fun k => by omega, fun _ => by rw [e1, e2]; exact ⟨h2, h4⟩⟩
theorem rz_lc (hW : pz_W S) {r b : Int} (hr : rz_rl S r) (h3 : 0 ≤ b) (h4 : b < S 3 r) : rz_rl S ((10 * r + b) / 10) ∧ (10 * r + b) % 10 < S 3 ((10 * r + b) / 10) := by
  have w := pw_3 hW r
  have e1 : (10 * r + b) / 10 = r := by omega
  have e2 : (10 * r + b) % 10 = b := by omega
  rw [e1, e2]
  exact ⟨hr, h4⟩
theorem rz_lf (hW : pz_W S) {s f : Int} (h1 : 0 ≤ s) (h2 : s < S 9 0) (h3 : 0 ≤ f) (h4 : f < S 10 s) : 0 ≤ 40 * s + f ∧ (40 * s + f) / 40 < S 9 0 ∧ (40 * s + f) % 40 < S 10 ((40 * s + f) / 40) := by
  have w := pw_10 hW s
  have e1 : (40 * s + f) / 40 = s := by omega
  have e2 : (40 * s + f) % 40 = f := by omega
  rw [e1, e2]
  exact ⟨by omega, h2, h4⟩
theorem rz_la {s a : Int} (h1 : 0 ≤ s) (h2 : s < S 9 0) (h3 : 0 ≤ a) (h4 : a < 8) (h5 : ¬ S 11 (8 * s + a) = 0) : 0 ≤ 8 * s + a ∧ (8 * s + a) / 8 < S 9 0 ∧ ¬ S 11 (8 * s + a) = 0 := by
  have e1 : (8 * s + a) / 8 = s := by omega
  rw [e1]
  exact ⟨by omega, h2, h5⟩
theorem rz_get (h : rz_R σ S ad Fo) {t : Nat} {i : Int} (hl : rz_lv S t i) : ∃ e, σ.1 (ad t i) = some e ∧ rz_cp S ad t i e := (h.1 t i hl).1
theorem rz_geq (h : rz_R σ S ad Fo) {t : Nat} {i : Int} {c : va_E} (hl : rz_lv S t i) (he : ∀ e, rz_cp S ad t i e → e = c) : σ.1 (ad t i) = some c := by
  obtain ⟨e, e1, e2⟩ := rz_get h hl
  rw [e1, he e e2]
theorem rz_gai (h : rz_R σ S ad Fo) {t : Nat} {i : Int} {n : Nat} {F : Int → Int} (hl : rz_lv S t i) (he : ∀ e, rz_cp S ad t i e → rz_ai e n F) : pz_Ar σ (ad t i) n F := by
  obtain ⟨e, e1, e2⟩ := rz_get h hl
  obtain ⟨g, g1, g2⟩ := he e e2
  exact ⟨g, by rw [e1, g1], g2⟩
theorem rz_gaq (h : rz_R σ S ad Fo) {t : Nat} {i : Int} {kd n : Nat} {lo : Int} {F : Int → Option Nat} (hl : rz_lv S t i) (he : ∀ e, rz_cp S ad t i e → rz_aq e kd n lo F) : ∃ g, σ.1 (ad t i) = some (.inl (kd, n, .inr (.inr (.inr (.inr g))))) ∧ ∀ j : Int, 0 ≤ j → j < lo → g (iI j).toNatClampNeg = F j := by
  obtain ⟨e, e1, e2⟩ := rz_get h hl
  obtain ⟨g, g1, g2⟩ := he e e2
  exact ⟨g, by rw [e1, g1], g2⟩
theorem rz_Cv (h : rz_R σ S ad Fo) {B : Int} (hl : rz_rl S (B / 10) ∧ B % 10 < S 3 (B / 10)) : pz_Cv σ S B (ad 10 B) (ad 11 B) (ad 12 B) (ad 13 B) :=
  ⟨rz_geq h (t := 10) hl (fun _ k => k), rz_gai h (t := 11) hl (fun _ k => k), rz_gai h (t := 12) hl (fun _ k => k), rz_gai h (t := 13) hl (fun _ k => k)⟩
abbrev rz_ac (ad : rz_A) (r b : Int) : Nat × Nat × Nat × Nat := (ad 10 (10 * r + b), ad 11 (10 * r + b), ad 12 (10 * r + b), ad 13 (10 * r + b))
abbrev rz_rp (ad : rz_A) (r : Int) : Nat × Nat × Nat × Nat := (ad 6 r, ad 7 r, ad 8 r, ad 9 r)
theorem rz_Rg (hW : pz_W S) (h : rz_R σ S ad Fo) {r : Int} (hr : rz_rl S r) : pz_Rg σ S r (ad 6 r) (ad 7 r) (ad 8 r) (if r < 8 then .null else .ref (ad 9 r)) (rz_ac ad r) := by
  refine ⟨rz_geq h (t := 6) hr (fun _ k => k), rz_gai h (t := 7) hr (fun _ k => k), ?_⟩
  obtain ⟨g, g1, g2⟩ := rz_gaq h (t := 8) hr (fun _ k => k)
  exact ⟨g, g1, fun b b1 b2 => ⟨g2 b b1 b2, rz_Cv h (rz_lc hW hr b1 b2)⟩⟩
theorem rz_Tb (h : rz_R σ S ad Fo) {r : Int} (hr : rz_rl S r) (h8 : 8 ≤ r) : pz_Tb σ S r (ad 9 r) := by
  obtain ⟨e, e1, e2⟩ := rz_get h (t := 9) (i := r) ⟨hr, h8⟩
  obtain ⟨g, N, g1, g2, g3⟩ := e2
  exact ⟨g, N, by rw [e1, g1], g2, g3⟩
theorem rz_As (hW : pz_W S) (h : rz_R σ S ad Fo) {a : Int} (h1 : 0 ≤ a) (h2 : a < S 1 0) : pz_As σ S a (ad 4 a) (ad 5 a) (rz_rp ad) (rz_ac ad) := by
  have w := pw_1 hW 0
  have k := rz_Rg hW h (rz_rlD hW h1 h2)
  rw [if_pos (by omega)] at k
  refine ⟨rz_geq h (t := 4) ⟨h1, h2⟩ (fun _ k => k), k, ?_⟩
  obtain ⟨g, g1, g2⟩ := rz_gaq h (t := 5) (i := a) ⟨h1, h2⟩ (fun _ k => k)
  refine ⟨g, g1, fun v v1 v2 => ⟨g2 v v1 v2, ?_, rz_Tb h (rz_rlV hW h1 h2 v1 v2) (by omega)⟩⟩
  have k := rz_Rg hW h (rz_rlV hW h1 h2 v1 v2)
  rw [if_neg (by omega)] at k
  exact k
abbrev rz_af (ad : rz_A) (s f : Int) : Nat × Nat := (ad 17 (40 * s + f), ad 18 (40 * s + f))
theorem rz_Fr (h : rz_R σ S ad Fo) {s f : Int} (hl : 0 ≤ 40 * s + f ∧ (40 * s + f) / 40 < S 9 0 ∧ (40 * s + f) % 40 < S 10 ((40 * s + f) / 40)) : pz_Fr σ S s f (ad 17 (40 * s + f)) (ad 18 (40 * s + f)) :=
  ⟨rz_geq h (t := 17) hl (fun _ k => k), rz_gai h (t := 18) hl (fun _ k => k)⟩
theorem rz_Sc (hW : pz_W S) (h : rz_R σ S ad Fo) {s : Int} (h1 : 0 ≤ s) (h2 : s < S 9 0) : pz_Sc σ S s (ad 14 s) (ad 15 s) (ad 16 s) (rz_af ad s) (fun a => ad 19 (8 * s + a)) := by
  refine ⟨rz_geq h (t := 14) ⟨h1, h2⟩ (fun _ k => k), ?_, ?_⟩
  · obtain ⟨g, g1, g2⟩ := rz_gaq h (t := 15) (i := s) ⟨h1, h2⟩ (fun _ k => k)
    exact ⟨g, g1, fun i i1 i2 => ⟨g2 i i1 i2, rz_Fr h (rz_lf hW h1 h2 i1 i2)⟩⟩
  · obtain ⟨g, g1, g2⟩ := rz_gaq h (t := 16) (i := s) ⟨h1, h2⟩ (fun _ k => k)
    exact ⟨g, g1, fun a a1 a2 => ⟨g2 a a1 a2, fun k => rz_geq h (t := 19) (rz_la h1 h2 a1 a2 k) (fun _ k => k)⟩⟩
theorem rz_C (hW : pz_W S) (h : rz_R σ S ad Fo) : pz_C σ S (ad 0 0) (ad 1 0) (ad 2 0) (ad 3 0) (fun a => (ad 4 a, ad 5 a)) (rz_rp ad) (rz_ac ad) (fun s => (ad 14 s, ad 15 s, ad 16 s)) (rz_af ad) (fun s a => ad 19 (8 * s + a)) (ad 20) := by
  refine ⟨rz_geq h (t := 0) rfl (fun _ k => k), ?_, ?_, ?_⟩
  · obtain ⟨g, g1, g2⟩ := rz_gaq h (t := 1) (i := 0) rfl (fun _ k => k)
    exact ⟨g, g1, fun a a1 a2 => ⟨g2 a a1 a2, rz_As hW h a1 a2⟩⟩
  · obtain ⟨g, g1, g2⟩ := rz_gaq h (t := 2) (i := 0) rfl (fun _ k => k)
    exact ⟨g, g1, fun s s1 s2 => ⟨g2 s s1 s2, rz_Sc hW h s1 s2⟩⟩
  · obtain ⟨g, g1, g2⟩ := rz_gaq h (t := 3) (i := 0) rfl (fun _ k => k)
    exact ⟨g, g1, fun n n1 n2 => ⟨g2 n n1 n2, rz_geq h (t := 20) (i := n) ⟨n1, n2⟩ (fun _ k => k)⟩⟩
end
