/-! p24: the law's loop (written by wip/p24/gen/q99.py) -/
section
variable {σ σ1 : mb_S} {S S1 : pz_S} {ad ad1 : rz_A} {Fo : Nat → Prop} {x a0 n sA bA fA vA dA : Nat} {g gs gb gf gv gd : Nat → Int32} {nt lk tn t y dd a sc : Int} {l16 l17 l18 l19 : Option Value}
theorem lt_turn (hA : ll_Ad Fo a0 sA bA fA vA dA) (hS : ll_S Fo x a0 n sA bA fA vA dA σ S ad g gs gb gf gv gd t nt lk) (y0 : 0 ≤ y) (y1 : y ≤ 134217727) (d0 : 0 ≤ dd) (d1 : dd ≤ 31) (b0 : 0 ≤ a) (b1 : a < 2) (c0 : 0 ≤ sc) (c1 : sc < 2) (t0 : 0 ≤ t) (t1 : t ≤ 250) (hat : t < 2 → dd = 0 ∧ a = t) : ll_T Fo x a0 n sA bA fA vA dA g 198 σ nt lk tn t y dd a sc l16 l17 l18 l19 := by
  obtain ⟨hR, hx0, hIn, hI⟩ := id hS.1
  have hnt := hS.2.2.1.1
  have w2 := pw_2 hIn.1 a
  have w3 := pw_3 hIn.1 a
  have w21 := pw_21 hIn.1 0
  have u := hS.2.2.2 a b0 b1
  have cv := hS.2.1.1.2.2.2.2.1
  have cd := hS.2.1.1.2.2.2.2.2
  have n2 := hS.2.1.2.1.2.1 a b0 b1
  have n3 := hS.2.1.2.1.2.2 a b0 b1
  by_cases e1 : dd < 3 ∧ S 3 a < 3
  · exact lt_bone hA hS y0 y1 d0 d1 b0 b1 c0 c1 t0 t1 (fun h => (hat h).2) e1.1 e1.2
  · have ht : 2 ≤ t := by
      by_cases c : 2 ≤ t
      · exact c
      · have g := hat (by omega)
        have := u.2 (by omega)
        exact absurd ⟨by omega, by omega⟩ e1
    refine ll_go (p' := 264) ?_ (fun d Q hd => la_264 hd y0 y1 d0 d1 b0 b1 c0 c1 e1 w3.1 w3.2 cd n3)
    by_cases e2 : dd < 11
    · exact lt_key hA hS y0 y1 d0 d1 b0 b1 c0 c1 t0 t1 ht e2
    · refine ll_go (p' := 375) ?_ (fun d Q hd => la_375 hd y0 y1 d0 d1 b0 b1 c0 c1 (by omega))
      by_cases e3 : dd < 13
      · exact lt_unkey hA hS y0 y1 d0 d1 b0 b1 c0 c1 t0 t1 ht e3
      · refine ll_go (p' := 460) ?_ (fun d Q hd => la_460 hd y0 y1 d0 d1 b0 b1 c0 c1 (by omega))
        by_cases e4 : dd < 16 ∧ S 2 a < 12
        · exact lt_publish hA hS y0 y1 d0 d1 b0 b1 c0 c1 t0 t1 ht e4.1 e4.2
        · refine ll_go (p' := 558) ?_ (fun d Q hd => la_558 hd y0 y1 d0 d1 b0 b1 c0 c1 e4 w2.1 w2.2 cv n2)
          by_cases e5 : dd < 19
          · exact lt_cast hA hS y0 y1 d0 d1 b0 b1 c0 c1 t0 t1 ht e5
          · refine ll_go (p' := 639) ?_ (fun d Q hd => la_639 hd y0 y1 d0 d1 b0 b1 c0 c1 (by omega))
            by_cases e6 : dd = 19
            · exact lt_cut hA hS y0 y1 d0 d1 b0 b1 c0 c1 t0 t1 ht e6
            · refine ll_go (p' := 765) ?_ (fun d Q hd => la_765 hd y0 y1 d0 d1 b0 b1 c0 c1 (by omega))
              by_cases e7 : dd < 22 ∧ nt < 40
              · exact lt_note hA hS y0 y1 d0 d1 b0 b1 c0 c1 t0 t1 ht e7.1 e7.2
              · refine ll_go (p' := 818) ?_ (fun d Q hd => la_818 hd y0 y1 d0 d1 b0 b1 c0 c1 e7 (by omega) (by omega))
                by_cases e8 : dd = 22 ∧ 0 < nt
                · exact lt_settle hA hS y0 y1 d0 d1 b0 b1 c0 c1 t0 t1 ht e8.1 e8.2
                · refine ll_go (p' := 920) ?_ (fun d Q hd => la_920 hd y0 y1 d0 d1 b0 b1 c0 c1 e8 (by omega) (by omega))
                  by_cases e9 : dd < 25
                  · exact lt_one hA hS y0 y1 d0 d1 b0 b1 c0 c1 t0 t1 ht e9
                  · refine ll_go (p' := 1036) ?_ (fun d Q hd => la_1036 hd y0 y1 d0 d1 b0 b1 c0 c1 (by omega))
                    exact lt_look hA hS y0 y1 d0 d1 b0 b1 c0 c1 t0 t1 ht (by omega)
end
theorem lw_loop {Fo : Nat → Prop} {x a0 n sA bA fA vA dA : Nat} {g : Nat → Int32} {tn : Int} (hA : ll_Ad Fo a0 sA bA fA vA dA) (hn : n ≤ 260) (tn1 : tn ≤ 250) : ∀ (K : Nat) (t nt lk : Int) (σ : mb_S) (S : pz_S) (ad : rz_A) (gs gb gf gv gd : Nat → Int32) (l12 l13 l14 l15 l16 l17 l18 l19 : Option Value), ll_S Fo x a0 n sA bA fA vA dA σ S ad g gs gb gf gv gd t nt lk → 0 ≤ t → t + K = tn → ∃ σ', (σ.2.1 ≤ σ'.2.1 ∧ σ'.2.1 ≤ σ.2.1 + 200 * K ∧ σ'.2.2 ≤ σ.2.2 + 2000 * K) ∧ ∀ (d : Nat) (Q : mb_O → mb_S → Prop), 12 ≤ d → mb_Rn d 90 127 [some (.ref a0), some (.ref x), some (.ref sA), some (.ref bA), some (.ref fA), some (.ref vA), some (.ref dA), some (.int (iI nt)), some (.int (iI lk)), some (.int (iI 1)), some (.int (iI tn)), some (.int (iI t)), l12, l13, l14, l15, l16, l17, l18, l19] [] σ Q = Q (.inl (some (.int (iI 1)))) σ' := by
  intro K
  induction K with
  | zero =>
    intro t nt lk σ S ad gs gb gf gv gd l12 l13 l14 l15 l16 l17 l18 l19 hS t0 tK
    exact ⟨σ, ⟨Nat.le_refl _, by omega, by omega⟩, fun d Q hd => la_end hd t0 (by omega) (by omega) (by omega)⟩
  | succ K ih =>
    intro t nt lk σ S ad gs gb gf gv gd l12 l13 l14 l15 l16 l17 l18 l19 hS t0 tK
    obtain ⟨v, hv⟩ := lk_draw (k := t) hS.2.1.1.1 hn t0 (by omega)
    obtain ⟨y, y0, y1, ey⟩ := lb_and (v >>> (iI 5 &&& 31)) 134217727 134217727 (by decide +kernel) (by omega)
    obtain ⟨j, j0, j1, ej⟩ := lb_and v 31 31 (by decide +kernel) (by omega)
    obtain ⟨k, k0, k1, ek⟩ := lb_and (iI y) (iI 1) 1 (by decide +kernel) (by omega)
    obtain ⟨sc, c0, c1, ec⟩ := lb_and (iI (y / 2)) (iI 1) 1 (by decide +kernel) (by omega)
    obtain ⟨dd, hdd⟩ : ∃ dd : Int, dd = if t < 2 then 0 else j := ⟨_, rfl⟩
    obtain ⟨a, haa⟩ : ∃ a : Int, a = if t < 2 then t else k := ⟨_, rfl⟩
    have hat : t < 2 → dd = 0 ∧ a = t := fun h => by
      rw [if_pos h] at hdd haa
      exact ⟨hdd, haa⟩
    have rd : 0 ≤ dd ∧ dd ≤ 31 := by
      rw [hdd]
      split <;> omega
    have ra : 0 ≤ a ∧ a < 2 := by
      rw [haa]
      split <;> omega
    obtain ⟨σ1, S1, ad1, gs1, gb1, gf1, gv1, gd1, nt1, lk1, m16, m17, m18, m19, h1, ⟨h2, h3, h4⟩, h5⟩ := lt_turn (tn := tn) (l16 := l16) (l17 := l17) (l18 := l18) (l19 := l19) hA hS y0 y1 rd.1 rd.2 ra.1 ra.2 c0 (by omega) t0 (by omega) hat
    obtain ⟨σ2, ⟨r1, r2, r3⟩, r4⟩ := ih (t + 1) nt1 lk1 σ1 S1 ad1 gs1 gb1 gf1 gv1 gd1 (some (.int (iI y))) (some (.int (iI dd))) (some (.int (iI a))) (some (.int (iI sc))) m16 m17 m18 m19 h1 (by omega) (by omega)
    exact ⟨σ2, ⟨by omega, by omega, by omega⟩, fun d Q hd => (la_head hd t0 (by omega) (by omega) hv y0 y1 ey ej ek ec hdd haa).trans ((h5 d Q hd).trans (la_next.trans (r4 d Q hd)))⟩
