/-! the reference: its constructor -/
def pz_ar : Nat → Option (Nat × Nat)
  | 1 => some (0, 8)
  | 2 => some (0, 104)
  | 3 => some (0, 1040)
  | 4 => some (0, 1040)
  | 5 => some (0, 12480)
  | 6 => some (0, 12480)
  | 7 => some (0, 12480)
  | 8 => some (0, 8)
  | 9 => some (2, 64)
  | 10 => some (0, 64)
  | 11 => some (0, 64)
  | 12 => some (0, 64)
  | 13 => some (0, 320)
  | 14 => some (0, 320)
  | 15 => some (0, 2560)
  | 16 => some (0, 2560)
  | 17 => some (0, 25600)
  | 18 => some (0, 40)
  | 19 => some (0, 40)
  | 20 => some (2, 40)
  | 21 => some (0, 40)
  | _ => none
def pz_zc (k : Nat) : Option va_E := match pz_ar k with
  | some x => some (.inl (x.1, x.2, .inl (fun _ => 0)))
  | none => none
def pz_sl : Nat → Nat
  | 0 => 0
  | k + 1 => pz_sl k + (match pz_ar (k + 1) with
    | some x => x.2
    | none => 0)
def pz_ifl (m k : Nat) : List Value := [.int 0, .int 0, bif Nat.ble 1 k then .ref (m + 1) else .null, bif Nat.ble 2 k then .ref (m + 2) else .null, bif Nat.ble 3 k then .ref (m + 3) else .null, bif Nat.ble 4 k then .ref (m + 4) else .null, bif Nat.ble 5 k then .ref (m + 5) else .null, bif Nat.ble 6 k then .ref (m + 6) else .null, bif Nat.ble 7 k then .ref (m + 7) else .null, .int 0, bif Nat.ble 8 k then .ref (m + 8) else .null, bif Nat.ble 9 k then .ref (m + 9) else .null, bif Nat.ble 10 k then .ref (m + 10) else .null, bif Nat.ble 11 k then .ref (m + 11) else .null, bif Nat.ble 12 k then .ref (m + 12) else .null, bif Nat.ble 13 k then .ref (m + 13) else .null, bif Nat.ble 14 k then .ref (m + 14) else .null, bif Nat.ble 15 k then .ref (m + 15) else .null, bif Nat.ble 16 k then .ref (m + 16) else .null, bif Nat.ble 17 k then .ref (m + 17) else .null, .int 0, .int 0, bif Nat.ble 18 k then .ref (m + 18) else .null, bif Nat.ble 19 k then .ref (m + 19) else .null, bif Nat.ble 20 k then .ref (m + 20) else .null, bif Nat.ble 21 k then .ref (m + 21) else .null]
def pz_ip (σ : mb_S) (m k : Nat) : mb_S := (fun q => if q = m then some (.inr (8, pz_ifl m k)) else if m < q ∧ q ≤ m + k then pz_zc (q - m) else σ.1 q, m + 1 + k, σ.2.2 + pz_sl k)
theorem pz_ipg {α : Type} {σ : mb_S} {m k n : Nat} {e : va_E} {bad : α} {K : List Value → α} : mb_gf (mb_al (pz_ip σ m k) e n) m 8 bad K = K (pz_ifl m k) := by
  refine pz_gf ?_
  show (if m = m + 1 + k then _ else if m = m then _ else _) = _
  rw [if_neg (by omega), if_pos rfl]
theorem pz_ipu {σ : mb_S} {m k n : Nat} {e : va_E} {fl : List Value} (hc : pz_zc (k + 1) = some e) (hn : pz_sl (k + 1) = pz_sl k + n) (hf : fl = pz_ifl m (k + 1)) : mb_up (mb_al (pz_ip σ m k) e n) m (.inr (8, fl)) = pz_ip σ m (k + 1) := by
  have h1 : σ.2.2 + pz_sl (k + 1) = σ.2.2 + pz_sl k + n := by omega
  show (_, m + 1 + k + 1, σ.2.2 + pz_sl k + n) = (_, m + 1 + (k + 1), σ.2.2 + pz_sl (k + 1))
  rw [h1]
  refine congrArg (fun z => (z, m + 1 + k + 1, σ.2.2 + pz_sl k + n)) (funext fun q => ?_)
  by_cases c1 : q = m
  · rw [if_pos c1, if_pos c1, hf]
  · rw [if_neg c1, if_neg c1]
    show (if q = m + 1 + k then some e else if q = m then _ else if m < q ∧ q ≤ m + k then pz_zc (q - m) else σ.1 q) = _
    by_cases c2 : q = m + 1 + k
    · rw [if_pos c2, if_pos (by omega), show q - m = k + 1 by omega, hc]
    · rw [if_neg c2, if_neg c1]
      by_cases c3 : m < q ∧ q ≤ m + k
      · rw [if_pos c3, if_pos (by omega)]
      · rw [if_neg c3, if_neg (by omega)]
theorem pz_ipn {σ : mb_S} {m k : Nat} : (pz_ip σ m k).2.1 = m + 1 + k := rfl
theorem pz_ipl {m k : Nat} : (pz_ifl m k).length = 26 := rfl
theorem pz_ip0 {σ : mb_S} {m : Nat} : mb_up (mb_al (pz_ip σ m 0) (.inl (0, 8, .inl (fun _ => 0))) 8) m (.inr (8, (pz_ifl m 0).set 2 (.ref (m + 1 + 0)))) = pz_ip σ m 1 := pz_ipu rfl rfl (by rw [show m + 1 + 0 = m + 1 by omega]; rfl)
theorem pz_ip1 {σ : mb_S} {m : Nat} : mb_up (mb_al (pz_ip σ m 1) (.inl (0, 104, .inl (fun _ => 0))) 104) m (.inr (8, (pz_ifl m 1).set 3 (.ref (m + 1 + 1)))) = pz_ip σ m 2 := pz_ipu rfl rfl (by rw [show m + 1 + 1 = m + 2 by omega]; rfl)
theorem pz_ip2 {σ : mb_S} {m : Nat} : mb_up (mb_al (pz_ip σ m 2) (.inl (0, 1040, .inl (fun _ => 0))) 1040) m (.inr (8, (pz_ifl m 2).set 4 (.ref (m + 1 + 2)))) = pz_ip σ m 3 := pz_ipu rfl rfl (by rw [show m + 1 + 2 = m + 3 by omega]; rfl)
theorem pz_ip3 {σ : mb_S} {m : Nat} : mb_up (mb_al (pz_ip σ m 3) (.inl (0, 1040, .inl (fun _ => 0))) 1040) m (.inr (8, (pz_ifl m 3).set 5 (.ref (m + 1 + 3)))) = pz_ip σ m 4 := pz_ipu rfl rfl (by rw [show m + 1 + 3 = m + 4 by omega]; rfl)
theorem pz_ip4 {σ : mb_S} {m : Nat} : mb_up (mb_al (pz_ip σ m 4) (.inl (0, 12480, .inl (fun _ => 0))) 12480) m (.inr (8, (pz_ifl m 4).set 6 (.ref (m + 1 + 4)))) = pz_ip σ m 5 := pz_ipu rfl rfl (by rw [show m + 1 + 4 = m + 5 by omega]; rfl)
theorem pz_ip5 {σ : mb_S} {m : Nat} : mb_up (mb_al (pz_ip σ m 5) (.inl (0, 12480, .inl (fun _ => 0))) 12480) m (.inr (8, (pz_ifl m 5).set 7 (.ref (m + 1 + 5)))) = pz_ip σ m 6 := pz_ipu rfl rfl (by rw [show m + 1 + 5 = m + 6 by omega]; rfl)
theorem pz_ip6 {σ : mb_S} {m : Nat} : mb_up (mb_al (pz_ip σ m 6) (.inl (0, 12480, .inl (fun _ => 0))) 12480) m (.inr (8, (pz_ifl m 6).set 8 (.ref (m + 1 + 6)))) = pz_ip σ m 7 := pz_ipu rfl rfl (by rw [show m + 1 + 6 = m + 7 by omega]; rfl)
theorem pz_ip7 {σ : mb_S} {m : Nat} : mb_up (mb_al (pz_ip σ m 7) (.inl (0, 8, .inl (fun _ => 0))) 8) m (.inr (8, (pz_ifl m 7).set 10 (.ref (m + 1 + 7)))) = pz_ip σ m 8 := pz_ipu rfl rfl (by rw [show m + 1 + 7 = m + 8 by omega]; rfl)
theorem pz_ip8 {σ : mb_S} {m : Nat} : mb_up (mb_al (pz_ip σ m 8) (.inl (2, 64, .inl (fun _ => 0))) 64) m (.inr (8, (pz_ifl m 8).set 11 (.ref (m + 1 + 8)))) = pz_ip σ m 9 := pz_ipu rfl rfl (by rw [show m + 1 + 8 = m + 9 by omega]; rfl)
theorem pz_ip9 {σ : mb_S} {m : Nat} : mb_up (mb_al (pz_ip σ m 9) (.inl (0, 64, .inl (fun _ => 0))) 64) m (.inr (8, (pz_ifl m 9).set 12 (.ref (m + 1 + 9)))) = pz_ip σ m 10 := pz_ipu rfl rfl (by rw [show m + 1 + 9 = m + 10 by omega]; rfl)
theorem pz_ip10 {σ : mb_S} {m : Nat} : mb_up (mb_al (pz_ip σ m 10) (.inl (0, 64, .inl (fun _ => 0))) 64) m (.inr (8, (pz_ifl m 10).set 13 (.ref (m + 1 + 10)))) = pz_ip σ m 11 := pz_ipu rfl rfl (by rw [show m + 1 + 10 = m + 11 by omega]; rfl)
theorem pz_ip11 {σ : mb_S} {m : Nat} : mb_up (mb_al (pz_ip σ m 11) (.inl (0, 64, .inl (fun _ => 0))) 64) m (.inr (8, (pz_ifl m 11).set 14 (.ref (m + 1 + 11)))) = pz_ip σ m 12 := pz_ipu rfl rfl (by rw [show m + 1 + 11 = m + 12 by omega]; rfl)
theorem pz_ip12 {σ : mb_S} {m : Nat} : mb_up (mb_al (pz_ip σ m 12) (.inl (0, 320, .inl (fun _ => 0))) 320) m (.inr (8, (pz_ifl m 12).set 15 (.ref (m + 1 + 12)))) = pz_ip σ m 13 := pz_ipu rfl rfl (by rw [show m + 1 + 12 = m + 13 by omega]; rfl)
theorem pz_ip13 {σ : mb_S} {m : Nat} : mb_up (mb_al (pz_ip σ m 13) (.inl (0, 320, .inl (fun _ => 0))) 320) m (.inr (8, (pz_ifl m 13).set 16 (.ref (m + 1 + 13)))) = pz_ip σ m 14 := pz_ipu rfl rfl (by rw [show m + 1 + 13 = m + 14 by omega]; rfl)
theorem pz_ip14 {σ : mb_S} {m : Nat} : mb_up (mb_al (pz_ip σ m 14) (.inl (0, 2560, .inl (fun _ => 0))) 2560) m (.inr (8, (pz_ifl m 14).set 17 (.ref (m + 1 + 14)))) = pz_ip σ m 15 := pz_ipu rfl rfl (by rw [show m + 1 + 14 = m + 15 by omega]; rfl)
theorem pz_ip15 {σ : mb_S} {m : Nat} : mb_up (mb_al (pz_ip σ m 15) (.inl (0, 2560, .inl (fun _ => 0))) 2560) m (.inr (8, (pz_ifl m 15).set 18 (.ref (m + 1 + 15)))) = pz_ip σ m 16 := pz_ipu rfl rfl (by rw [show m + 1 + 15 = m + 16 by omega]; rfl)
theorem pz_ip16 {σ : mb_S} {m : Nat} : mb_up (mb_al (pz_ip σ m 16) (.inl (0, 25600, .inl (fun _ => 0))) 25600) m (.inr (8, (pz_ifl m 16).set 19 (.ref (m + 1 + 16)))) = pz_ip σ m 17 := pz_ipu rfl rfl (by rw [show m + 1 + 16 = m + 17 by omega]; rfl)
theorem pz_ip17 {σ : mb_S} {m : Nat} : mb_up (mb_al (pz_ip σ m 17) (.inl (0, 40, .inl (fun _ => 0))) 40) m (.inr (8, (pz_ifl m 17).set 22 (.ref (m + 1 + 17)))) = pz_ip σ m 18 := pz_ipu rfl rfl (by rw [show m + 1 + 17 = m + 18 by omega]; rfl)
theorem pz_ip18 {σ : mb_S} {m : Nat} : mb_up (mb_al (pz_ip σ m 18) (.inl (0, 40, .inl (fun _ => 0))) 40) m (.inr (8, (pz_ifl m 18).set 23 (.ref (m + 1 + 18)))) = pz_ip σ m 19 := pz_ipu rfl rfl (by rw [show m + 1 + 18 = m + 19 by omega]; rfl)
theorem pz_ip19 {σ : mb_S} {m : Nat} : mb_up (mb_al (pz_ip σ m 19) (.inl (2, 40, .inl (fun _ => 0))) 40) m (.inr (8, (pz_ifl m 19).set 24 (.ref (m + 1 + 19)))) = pz_ip σ m 20 := pz_ipu rfl rfl (by rw [show m + 1 + 19 = m + 20 by omega]; rfl)
theorem pz_ip20 {σ : mb_S} {m : Nat} : mb_up (mb_al (pz_ip σ m 20) (.inl (0, 40, .inl (fun _ => 0))) 40) m (.inr (8, (pz_ifl m 20).set 25 (.ref (m + 1 + 20)))) = pz_ip σ m 21 := pz_ipu rfl rfl (by rw [show m + 1 + 20 = m + 21 by omega]; rfl)
theorem pz_ipG {α : Type} {σ : mb_S} {m k : Nat} {bad : α} {K : List Value → α} : mb_gf (pz_ip σ m k) m 8 bad K = K (pz_ifl m k) := pz_gf (if_pos rfl)
theorem pz_ipA {σ : mb_S} {m : Nat} : mb_up (pz_ip σ m 21) m (.inr (8, (pz_ifl m 21).set 1 (.int 0))) = pz_ip σ m 21 := by
  refine congrArg (fun z => (z, m + 22, σ.2.2 + pz_sl 21)) (funext fun q => ?_)
  by_cases c1 : q = m
  · rw [if_pos c1]; show _ = (if q = m then _ else _); rw [if_pos c1]; rfl
  · rw [if_neg c1]; rfl
/-- nothing told -/
def pz_S0 : pz_S := fun _ _ => 0
theorem pz_zcell {m k : Nat} (h : k ≠ 0) : pz_zc k = pz_cell m 0 pz_S0 k := by
  match k, h with
  | 0, h => exact absurd rfl h
  | 1, _ => rfl
  | 2, _ => rfl
  | 3, _ => rfl
  | 4, _ => rfl
  | 5, _ => rfl
  | 6, _ => rfl
  | 7, _ => rfl
  | 8, _ => rfl
  | 9, _ => rfl
  | 10, _ => rfl
  | 11, _ => rfl
  | 12, _ => rfl
  | 13, _ => rfl
  | 14, _ => rfl
  | 15, _ => rfl
  | 16, _ => rfl
  | 17, _ => rfl
  | 18, _ => rfl
  | 19, _ => rfl
  | 20, _ => rfl
  | 21, _ => rfl
  | _ + 22, _ => rfl
theorem pz_ipE {σ : mb_S} {m : Nat} : pz_ip σ m 21 = pz_mp (σ.1, m + 22, σ.2.2 + pz_sl 21) m 0 pz_S0 := by
  refine congrArg (fun z => (z, m + 22, σ.2.2 + pz_sl 21)) (funext fun q => ?_)
  by_cases c1 : q = m
  · rw [if_pos c1]
    subst c1
    exact (pz_hp_k (h := σ.1) (m := q) (T := 0) (S := pz_S0) (k := 0) rfl).symm
  · rw [if_neg c1]
    by_cases c2 : m < q ∧ q ≤ m + 21
    · rw [if_pos c2, pz_zcell (m := m) (by omega)]
      unfold pz_hp
      rw [if_pos (by omega)]
      obtain ⟨j, hj⟩ : ∃ j, q - m = j := ⟨_, rfl⟩
      rw [hj]
      match j, (show 1 ≤ j by omega), (show j ≤ 21 by omega) with
      | 1, _, _ => rfl
      | 2, _, _ => rfl
      | 3, _, _ => rfl
      | 4, _, _ => rfl
      | 5, _, _ => rfl
      | 6, _, _ => rfl
      | 7, _, _ => rfl
      | 8, _, _ => rfl
      | 9, _, _ => rfl
      | 10, _, _ => rfl
      | 11, _, _ => rfl
      | 12, _, _ => rfl
      | 13, _, _ => rfl
      | 14, _, _ => rfl
      | 15, _, _ => rfl
      | 16, _, _ => rfl
      | 17, _, _ => rfl
      | 18, _, _ => rfl
      | 19, _, _ => rfl
      | 20, _, _ => rfl
      | 21, _, _ => rfl
      | _ + 22, _, h => omega
    · rw [if_neg c2]
      exact (pz_hp_o (by omega)).symm
set_option maxRecDepth 20000 in
set_option maxHeartbeats 4000000 in
theorem pc_init {d : Nat} {Q : mb_O → mb_S → Prop} {σ : mb_S} {m : Nat} (hd : 1 ≤ d) (h0 : σ.1 m = some (.inr (8, pz_ifl m 0))) (h1 : σ.2.1 = m + 1) : mb_Ex d 84 [.ref m] σ Q = Q (.inl none) (pz_mp (σ.1, m + 22, σ.2.2 + pz_sl 21) m 0 pz_S0) := by
  have e : σ = pz_ip σ m 0 := by
    refine Prod.ext (funext fun q => ?_) (Prod.ext h1 rfl)
    show σ.1 q = (if q = m then _ else if m < q ∧ q ≤ m + 0 then _ else _)
    by_cases c : q = m
    · rw [if_pos c, c]; exact h0
    · rw [if_neg c, if_neg (by omega)]
  rw [← pz_ipE]
  show mb_Rn d 84 0 [some (.ref m)] [] σ Q = _
  rw [e]
  have e2 : pz_ip (pz_ip σ m 0) m 21 = pz_ip σ m 21 := by rw [← e]
  rw [e2]
  rw [sX8_init_0, sX8_init_1 hd (Nat.le_of_ble_eq_true rfl)]
  simp only [sX8_init_4, sX8_init_5, sX8_init_7, sX8_init_9, pz_ipg, pz_ipn, pz_ipl, Nat.reduceLT, if_true, pz_ip0]
  simp only [sX8_init_12, sX8_init_13, sX8_init_15, sX8_init_17, pz_ipg, pz_ipn, pz_ipl, Nat.reduceLT, if_true, pz_ip1]
  simp only [sX8_init_20, sX8_init_21, sX8_init_24, sX8_init_26, pz_ipg, pz_ipn, pz_ipl, Nat.reduceLT, if_true, pz_ip2]
  simp only [sX8_init_29, sX8_init_30, sX8_init_33, sX8_init_35, pz_ipg, pz_ipn, pz_ipl, Nat.reduceLT, if_true, pz_ip3]
  simp only [sX8_init_38, sX8_init_39, sX8_init_42, sX8_init_44, pz_ipg, pz_ipn, pz_ipl, Nat.reduceLT, if_true, pz_ip4]
  simp only [sX8_init_47, sX8_init_48, sX8_init_51, sX8_init_53, pz_ipg, pz_ipn, pz_ipl, Nat.reduceLT, if_true, pz_ip5]
  simp only [sX8_init_56, sX8_init_57, sX8_init_60, sX8_init_62, pz_ipg, pz_ipn, pz_ipl, Nat.reduceLT, if_true, pz_ip6]
  simp only [sX8_init_65, sX8_init_66, sX8_init_68, sX8_init_70, pz_ipg, pz_ipn, pz_ipl, Nat.reduceLT, if_true, pz_ip7]
  simp only [sX8_init_73, sX8_init_74, sX8_init_76, sX8_init_78, pz_ipg, pz_ipn, pz_ipl, Nat.reduceLT, if_true, pz_ip8]
  simp only [sX8_init_81, sX8_init_82, sX8_init_84, sX8_init_86, pz_ipg, pz_ipn, pz_ipl, Nat.reduceLT, if_true, pz_ip9]
  simp only [sX8_init_89, sX8_init_90, sX8_init_92, sX8_init_94, pz_ipg, pz_ipn, pz_ipl, Nat.reduceLT, if_true, pz_ip10]
  simp only [sX8_init_97, sX8_init_98, sX8_init_100, sX8_init_102, pz_ipg, pz_ipn, pz_ipl, Nat.reduceLT, if_true, pz_ip11]
  simp only [sX8_init_105, sX8_init_106, sX8_init_109, sX8_init_111, pz_ipg, pz_ipn, pz_ipl, Nat.reduceLT, if_true, pz_ip12]
  simp only [sX8_init_114, sX8_init_115, sX8_init_118, sX8_init_120, pz_ipg, pz_ipn, pz_ipl, Nat.reduceLT, if_true, pz_ip13]
  simp only [sX8_init_123, sX8_init_124, sX8_init_127, sX8_init_129, pz_ipg, pz_ipn, pz_ipl, Nat.reduceLT, if_true, pz_ip14]
  simp only [sX8_init_132, sX8_init_133, sX8_init_136, sX8_init_138, pz_ipg, pz_ipn, pz_ipl, Nat.reduceLT, if_true, pz_ip15]
  simp only [sX8_init_141, sX8_init_142, sX8_init_145, sX8_init_147, pz_ipg, pz_ipn, pz_ipl, Nat.reduceLT, if_true, pz_ip16]
  simp only [sX8_init_150, sX8_init_151, sX8_init_153, sX8_init_155, pz_ipg, pz_ipn, pz_ipl, Nat.reduceLT, if_true, pz_ip17]
  simp only [sX8_init_158, sX8_init_159, sX8_init_161, sX8_init_163, pz_ipg, pz_ipn, pz_ipl, Nat.reduceLT, if_true, pz_ip18]
  simp only [sX8_init_166, sX8_init_167, sX8_init_169, sX8_init_171, pz_ipg, pz_ipn, pz_ipl, Nat.reduceLT, if_true, pz_ip19]
  simp only [sX8_init_174, sX8_init_175, sX8_init_177, sX8_init_179, pz_ipg, pz_ipn, pz_ipl, Nat.reduceLT, if_true, pz_ip20]
  simp only [sX8_init_182, sX8_init_183, sX8_init_184, pz_ipG, pz_ipl, pz_ipA, sX8_init_187, Nat.reduceLT, if_true]
