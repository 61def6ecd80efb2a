/-! THE REFERENCE: its cells lie at m .. m + 21, and hold a state S: the number of a field, then the index -/
abbrev pz_S : Type := Nat → Int → Int
def pz_fl (m : Nat) (T : Int) (S : pz_S) : List Value := [.int (iI T), .int (iI (S 1 0)), .ref (m + 1), .ref (m + 2), .ref (m + 3), .ref (m + 4), .ref (m + 5), .ref (m + 6), .ref (m + 7), .int (iI (S 9 0)), .ref (m + 8), .ref (m + 9), .ref (m + 10), .ref (m + 11), .ref (m + 12), .ref (m + 13), .ref (m + 14), .ref (m + 15), .ref (m + 16), .ref (m + 17), .int (iI (S 20 0)), .int (iI (S 21 0)), .ref (m + 18), .ref (m + 19), .ref (m + 20), .ref (m + 21)]
def pz_cell (m : Nat) (T : Int) (S : pz_S) : Nat → Option va_E
  | 0 => some (.inr (8, pz_fl m T S))
  | 1 => some (.inl (0, 8, .inl (fun i => iI (S 2 i))))
  | 2 => some (.inl (0, 104, .inl (fun i => iI (S 3 i))))
  | 3 => some (.inl (0, 1040, .inl (fun i => iI (S 4 i))))
  | 4 => some (.inl (0, 1040, .inl (fun i => iI (S 5 i))))
  | 5 => some (.inl (0, 12480, .inl (fun i => iI (S 6 i))))
  | 6 => some (.inl (0, 12480, .inl (fun i => iI (S 7 i))))
  | 7 => some (.inl (0, 12480, .inl (fun i => iI (S 8 i))))
  | 8 => some (.inl (0, 8, .inl (fun i => iI (S 10 i))))
  | 9 => some (.inl (2, 64, .inl (fun i => iI (S 11 i))))
  | 10 => some (.inl (0, 64, .inl (fun i => iI (S 12 i))))
  | 11 => some (.inl (0, 64, .inl (fun i => iI (S 13 i))))
  | 12 => some (.inl (0, 64, .inl (fun i => iI (S 14 i))))
  | 13 => some (.inl (0, 320, .inl (fun i => iI (S 15 i))))
  | 14 => some (.inl (0, 320, .inl (fun i => iI (S 16 i))))
  | 15 => some (.inl (0, 2560, .inl (fun i => iI (S 17 i))))
  | 16 => some (.inl (0, 2560, .inl (fun i => iI (S 18 i))))
  | 17 => some (.inl (0, 25600, .inl (fun i => iI (S 19 i))))
  | 18 => some (.inl (0, 40, .inl (fun i => iI (S 22 i))))
  | 19 => some (.inl (0, 40, .inl (fun i => iI (S 23 i))))
  | 20 => some (.inl (2, 40, .inl (fun i => iI (S 24 i))))
  | 21 => some (.inl (0, 40, .inl (fun i => iI (S 25 i))))
  | _ => none
def pz_hp (h : Nat → Option va_E) (m : Nat) (T : Int) (S : pz_S) : Nat → Option va_E := fun q => if m ≤ q then (match pz_cell m T S (q - m) with
  | some e => some e
  | none => h q) else h q
def pz_mp (σ : mb_S) (m : Nat) (T : Int) (S : pz_S) : mb_S := (pz_hp σ.1 m T S, σ.2.1, σ.2.2)
def pz_su (S : pz_S) (t : Nat) (i v : Int) : pz_S := fun t' i' => if t' = t ∧ i' = i then v else S t' i'
theorem pz_su_t {S : pz_S} {t t' : Nat} {i v : Int} (h : t' ≠ t) : pz_su S t i v t' = S t' := by
  funext i'
  unfold pz_su
  rw [if_neg (fun c => h c.1)]
theorem pz_su_e {S : pz_S} {t : Nat} {i v : Int} : pz_su S t i v t i = v := if_pos ⟨rfl, rfl⟩
theorem pz_su_i {S : pz_S} {t : Nat} {i i' v : Int} : pz_su S t i v t i' = if i' = i then v else S t i' := by
  unfold pz_su
  by_cases h : i' = i
  · rw [if_pos ⟨rfl, h⟩, if_pos h]
  · rw [if_neg (fun c => h c.2), if_neg h]
theorem pz_hp_k {h : Nat → Option va_E} {m : Nat} {T : Int} {S : pz_S} {k : Nat} {e : va_E} (hk : pz_cell m T S k = some e) : pz_hp h m T S (m + k) = some e := by
  unfold pz_hp
  rw [if_pos (Nat.le_add_right _ _), Nat.add_sub_cancel_left, hk]
theorem pz_hp_o {h : Nat → Option va_E} {m : Nat} {T : Int} {S : pz_S} {q : Nat} (hq : q < m ∨ m + 22 ≤ q) : pz_hp h m T S q = h q := by
  unfold pz_hp
  by_cases hm : m ≤ q
  · rw [if_pos hm]
    obtain ⟨k, rfl⟩ := Nat.exists_eq_add_of_le (show m + 22 ≤ q by omega)
    rw [show m + 22 + k - m = k + 22 by omega]
    rfl
  · rw [if_neg hm]
/-- a write of one cell -/
theorem pz_hp_ne {h : Nat → Option va_E} {m k q : Nat} {T T' : Int} {S S' : pz_S} (hq : q ≠ m + k) (ho : ∀ k', k' ≠ k → pz_cell m T' S' k' = pz_cell m T S k') : pz_hp h m T S q = pz_hp h m T' S' q := by
  unfold pz_hp
  by_cases hm : m ≤ q
  · rw [if_pos hm, if_pos hm, ho (q - m) (by omega)]
  · rw [if_neg hm, if_neg hm]
theorem pz_up {σ : mb_S} {m k : Nat} {T T' : Int} {S S' : pz_S} {e : va_E} (hk : pz_cell m T' S' k = some e) (ho : ∀ k', k' ≠ k → pz_cell m T' S' k' = pz_cell m T S k') : mb_up (pz_mp σ m T S) (m + k) e = pz_mp σ m T' S' := by
  refine congrArg (fun z => (z, σ.2.1, σ.2.2)) (funext fun q => ?_)
  by_cases hq : q = m + k
  · rw [if_pos hq, hq, pz_hp_k hk]
  · rw [if_neg hq]
    exact pz_hp_ne hq ho
theorem pz_updf {S : pz_S} {t : Nat} {j v : Int} (h1 : 0 ≤ j) (h2 : j ≤ 2147483647) : upd (fun i : Nat => iI (S t i)) (iI j).toNatClampNeg (iI v) = (fun i : Nat => iI (pz_su S t j v t i)) := by
  funext i
  rw [pz_su_i, pz_nat h1 h2]
  unfold upd
  by_cases h : (i : Int) = j
  · rw [if_pos h, if_pos (by omega)]
  · rw [if_neg h, if_neg (by omega)]
theorem pz_co_2 {m k : Nat} {T : Int} {S : pz_S} {j v : Int} (h : k ≠ 1) : pz_cell m T (pz_su S 2 j v) k = pz_cell m T S k := by
  match k, h with
  | 0, _ => rfl
  | 1, h => exact absurd rfl h
  | 2, _ => rfl
  | 3, _ => rfl
  | 4, _ => rfl
  | 5, _ => rfl
  | 6, _ => rfl
  | 7, _ => rfl
  | 8, _ => rfl
  | 9, _ => rfl
  | 10, _ => rfl
  | 11, _ => rfl
  | 12, _ => rfl
  | 13, _ => rfl
  | 14, _ => rfl
  | 15, _ => rfl
  | 16, _ => rfl
  | 17, _ => rfl
  | 18, _ => rfl
  | 19, _ => rfl
  | 20, _ => rfl
  | 21, _ => rfl
  | _ + 22, _ => rfl
theorem pz_co_3 {m k : Nat} {T : Int} {S : pz_S} {j v : Int} (h : k ≠ 2) : pz_cell m T (pz_su S 3 j v) k = pz_cell m T S k := by
  match k, h with
  | 0, _ => rfl
  | 1, _ => rfl
  | 2, h => exact absurd rfl h
  | 3, _ => rfl
  | 4, _ => rfl
  | 5, _ => rfl
  | 6, _ => rfl
  | 7, _ => rfl
  | 8, _ => rfl
  | 9, _ => rfl
  | 10, _ => rfl
  | 11, _ => rfl
  | 12, _ => rfl
  | 13, _ => rfl
  | 14, _ => rfl
  | 15, _ => rfl
  | 16, _ => rfl
  | 17, _ => rfl
  | 18, _ => rfl
  | 19, _ => rfl
  | 20, _ => rfl
  | 21, _ => rfl
  | _ + 22, _ => rfl
theorem pz_co_4 {m k : Nat} {T : Int} {S : pz_S} {j v : Int} (h : k ≠ 3) : pz_cell m T (pz_su S 4 j v) k = pz_cell m T S k := by
  match k, h with
  | 0, _ => rfl
  | 1, _ => rfl
  | 2, _ => rfl
  | 3, h => exact absurd rfl h
  | 4, _ => rfl
  | 5, _ => rfl
  | 6, _ => rfl
  | 7, _ => rfl
  | 8, _ => rfl
  | 9, _ => rfl
  | 10, _ => rfl
  | 11, _ => rfl
  | 12, _ => rfl
  | 13, _ => rfl
  | 14, _ => rfl
  | 15, _ => rfl
  | 16, _ => rfl
  | 17, _ => rfl
  | 18, _ => rfl
  | 19, _ => rfl
  | 20, _ => rfl
  | 21, _ => rfl
  | _ + 22, _ => rfl
theorem pz_co_5 {m k : Nat} {T : Int} {S : pz_S} {j v : Int} (h : k ≠ 4) : pz_cell m T (pz_su S 5 j v) k = pz_cell m T S k := by
  match k, h with
  | 0, _ => rfl
  | 1, _ => rfl
  | 2, _ => rfl
  | 3, _ => rfl
  | 4, h => exact absurd rfl h
  | 5, _ => rfl
  | 6, _ => rfl
  | 7, _ => rfl
  | 8, _ => rfl
  | 9, _ => rfl
  | 10, _ => rfl
  | 11, _ => rfl
  | 12, _ => rfl
  | 13, _ => rfl
  | 14, _ => rfl
  | 15, _ => rfl
  | 16, _ => rfl
  | 17, _ => rfl
  | 18, _ => rfl
  | 19, _ => rfl
  | 20, _ => rfl
  | 21, _ => rfl
  | _ + 22, _ => rfl
theorem pz_co_6 {m k : Nat} {T : Int} {S : pz_S} {j v : Int} (h : k ≠ 5) : pz_cell m T (pz_su S 6 j v) k = pz_cell m T S k := by
  match k, h with
  | 0, _ => rfl
  | 1, _ => rfl
  | 2, _ => rfl
  | 3, _ => rfl
  | 4, _ => rfl
  | 5, h => exact absurd rfl h
  | 6, _ => rfl
  | 7, _ => rfl
  | 8, _ => rfl
  | 9, _ => rfl
  | 10, _ => rfl
  | 11, _ => rfl
  | 12, _ => rfl
  | 13, _ => rfl
  | 14, _ => rfl
  | 15, _ => rfl
  | 16, _ => rfl
  | 17, _ => rfl
  | 18, _ => rfl
  | 19, _ => rfl
  | 20, _ => rfl
  | 21, _ => rfl
  | _ + 22, _ => rfl
theorem pz_co_7 {m k : Nat} {T : Int} {S : pz_S} {j v : Int} (h : k ≠ 6) : pz_cell m T (pz_su S 7 j v) k = pz_cell m T S k := by
  match k, h with
  | 0, _ => rfl
  | 1, _ => rfl
  | 2, _ => rfl
  | 3, _ => rfl
  | 4, _ => rfl
  | 5, _ => rfl
  | 6, h => exact absurd rfl h
  | 7, _ => rfl
  | 8, _ => rfl
  | 9, _ => rfl
  | 10, _ => rfl
  | 11, _ => rfl
  | 12, _ => rfl
  | 13, _ => rfl
  | 14, _ => rfl
  | 15, _ => rfl
  | 16, _ => rfl
  | 17, _ => rfl
  | 18, _ => rfl
  | 19, _ => rfl
  | 20, _ => rfl
  | 21, _ => rfl
  | _ + 22, _ => rfl
theorem pz_co_8 {m k : Nat} {T : Int} {S : pz_S} {j v : Int} (h : k ≠ 7) : pz_cell m T (pz_su S 8 j v) k = pz_cell m T S k := by
  match k, h with
  | 0, _ => rfl
  | 1, _ => rfl
  | 2, _ => rfl
  | 3, _ => rfl
  | 4, _ => rfl
  | 5, _ => rfl
  | 6, _ => rfl
  | 7, h => exact absurd rfl h
  | 8, _ => rfl
  | 9, _ => rfl
  | 10, _ => rfl
  | 11, _ => rfl
  | 12, _ => rfl
  | 13, _ => rfl
  | 14, _ => rfl
  | 15, _ => rfl
  | 16, _ => rfl
  | 17, _ => rfl
  | 18, _ => rfl
  | 19, _ => rfl
  | 20, _ => rfl
  | 21, _ => rfl
  | _ + 22, _ => rfl
theorem pz_co_10 {m k : Nat} {T : Int} {S : pz_S} {j v : Int} (h : k ≠ 8) : pz_cell m T (pz_su S 10 j v) k = pz_cell m T S k := by
  match k, h with
  | 0, _ => rfl
  | 1, _ => rfl
  | 2, _ => rfl
  | 3, _ => rfl
  | 4, _ => rfl
  | 5, _ => rfl
  | 6, _ => rfl
  | 7, _ => rfl
  | 8, h => exact absurd rfl h
  | 9, _ => rfl
  | 10, _ => rfl
  | 11, _ => rfl
  | 12, _ => rfl
  | 13, _ => rfl
  | 14, _ => rfl
  | 15, _ => rfl
  | 16, _ => rfl
  | 17, _ => rfl
  | 18, _ => rfl
  | 19, _ => rfl
  | 20, _ => rfl
  | 21, _ => rfl
  | _ + 22, _ => rfl
theorem pz_co_11 {m k : Nat} {T : Int} {S : pz_S} {j v : Int} (h : k ≠ 9) : pz_cell m T (pz_su S 11 j v) k = pz_cell m T S k := by
  match k, h with
  | 0, _ => rfl
  | 1, _ => rfl
  | 2, _ => rfl
  | 3, _ => rfl
  | 4, _ => rfl
  | 5, _ => rfl
  | 6, _ => rfl
  | 7, _ => rfl
  | 8, _ => rfl
  | 9, h => exact absurd rfl h
  | 10, _ => rfl
  | 11, _ => rfl
  | 12, _ => rfl
  | 13, _ => rfl
  | 14, _ => rfl
  | 15, _ => rfl
  | 16, _ => rfl
  | 17, _ => rfl
  | 18, _ => rfl
  | 19, _ => rfl
  | 20, _ => rfl
  | 21, _ => rfl
  | _ + 22, _ => rfl
theorem pz_co_12 {m k : Nat} {T : Int} {S : pz_S} {j v : Int} (h : k ≠ 10) : pz_cell m T (pz_su S 12 j v) k = pz_cell m T S k := by
  match k, h with
  | 0, _ => rfl
  | 1, _ => rfl
  | 2, _ => rfl
  | 3, _ => rfl
  | 4, _ => rfl
  | 5, _ => rfl
  | 6, _ => rfl
  | 7, _ => rfl
  | 8, _ => rfl
  | 9, _ => rfl
  | 10, h => exact absurd rfl h
  | 11, _ => rfl
  | 12, _ => rfl
  | 13, _ => rfl
  | 14, _ => rfl
  | 15, _ => rfl
  | 16, _ => rfl
  | 17, _ => rfl
  | 18, _ => rfl
  | 19, _ => rfl
  | 20, _ => rfl
  | 21, _ => rfl
  | _ + 22, _ => rfl
theorem pz_co_13 {m k : Nat} {T : Int} {S : pz_S} {j v : Int} (h : k ≠ 11) : pz_cell m T (pz_su S 13 j v) k = pz_cell m T S k := by
  match k, h with
  | 0, _ => rfl
  | 1, _ => rfl
  | 2, _ => rfl
  | 3, _ => rfl
  | 4, _ => rfl
  | 5, _ => rfl
  | 6, _ => rfl
  | 7, _ => rfl
  | 8, _ => rfl
  | 9, _ => rfl
  | 10, _ => rfl
  | 11, h => exact absurd rfl h
  | 12, _ => rfl
  | 13, _ => rfl
  | 14, _ => rfl
  | 15, _ => rfl
  | 16, _ => rfl
  | 17, _ => rfl
  | 18, _ => rfl
  | 19, _ => rfl
  | 20, _ => rfl
  | 21, _ => rfl
  | _ + 22, _ => rfl
theorem pz_co_14 {m k : Nat} {T : Int} {S : pz_S} {j v : Int} (h : k ≠ 12) : pz_cell m T (pz_su S 14 j v) k = pz_cell m T S k := by
  match k, h with
  | 0, _ => rfl
  | 1, _ => rfl
  | 2, _ => rfl
  | 3, _ => rfl
  | 4, _ => rfl
  | 5, _ => rfl
  | 6, _ => rfl
  | 7, _ => rfl
  | 8, _ => rfl
  | 9, _ => rfl
  | 10, _ => rfl
  | 11, _ => rfl
  | 12, h => exact absurd rfl h
  | 13, _ => rfl
  | 14, _ => rfl
  | 15, _ => rfl
  | 16, _ => rfl
  | 17, _ => rfl
  | 18, _ => rfl
  | 19, _ => rfl
  | 20, _ => rfl
  | 21, _ => rfl
  | _ + 22, _ => rfl
theorem pz_co_15 {m k : Nat} {T : Int} {S : pz_S} {j v : Int} (h : k ≠ 13) : pz_cell m T (pz_su S 15 j v) k = pz_cell m T S k := by
  match k, h with
  | 0, _ => rfl
  | 1, _ => rfl
  | 2, _ => rfl
  | 3, _ => rfl
  | 4, _ => rfl
  | 5, _ => rfl
  | 6, _ => rfl
  | 7, _ => rfl
  | 8, _ => rfl
  | 9, _ => rfl
  | 10, _ => rfl
  | 11, _ => rfl
  | 12, _ => rfl
  | 13, h => exact absurd rfl h
  | 14, _ => rfl
  | 15, _ => rfl
  | 16, _ => rfl
  | 17, _ => rfl
  | 18, _ => rfl
  | 19, _ => rfl
  | 20, _ => rfl
  | 21, _ => rfl
  | _ + 22, _ => rfl
theorem pz_co_16 {m k : Nat} {T : Int} {S : pz_S} {j v : Int} (h : k ≠ 14) : pz_cell m T (pz_su S 16 j v) k = pz_cell m T S k := by
  match k, h with
  | 0, _ => rfl
  | 1, _ => rfl
  | 2, _ => rfl
  | 3, _ => rfl
  | 4, _ => rfl
  | 5, _ => rfl
  | 6, _ => rfl
  | 7, _ => rfl
  | 8, _ => rfl
  | 9, _ => rfl
  | 10, _ => rfl
  | 11, _ => rfl
  | 12, _ => rfl
  | 13, _ => rfl
  | 14, h => exact absurd rfl h
  | 15, _ => rfl
  | 16, _ => rfl
  | 17, _ => rfl
  | 18, _ => rfl
  | 19, _ => rfl
  | 20, _ => rfl
  | 21, _ => rfl
  | _ + 22, _ => rfl
theorem pz_co_17 {m k : Nat} {T : Int} {S : pz_S} {j v : Int} (h : k ≠ 15) : pz_cell m T (pz_su S 17 j v) k = pz_cell m T S k := by
  match k, h with
  | 0, _ => rfl
  | 1, _ => rfl
  | 2, _ => rfl
  | 3, _ => rfl
  | 4, _ => rfl
  | 5, _ => rfl
  | 6, _ => rfl
  | 7, _ => rfl
  | 8, _ => rfl
  | 9, _ => rfl
  | 10, _ => rfl
  | 11, _ => rfl
  | 12, _ => rfl
  | 13, _ => rfl
  | 14, _ => rfl
  | 15, h => exact absurd rfl h
  | 16, _ => rfl
  | 17, _ => rfl
  | 18, _ => rfl
  | 19, _ => rfl
  | 20, _ => rfl
  | 21, _ => rfl
  | _ + 22, _ => rfl
theorem pz_co_18 {m k : Nat} {T : Int} {S : pz_S} {j v : Int} (h : k ≠ 16) : pz_cell m T (pz_su S 18 j v) k = pz_cell m T S k := by
  match k, h with
  | 0, _ => rfl
  | 1, _ => rfl
  | 2, _ => rfl
  | 3, _ => rfl
  | 4, _ => rfl
  | 5, _ => rfl
  | 6, _ => rfl
  | 7, _ => rfl
  | 8, _ => rfl
  | 9, _ => rfl
  | 10, _ => rfl
  | 11, _ => rfl
  | 12, _ => rfl
  | 13, _ => rfl
  | 14, _ => rfl
  | 15, _ => rfl
  | 16, h => exact absurd rfl h
  | 17, _ => rfl
  | 18, _ => rfl
  | 19, _ => rfl
  | 20, _ => rfl
  | 21, _ => rfl
  | _ + 22, _ => rfl
theorem pz_co_19 {m k : Nat} {T : Int} {S : pz_S} {j v : Int} (h : k ≠ 17) : pz_cell m T (pz_su S 19 j v) k = pz_cell m T S k := by
  match k, h with
  | 0, _ => rfl
  | 1, _ => rfl
  | 2, _ => rfl
  | 3, _ => rfl
  | 4, _ => rfl
  | 5, _ => rfl
  | 6, _ => rfl
  | 7, _ => rfl
  | 8, _ => rfl
  | 9, _ => rfl
  | 10, _ => rfl
  | 11, _ => rfl
  | 12, _ => rfl
  | 13, _ => rfl
  | 14, _ => rfl
  | 15, _ => rfl
  | 16, _ => rfl
  | 17, h => exact absurd rfl h
  | 18, _ => rfl
  | 19, _ => rfl
  | 20, _ => rfl
  | 21, _ => rfl
  | _ + 22, _ => rfl
theorem pz_co_22 {m k : Nat} {T : Int} {S : pz_S} {j v : Int} (h : k ≠ 18) : pz_cell m T (pz_su S 22 j v) k = pz_cell m T S k := by
  match k, h with
  | 0, _ => rfl
  | 1, _ => rfl
  | 2, _ => rfl
  | 3, _ => rfl
  | 4, _ => rfl
  | 5, _ => rfl
  | 6, _ => rfl
  | 7, _ => rfl
  | 8, _ => rfl
  | 9, _ => rfl
  | 10, _ => rfl
  | 11, _ => rfl
  | 12, _ => rfl
  | 13, _ => rfl
  | 14, _ => rfl
  | 15, _ => rfl
  | 16, _ => rfl
  | 17, _ => rfl
  | 18, h => exact absurd rfl h
  | 19, _ => rfl
  | 20, _ => rfl
  | 21, _ => rfl
  | _ + 22, _ => rfl
theorem pz_co_23 {m k : Nat} {T : Int} {S : pz_S} {j v : Int} (h : k ≠ 19) : pz_cell m T (pz_su S 23 j v) k = pz_cell m T S k := by
  match k, h with
  | 0, _ => rfl
  | 1, _ => rfl
  | 2, _ => rfl
  | 3, _ => rfl
  | 4, _ => rfl
  | 5, _ => rfl
  | 6, _ => rfl
  | 7, _ => rfl
  | 8, _ => rfl
  | 9, _ => rfl
  | 10, _ => rfl
  | 11, _ => rfl
  | 12, _ => rfl
  | 13, _ => rfl
  | 14, _ => rfl
  | 15, _ => rfl
  | 16, _ => rfl
  | 17, _ => rfl
  | 18, _ => rfl
  | 19, h => exact absurd rfl h
  | 20, _ => rfl
  | 21, _ => rfl
  | _ + 22, _ => rfl
theorem pz_co_24 {m k : Nat} {T : Int} {S : pz_S} {j v : Int} (h : k ≠ 20) : pz_cell m T (pz_su S 24 j v) k = pz_cell m T S k := by
  match k, h with
  | 0, _ => rfl
  | 1, _ => rfl
  | 2, _ => rfl
  | 3, _ => rfl
  | 4, _ => rfl
  | 5, _ => rfl
  | 6, _ => rfl
  | 7, _ => rfl
  | 8, _ => rfl
  | 9, _ => rfl
  | 10, _ => rfl
  | 11, _ => rfl
  | 12, _ => rfl
  | 13, _ => rfl
  | 14, _ => rfl
  | 15, _ => rfl
  | 16, _ => rfl
  | 17, _ => rfl
  | 18, _ => rfl
  | 19, _ => rfl
  | 20, h => exact absurd rfl h
  | 21, _ => rfl
  | _ + 22, _ => rfl
theorem pz_co_25 {m k : Nat} {T : Int} {S : pz_S} {j v : Int} (h : k ≠ 21) : pz_cell m T (pz_su S 25 j v) k = pz_cell m T S k := by
  match k, h with
  | 0, _ => rfl
  | 1, _ => rfl
  | 2, _ => rfl
  | 3, _ => rfl
  | 4, _ => rfl
  | 5, _ => rfl
  | 6, _ => rfl
  | 7, _ => rfl
  | 8, _ => rfl
  | 9, _ => rfl
  | 10, _ => rfl
  | 11, _ => rfl
  | 12, _ => rfl
  | 13, _ => rfl
  | 14, _ => rfl
  | 15, _ => rfl
  | 16, _ => rfl
  | 17, _ => rfl
  | 18, _ => rfl
  | 19, _ => rfl
  | 20, _ => rfl
  | 21, h => exact absurd rfl h
  | _ + 22, _ => rfl
theorem pz_co_1 {m k : Nat} {T : Int} {S : pz_S} {j v : Int} (h : k ≠ 0) : pz_cell m T (pz_su S 1 j v) k = pz_cell m T S k := by
  match k, h with
  | 0, h => exact absurd rfl h
  | 1, _ => rfl
  | 2, _ => rfl
  | 3, _ => rfl
  | 4, _ => rfl
  | 5, _ => rfl
  | 6, _ => rfl
  | 7, _ => rfl
  | 8, _ => rfl
  | 9, _ => rfl
  | 10, _ => rfl
  | 11, _ => rfl
  | 12, _ => rfl
  | 13, _ => rfl
  | 14, _ => rfl
  | 15, _ => rfl
  | 16, _ => rfl
  | 17, _ => rfl
  | 18, _ => rfl
  | 19, _ => rfl
  | 20, _ => rfl
  | 21, _ => rfl
  | _ + 22, _ => rfl
theorem pz_co_9 {m k : Nat} {T : Int} {S : pz_S} {j v : Int} (h : k ≠ 0) : pz_cell m T (pz_su S 9 j v) k = pz_cell m T S k := by
  match k, h with
  | 0, h => exact absurd rfl h
  | 1, _ => rfl
  | 2, _ => rfl
  | 3, _ => rfl
  | 4, _ => rfl
  | 5, _ => rfl
  | 6, _ => rfl
  | 7, _ => rfl
  | 8, _ => rfl
  | 9, _ => rfl
  | 10, _ => rfl
  | 11, _ => rfl
  | 12, _ => rfl
  | 13, _ => rfl
  | 14, _ => rfl
  | 15, _ => rfl
  | 16, _ => rfl
  | 17, _ => rfl
  | 18, _ => rfl
  | 19, _ => rfl
  | 20, _ => rfl
  | 21, _ => rfl
  | _ + 22, _ => rfl
theorem pz_co_20 {m k : Nat} {T : Int} {S : pz_S} {j v : Int} (h : k ≠ 0) : pz_cell m T (pz_su S 20 j v) k = pz_cell m T S k := by
  match k, h with
  | 0, h => exact absurd rfl h
  | 1, _ => rfl
  | 2, _ => rfl
  | 3, _ => rfl
  | 4, _ => rfl
  | 5, _ => rfl
  | 6, _ => rfl
  | 7, _ => rfl
  | 8, _ => rfl
  | 9, _ => rfl
  | 10, _ => rfl
  | 11, _ => rfl
  | 12, _ => rfl
  | 13, _ => rfl
  | 14, _ => rfl
  | 15, _ => rfl
  | 16, _ => rfl
  | 17, _ => rfl
  | 18, _ => rfl
  | 19, _ => rfl
  | 20, _ => rfl
  | 21, _ => rfl
  | _ + 22, _ => rfl
theorem pz_co_21 {m k : Nat} {T : Int} {S : pz_S} {j v : Int} (h : k ≠ 0) : pz_cell m T (pz_su S 21 j v) k = pz_cell m T S k := by
  match k, h with
  | 0, h => exact absurd rfl h
  | 1, _ => rfl
  | 2, _ => rfl
  | 3, _ => rfl
  | 4, _ => rfl
  | 5, _ => rfl
  | 6, _ => rfl
  | 7, _ => rfl
  | 8, _ => rfl
  | 9, _ => rfl
  | 10, _ => rfl
  | 11, _ => rfl
  | 12, _ => rfl
  | 13, _ => rfl
  | 14, _ => rfl
  | 15, _ => rfl
  | 16, _ => rfl
  | 17, _ => rfl
  | 18, _ => rfl
  | 19, _ => rfl
  | 20, _ => rfl
  | 21, _ => rfl
  | _ + 22, _ => rfl
theorem pz_co_0 {m k : Nat} {T v : Int} {S : pz_S} (h : k ≠ 0) : pz_cell m v S k = pz_cell m T S k := by
  match k, h with
  | 0, h => exact absurd rfl h
  | 1, _ => rfl
  | 2, _ => rfl
  | 3, _ => rfl
  | 4, _ => rfl
  | 5, _ => rfl
  | 6, _ => rfl
  | 7, _ => rfl
  | 8, _ => rfl
  | 9, _ => rfl
  | 10, _ => rfl
  | 11, _ => rfl
  | 12, _ => rfl
  | 13, _ => rfl
  | 14, _ => rfl
  | 15, _ => rfl
  | 16, _ => rfl
  | 17, _ => rfl
  | 18, _ => rfl
  | 19, _ => rfl
  | 20, _ => rfl
  | 21, _ => rfl
  | _ + 22, _ => rfl
theorem pg_2 {α : Type} {σ : mb_S} {m : Nat} {T : Int} {S : pz_S} {j : Int} {bad : α} {K : Nat → Nat → (Nat → Int32) → α} (h1 : 0 ≤ j) (h2 : j < 8) : mb_gi (pz_mp σ m T S) (m + 1) (iI j) bad K = K 0 8 (fun i => iI (S 2 i)) := pz_gi (pz_hp_k rfl) h1 h2 (by omega)
theorem pu_2 {σ : mb_S} {m : Nat} {T : Int} {S : pz_S} {j v : Int} {g : Nat → Int32} (h1 : 0 ≤ j) (h2 : j < 8) (hg : ∀ i : Nat, g i = iI (S 2 i)) : mb_up (pz_mp σ m T S) (m + 1) (.inl (0, 8, .inl (upd g (iI j).toNatClampNeg (iI v)))) = pz_mp σ m T (pz_su S 2 j v) := by
  refine pz_up ?_ (fun k' hk' => ?_)
  · rw [funext hg, pz_updf h1 (by omega)]; rfl
  · exact pz_co_2 hk'
theorem pg_3 {α : Type} {σ : mb_S} {m : Nat} {T : Int} {S : pz_S} {j : Int} {bad : α} {K : Nat → Nat → (Nat → Int32) → α} (h1 : 0 ≤ j) (h2 : j < 104) : mb_gi (pz_mp σ m T S) (m + 2) (iI j) bad K = K 0 104 (fun i => iI (S 3 i)) := pz_gi (pz_hp_k rfl) h1 h2 (by omega)
theorem pu_3 {σ : mb_S} {m : Nat} {T : Int} {S : pz_S} {j v : Int} {g : Nat → Int32} (h1 : 0 ≤ j) (h2 : j < 104) (hg : ∀ i : Nat, g i = iI (S 3 i)) : mb_up (pz_mp σ m T S) (m + 2) (.inl (0, 104, .inl (upd g (iI j).toNatClampNeg (iI v)))) = pz_mp σ m T (pz_su S 3 j v) := by
  refine pz_up ?_ (fun k' hk' => ?_)
  · rw [funext hg, pz_updf h1 (by omega)]; rfl
  · exact pz_co_3 hk'
theorem pg_4 {α : Type} {σ : mb_S} {m : Nat} {T : Int} {S : pz_S} {j : Int} {bad : α} {K : Nat → Nat → (Nat → Int32) → α} (h1 : 0 ≤ j) (h2 : j < 1040) : mb_gi (pz_mp σ m T S) (m + 3) (iI j) bad K = K 0 1040 (fun i => iI (S 4 i)) := pz_gi (pz_hp_k rfl) h1 h2 (by omega)
theorem pu_4 {σ : mb_S} {m : Nat} {T : Int} {S : pz_S} {j v : Int} {g : Nat → Int32} (h1 : 0 ≤ j) (h2 : j < 1040) (hg : ∀ i : Nat, g i = iI (S 4 i)) : mb_up (pz_mp σ m T S) (m + 3) (.inl (0, 1040, .inl (upd g (iI j).toNatClampNeg (iI v)))) = pz_mp σ m T (pz_su S 4 j v) := by
  refine pz_up ?_ (fun k' hk' => ?_)
  · rw [funext hg, pz_updf h1 (by omega)]; rfl
  · exact pz_co_4 hk'
theorem pg_5 {α : Type} {σ : mb_S} {m : Nat} {T : Int} {S : pz_S} {j : Int} {bad : α} {K : Nat → Nat → (Nat → Int32) → α} (h1 : 0 ≤ j) (h2 : j < 1040) : mb_gi (pz_mp σ m T S) (m + 4) (iI j) bad K = K 0 1040 (fun i => iI (S 5 i)) := pz_gi (pz_hp_k rfl) h1 h2 (by omega)
theorem pu_5 {σ : mb_S} {m : Nat} {T : Int} {S : pz_S} {j v : Int} {g : Nat → Int32} (h1 : 0 ≤ j) (h2 : j < 1040) (hg : ∀ i : Nat, g i = iI (S 5 i)) : mb_up (pz_mp σ m T S) (m + 4) (.inl (0, 1040, .inl (upd g (iI j).toNatClampNeg (iI v)))) = pz_mp σ m T (pz_su S 5 j v) := by
  refine pz_up ?_ (fun k' hk' => ?_)
  · rw [funext hg, pz_updf h1 (by omega)]; rfl
  · exact pz_co_5 hk'
theorem pg_6 {α : Type} {σ : mb_S} {m : Nat} {T : Int} {S : pz_S} {j : Int} {bad : α} {K : Nat → Nat → (Nat → Int32) → α} (h1 : 0 ≤ j) (h2 : j < 12480) : mb_gi (pz_mp σ m T S) (m + 5) (iI j) bad K = K 0 12480 (fun i => iI (S 6 i)) := pz_gi (pz_hp_k rfl) h1 h2 (by omega)
theorem pu_6 {σ : mb_S} {m : Nat} {T : Int} {S : pz_S} {j v : Int} {g : Nat → Int32} (h1 : 0 ≤ j) (h2 : j < 12480) (hg : ∀ i : Nat, g i = iI (S 6 i)) : mb_up (pz_mp σ m T S) (m + 5) (.inl (0, 12480, .inl (upd g (iI j).toNatClampNeg (iI v)))) = pz_mp σ m T (pz_su S 6 j v) := by
  refine pz_up ?_ (fun k' hk' => ?_)
  · rw [funext hg, pz_updf h1 (by omega)]; rfl
  · exact pz_co_6 hk'
theorem pg_7 {α : Type} {σ : mb_S} {m : Nat} {T : Int} {S : pz_S} {j : Int} {bad : α} {K : Nat → Nat → (Nat → Int32) → α} (h1 : 0 ≤ j) (h2 : j < 12480) : mb_gi (pz_mp σ m T S) (m + 6) (iI j) bad K = K 0 12480 (fun i => iI (S 7 i)) := pz_gi (pz_hp_k rfl) h1 h2 (by omega)
theorem pu_7 {σ : mb_S} {m : Nat} {T : Int} {S : pz_S} {j v : Int} {g : Nat → Int32} (h1 : 0 ≤ j) (h2 : j < 12480) (hg : ∀ i : Nat, g i = iI (S 7 i)) : mb_up (pz_mp σ m T S) (m + 6) (.inl (0, 12480, .inl (upd g (iI j).toNatClampNeg (iI v)))) = pz_mp σ m T (pz_su S 7 j v) := by
  refine pz_up ?_ (fun k' hk' => ?_)
  · rw [funext hg, pz_updf h1 (by omega)]; rfl
  · exact pz_co_7 hk'
theorem pg_8 {α : Type} {σ : mb_S} {m : Nat} {T : Int} {S : pz_S} {j : Int} {bad : α} {K : Nat → Nat → (Nat → Int32) → α} (h1 : 0 ≤ j) (h2 : j < 12480) : mb_gi (pz_mp σ m T S) (m + 7) (iI j) bad K = K 0 12480 (fun i => iI (S 8 i)) := pz_gi (pz_hp_k rfl) h1 h2 (by omega)
theorem pu_8 {σ : mb_S} {m : Nat} {T : Int} {S : pz_S} {j v : Int} {g : Nat → Int32} (h1 : 0 ≤ j) (h2 : j < 12480) (hg : ∀ i : Nat, g i = iI (S 8 i)) : mb_up (pz_mp σ m T S) (m + 7) (.inl (0, 12480, .inl (upd g (iI j).toNatClampNeg (iI v)))) = pz_mp σ m T (pz_su S 8 j v) := by
  refine pz_up ?_ (fun k' hk' => ?_)
  · rw [funext hg, pz_updf h1 (by omega)]; rfl
  · exact pz_co_8 hk'
theorem pg_10 {α : Type} {σ : mb_S} {m : Nat} {T : Int} {S : pz_S} {j : Int} {bad : α} {K : Nat → Nat → (Nat → Int32) → α} (h1 : 0 ≤ j) (h2 : j < 8) : mb_gi (pz_mp σ m T S) (m + 8) (iI j) bad K = K 0 8 (fun i => iI (S 10 i)) := pz_gi (pz_hp_k rfl) h1 h2 (by omega)
theorem pu_10 {σ : mb_S} {m : Nat} {T : Int} {S : pz_S} {j v : Int} {g : Nat → Int32} (h1 : 0 ≤ j) (h2 : j < 8) (hg : ∀ i : Nat, g i = iI (S 10 i)) : mb_up (pz_mp σ m T S) (m + 8) (.inl (0, 8, .inl (upd g (iI j).toNatClampNeg (iI v)))) = pz_mp σ m T (pz_su S 10 j v) := by
  refine pz_up ?_ (fun k' hk' => ?_)
  · rw [funext hg, pz_updf h1 (by omega)]; rfl
  · exact pz_co_10 hk'
theorem pg_11 {α : Type} {σ : mb_S} {m : Nat} {T : Int} {S : pz_S} {j : Int} {bad : α} {K : Nat → Nat → (Nat → Int32) → α} (h1 : 0 ≤ j) (h2 : j < 64) : mb_gi (pz_mp σ m T S) (m + 9) (iI j) bad K = K 2 64 (fun i => iI (S 11 i)) := pz_gi (pz_hp_k rfl) h1 h2 (by omega)
theorem pu_11 {σ : mb_S} {m : Nat} {T : Int} {S : pz_S} {j v : Int} {g : Nat → Int32} (h1 : 0 ≤ j) (h2 : j < 64) (hg : ∀ i : Nat, g i = iI (S 11 i)) : mb_up (pz_mp σ m T S) (m + 9) (.inl (2, 64, .inl (upd g (iI j).toNatClampNeg (iI v)))) = pz_mp σ m T (pz_su S 11 j v) := by
  refine pz_up ?_ (fun k' hk' => ?_)
  · rw [funext hg, pz_updf h1 (by omega)]; rfl
  · exact pz_co_11 hk'
theorem pg_12 {α : Type} {σ : mb_S} {m : Nat} {T : Int} {S : pz_S} {j : Int} {bad : α} {K : Nat → Nat → (Nat → Int32) → α} (h1 : 0 ≤ j) (h2 : j < 64) : mb_gi (pz_mp σ m T S) (m + 10) (iI j) bad K = K 0 64 (fun i => iI (S 12 i)) := pz_gi (pz_hp_k rfl) h1 h2 (by omega)
theorem pu_12 {σ : mb_S} {m : Nat} {T : Int} {S : pz_S} {j v : Int} {g : Nat → Int32} (h1 : 0 ≤ j) (h2 : j < 64) (hg : ∀ i : Nat, g i = iI (S 12 i)) : mb_up (pz_mp σ m T S) (m + 10) (.inl (0, 64, .inl (upd g (iI j).toNatClampNeg (iI v)))) = pz_mp σ m T (pz_su S 12 j v) := by
  refine pz_up ?_ (fun k' hk' => ?_)
  · rw [funext hg, pz_updf h1 (by omega)]; rfl
  · exact pz_co_12 hk'
theorem pg_13 {α : Type} {σ : mb_S} {m : Nat} {T : Int} {S : pz_S} {j : Int} {bad : α} {K : Nat → Nat → (Nat → Int32) → α} (h1 : 0 ≤ j) (h2 : j < 64) : mb_gi (pz_mp σ m T S) (m + 11) (iI j) bad K = K 0 64 (fun i => iI (S 13 i)) := pz_gi (pz_hp_k rfl) h1 h2 (by omega)
theorem pu_13 {σ : mb_S} {m : Nat} {T : Int} {S : pz_S} {j v : Int} {g : Nat → Int32} (h1 : 0 ≤ j) (h2 : j < 64) (hg : ∀ i : Nat, g i = iI (S 13 i)) : mb_up (pz_mp σ m T S) (m + 11) (.inl (0, 64, .inl (upd g (iI j).toNatClampNeg (iI v)))) = pz_mp σ m T (pz_su S 13 j v) := by
  refine pz_up ?_ (fun k' hk' => ?_)
  · rw [funext hg, pz_updf h1 (by omega)]; rfl
  · exact pz_co_13 hk'
theorem pg_14 {α : Type} {σ : mb_S} {m : Nat} {T : Int} {S : pz_S} {j : Int} {bad : α} {K : Nat → Nat → (Nat → Int32) → α} (h1 : 0 ≤ j) (h2 : j < 64) : mb_gi (pz_mp σ m T S) (m + 12) (iI j) bad K = K 0 64 (fun i => iI (S 14 i)) := pz_gi (pz_hp_k rfl) h1 h2 (by omega)
theorem pu_14 {σ : mb_S} {m : Nat} {T : Int} {S : pz_S} {j v : Int} {g : Nat → Int32} (h1 : 0 ≤ j) (h2 : j < 64) (hg : ∀ i : Nat, g i = iI (S 14 i)) : mb_up (pz_mp σ m T S) (m + 12) (.inl (0, 64, .inl (upd g (iI j).toNatClampNeg (iI v)))) = pz_mp σ m T (pz_su S 14 j v) := by
  refine pz_up ?_ (fun k' hk' => ?_)
  · rw [funext hg, pz_updf h1 (by omega)]; rfl
  · exact pz_co_14 hk'
theorem pg_15 {α : Type} {σ : mb_S} {m : Nat} {T : Int} {S : pz_S} {j : Int} {bad : α} {K : Nat → Nat → (Nat → Int32) → α} (h1 : 0 ≤ j) (h2 : j < 320) : mb_gi (pz_mp σ m T S) (m + 13) (iI j) bad K = K 0 320 (fun i => iI (S 15 i)) := pz_gi (pz_hp_k rfl) h1 h2 (by omega)
theorem pu_15 {σ : mb_S} {m : Nat} {T : Int} {S : pz_S} {j v : Int} {g : Nat → Int32} (h1 : 0 ≤ j) (h2 : j < 320) (hg : ∀ i : Nat, g i = iI (S 15 i)) : mb_up (pz_mp σ m T S) (m + 13) (.inl (0, 320, .inl (upd g (iI j).toNatClampNeg (iI v)))) = pz_mp σ m T (pz_su S 15 j v) := by
  refine pz_up ?_ (fun k' hk' => ?_)
  · rw [funext hg, pz_updf h1 (by omega)]; rfl
  · exact pz_co_15 hk'
theorem pg_16 {α : Type} {σ : mb_S} {m : Nat} {T : Int} {S : pz_S} {j : Int} {bad : α} {K : Nat → Nat → (Nat → Int32) → α} (h1 : 0 ≤ j) (h2 : j < 320) : mb_gi (pz_mp σ m T S) (m + 14) (iI j) bad K = K 0 320 (fun i => iI (S 16 i)) := pz_gi (pz_hp_k rfl) h1 h2 (by omega)
theorem pu_16 {σ : mb_S} {m : Nat} {T : Int} {S : pz_S} {j v : Int} {g : Nat → Int32} (h1 : 0 ≤ j) (h2 : j < 320) (hg : ∀ i : Nat, g i = iI (S 16 i)) : mb_up (pz_mp σ m T S) (m + 14) (.inl (0, 320, .inl (upd g (iI j).toNatClampNeg (iI v)))) = pz_mp σ m T (pz_su S 16 j v) := by
  refine pz_up ?_ (fun k' hk' => ?_)
  · rw [funext hg, pz_updf h1 (by omega)]; rfl
  · exact pz_co_16 hk'
theorem pg_17 {α : Type} {σ : mb_S} {m : Nat} {T : Int} {S : pz_S} {j : Int} {bad : α} {K : Nat → Nat → (Nat → Int32) → α} (h1 : 0 ≤ j) (h2 : j < 2560) : mb_gi (pz_mp σ m T S) (m + 15) (iI j) bad K = K 0 2560 (fun i => iI (S 17 i)) := pz_gi (pz_hp_k rfl) h1 h2 (by omega)
theorem pu_17 {σ : mb_S} {m : Nat} {T : Int} {S : pz_S} {j v : Int} {g : Nat → Int32} (h1 : 0 ≤ j) (h2 : j < 2560) (hg : ∀ i : Nat, g i = iI (S 17 i)) : mb_up (pz_mp σ m T S) (m + 15) (.inl (0, 2560, .inl (upd g (iI j).toNatClampNeg (iI v)))) = pz_mp σ m T (pz_su S 17 j v) := by
  refine pz_up ?_ (fun k' hk' => ?_)
  · rw [funext hg, pz_updf h1 (by omega)]; rfl
  · exact pz_co_17 hk'
theorem pg_18 {α : Type} {σ : mb_S} {m : Nat} {T : Int} {S : pz_S} {j : Int} {bad : α} {K : Nat → Nat → (Nat → Int32) → α} (h1 : 0 ≤ j) (h2 : j < 2560) : mb_gi (pz_mp σ m T S) (m + 16) (iI j) bad K = K 0 2560 (fun i => iI (S 18 i)) := pz_gi (pz_hp_k rfl) h1 h2 (by omega)
theorem pu_18 {σ : mb_S} {m : Nat} {T : Int} {S : pz_S} {j v : Int} {g : Nat → Int32} (h1 : 0 ≤ j) (h2 : j < 2560) (hg : ∀ i : Nat, g i = iI (S 18 i)) : mb_up (pz_mp σ m T S) (m + 16) (.inl (0, 2560, .inl (upd g (iI j).toNatClampNeg (iI v)))) = pz_mp σ m T (pz_su S 18 j v) := by
  refine pz_up ?_ (fun k' hk' => ?_)
  · rw [funext hg, pz_updf h1 (by omega)]; rfl
  · exact pz_co_18 hk'
theorem pg_19 {α : Type} {σ : mb_S} {m : Nat} {T : Int} {S : pz_S} {j : Int} {bad : α} {K : Nat → Nat → (Nat → Int32) → α} (h1 : 0 ≤ j) (h2 : j < 25600) : mb_gi (pz_mp σ m T S) (m + 17) (iI j) bad K = K 0 25600 (fun i => iI (S 19 i)) := pz_gi (pz_hp_k rfl) h1 h2 (by omega)
theorem pu_19 {σ : mb_S} {m : Nat} {T : Int} {S : pz_S} {j v : Int} {g : Nat → Int32} (h1 : 0 ≤ j) (h2 : j < 25600) (hg : ∀ i : Nat, g i = iI (S 19 i)) : mb_up (pz_mp σ m T S) (m + 17) (.inl (0, 25600, .inl (upd g (iI j).toNatClampNeg (iI v)))) = pz_mp σ m T (pz_su S 19 j v) := by
  refine pz_up ?_ (fun k' hk' => ?_)
  · rw [funext hg, pz_updf h1 (by omega)]; rfl
  · exact pz_co_19 hk'
theorem pg_22 {α : Type} {σ : mb_S} {m : Nat} {T : Int} {S : pz_S} {j : Int} {bad : α} {K : Nat → Nat → (Nat → Int32) → α} (h1 : 0 ≤ j) (h2 : j < 40) : mb_gi (pz_mp σ m T S) (m + 18) (iI j) bad K = K 0 40 (fun i => iI (S 22 i)) := pz_gi (pz_hp_k rfl) h1 h2 (by omega)
theorem pu_22 {σ : mb_S} {m : Nat} {T : Int} {S : pz_S} {j v : Int} {g : Nat → Int32} (h1 : 0 ≤ j) (h2 : j < 40) (hg : ∀ i : Nat, g i = iI (S 22 i)) : mb_up (pz_mp σ m T S) (m + 18) (.inl (0, 40, .inl (upd g (iI j).toNatClampNeg (iI v)))) = pz_mp σ m T (pz_su S 22 j v) := by
  refine pz_up ?_ (fun k' hk' => ?_)
  · rw [funext hg, pz_updf h1 (by omega)]; rfl
  · exact pz_co_22 hk'
theorem pg_23 {α : Type} {σ : mb_S} {m : Nat} {T : Int} {S : pz_S} {j : Int} {bad : α} {K : Nat → Nat → (Nat → Int32) → α} (h1 : 0 ≤ j) (h2 : j < 40) : mb_gi (pz_mp σ m T S) (m + 19) (iI j) bad K = K 0 40 (fun i => iI (S 23 i)) := pz_gi (pz_hp_k rfl) h1 h2 (by omega)
theorem pu_23 {σ : mb_S} {m : Nat} {T : Int} {S : pz_S} {j v : Int} {g : Nat → Int32} (h1 : 0 ≤ j) (h2 : j < 40) (hg : ∀ i : Nat, g i = iI (S 23 i)) : mb_up (pz_mp σ m T S) (m + 19) (.inl (0, 40, .inl (upd g (iI j).toNatClampNeg (iI v)))) = pz_mp σ m T (pz_su S 23 j v) := by
  refine pz_up ?_ (fun k' hk' => ?_)
  · rw [funext hg, pz_updf h1 (by omega)]; rfl
  · exact pz_co_23 hk'
theorem pg_24 {α : Type} {σ : mb_S} {m : Nat} {T : Int} {S : pz_S} {j : Int} {bad : α} {K : Nat → Nat → (Nat → Int32) → α} (h1 : 0 ≤ j) (h2 : j < 40) : mb_gi (pz_mp σ m T S) (m + 20) (iI j) bad K = K 2 40 (fun i => iI (S 24 i)) := pz_gi (pz_hp_k rfl) h1 h2 (by omega)
theorem pu_24 {σ : mb_S} {m : Nat} {T : Int} {S : pz_S} {j v : Int} {g : Nat → Int32} (h1 : 0 ≤ j) (h2 : j < 40) (hg : ∀ i : Nat, g i = iI (S 24 i)) : mb_up (pz_mp σ m T S) (m + 20) (.inl (2, 40, .inl (upd g (iI j).toNatClampNeg (iI v)))) = pz_mp σ m T (pz_su S 24 j v) := by
  refine pz_up ?_ (fun k' hk' => ?_)
  · rw [funext hg, pz_updf h1 (by omega)]; rfl
  · exact pz_co_24 hk'
theorem pg_25 {α : Type} {σ : mb_S} {m : Nat} {T : Int} {S : pz_S} {j : Int} {bad : α} {K : Nat → Nat → (Nat → Int32) → α} (h1 : 0 ≤ j) (h2 : j < 40) : mb_gi (pz_mp σ m T S) (m + 21) (iI j) bad K = K 0 40 (fun i => iI (S 25 i)) := pz_gi (pz_hp_k rfl) h1 h2 (by omega)
theorem pu_25 {σ : mb_S} {m : Nat} {T : Int} {S : pz_S} {j v : Int} {g : Nat → Int32} (h1 : 0 ≤ j) (h2 : j < 40) (hg : ∀ i : Nat, g i = iI (S 25 i)) : mb_up (pz_mp σ m T S) (m + 21) (.inl (0, 40, .inl (upd g (iI j).toNatClampNeg (iI v)))) = pz_mp σ m T (pz_su S 25 j v) := by
  refine pz_up ?_ (fun k' hk' => ?_)
  · rw [funext hg, pz_updf h1 (by omega)]; rfl
  · exact pz_co_25 hk'
theorem pg_f {α : Type} {σ : mb_S} {m : Nat} {T : Int} {S : pz_S} {bad : α} {K : List Value → α} : mb_gf (pz_mp σ m T S) m 8 bad K = K (pz_fl m T S) := pz_gf (pz_hp_k (k := 0) rfl)
theorem pg_l {m : Nat} {T : Int} {S : pz_S} : (pz_fl m T S).length = 26 := rfl
theorem pf_0 {m : Nat} {T : Int} {S : pz_S} : (pz_fl m T S).getD 0 .null = .int (iI T) := rfl
theorem pf_1 {m : Nat} {T : Int} {S : pz_S} : (pz_fl m T S).getD 1 .null = .int (iI (S 1 0)) := rfl
theorem pf_2 {m : Nat} {T : Int} {S : pz_S} : (pz_fl m T S).getD 2 .null = .ref (m + 1) := rfl
theorem pf_3 {m : Nat} {T : Int} {S : pz_S} : (pz_fl m T S).getD 3 .null = .ref (m + 2) := rfl
theorem pf_4 {m : Nat} {T : Int} {S : pz_S} : (pz_fl m T S).getD 4 .null = .ref (m + 3) := rfl
theorem pf_5 {m : Nat} {T : Int} {S : pz_S} : (pz_fl m T S).getD 5 .null = .ref (m + 4) := rfl
theorem pf_6 {m : Nat} {T : Int} {S : pz_S} : (pz_fl m T S).getD 6 .null = .ref (m + 5) := rfl
theorem pf_7 {m : Nat} {T : Int} {S : pz_S} : (pz_fl m T S).getD 7 .null = .ref (m + 6) := rfl
theorem pf_8 {m : Nat} {T : Int} {S : pz_S} : (pz_fl m T S).getD 8 .null = .ref (m + 7) := rfl
theorem pf_9 {m : Nat} {T : Int} {S : pz_S} : (pz_fl m T S).getD 9 .null = .int (iI (S 9 0)) := rfl
theorem pf_10 {m : Nat} {T : Int} {S : pz_S} : (pz_fl m T S).getD 10 .null = .ref (m + 8) := rfl
theorem pf_11 {m : Nat} {T : Int} {S : pz_S} : (pz_fl m T S).getD 11 .null = .ref (m + 9) := rfl
theorem pf_12 {m : Nat} {T : Int} {S : pz_S} : (pz_fl m T S).getD 12 .null = .ref (m + 10) := rfl
theorem pf_13 {m : Nat} {T : Int} {S : pz_S} : (pz_fl m T S).getD 13 .null = .ref (m + 11) := rfl
theorem pf_14 {m : Nat} {T : Int} {S : pz_S} : (pz_fl m T S).getD 14 .null = .ref (m + 12) := rfl
theorem pf_15 {m : Nat} {T : Int} {S : pz_S} : (pz_fl m T S).getD 15 .null = .ref (m + 13) := rfl
theorem pf_16 {m : Nat} {T : Int} {S : pz_S} : (pz_fl m T S).getD 16 .null = .ref (m + 14) := rfl
theorem pf_17 {m : Nat} {T : Int} {S : pz_S} : (pz_fl m T S).getD 17 .null = .ref (m + 15) := rfl
theorem pf_18 {m : Nat} {T : Int} {S : pz_S} : (pz_fl m T S).getD 18 .null = .ref (m + 16) := rfl
theorem pf_19 {m : Nat} {T : Int} {S : pz_S} : (pz_fl m T S).getD 19 .null = .ref (m + 17) := rfl
theorem pf_20 {m : Nat} {T : Int} {S : pz_S} : (pz_fl m T S).getD 20 .null = .int (iI (S 20 0)) := rfl
theorem pf_21 {m : Nat} {T : Int} {S : pz_S} : (pz_fl m T S).getD 21 .null = .int (iI (S 21 0)) := rfl
theorem pf_22 {m : Nat} {T : Int} {S : pz_S} : (pz_fl m T S).getD 22 .null = .ref (m + 18) := rfl
theorem pf_23 {m : Nat} {T : Int} {S : pz_S} : (pz_fl m T S).getD 23 .null = .ref (m + 19) := rfl
theorem pf_24 {m : Nat} {T : Int} {S : pz_S} : (pz_fl m T S).getD 24 .null = .ref (m + 20) := rfl
theorem pf_25 {m : Nat} {T : Int} {S : pz_S} : (pz_fl m T S).getD 25 .null = .ref (m + 21) := rfl
theorem pu_0 {σ : mb_S} {m : Nat} {T : Int} {S : pz_S} {v : Int} : mb_up (pz_mp σ m T S) m (.inr (8, (pz_fl m T S).set 0 (.int (iI v)))) = pz_mp σ m v S := pz_up (k := 0) rfl (fun k h => pz_co_0 h)
theorem pu_1 {σ : mb_S} {m : Nat} {T : Int} {S : pz_S} {v : Int} : mb_up (pz_mp σ m T S) m (.inr (8, (pz_fl m T S).set 1 (.int (iI v)))) = pz_mp σ m T (pz_su S 1 0 v) := pz_up (k := 0) rfl (fun _ h => pz_co_1 h)
theorem pu_9 {σ : mb_S} {m : Nat} {T : Int} {S : pz_S} {v : Int} : mb_up (pz_mp σ m T S) m (.inr (8, (pz_fl m T S).set 9 (.int (iI v)))) = pz_mp σ m T (pz_su S 9 0 v) := pz_up (k := 0) rfl (fun _ h => pz_co_9 h)
theorem pu_20 {σ : mb_S} {m : Nat} {T : Int} {S : pz_S} {v : Int} : mb_up (pz_mp σ m T S) m (.inr (8, (pz_fl m T S).set 20 (.int (iI v)))) = pz_mp σ m T (pz_su S 20 0 v) := pz_up (k := 0) rfl (fun _ h => pz_co_20 h)
theorem pu_21 {σ : mb_S} {m : Nat} {T : Int} {S : pz_S} {v : Int} : mb_up (pz_mp σ m T S) m (.inr (8, (pz_fl m T S).set 21 (.int (iI v)))) = pz_mp σ m T (pz_su S 21 0 v) := pz_up (k := 0) rfl (fun _ h => pz_co_21 h)
