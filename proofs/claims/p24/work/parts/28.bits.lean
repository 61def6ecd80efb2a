/-! p24: bits of a draw; numbers as Int32 -/
theorem lb_cond (x : Int32) : x.toInt = if 2 * x.toBitVec.toNat < 4294967296 then (x.toBitVec.toNat : Int) else (x.toBitVec.toNat : Int) - 4294967296 := BitVec.toInt_eq_toNat_cond _
theorem lb_msk (x m : Int32) (hm : 0 ≤ m.toInt) : 0 ≤ (x &&& m).toInt ∧ (x &&& m).toInt ≤ m.toInt := by
  have e : (x &&& m).toBitVec.toNat = x.toBitVec.toNat &&& m.toBitVec.toNat := by rw [Int32.toBitVec_and, BitVec.toNat_and]
  have h1 : x.toBitVec.toNat &&& m.toBitVec.toNat ≤ m.toBitVec.toNat := Nat.and_le_right
  have h2 := m.toBitVec.isLt
  have a := lb_cond m
  have b := lb_cond (x &&& m)
  rw [e] at b
  split at a <;> split at b <;> omega
theorem lb_and (x m : Int32) (M : Int) (hm : m.toInt = M) (h0 : 0 ≤ M) : ∃ j : Int, 0 ≤ j ∧ j ≤ M ∧ x &&& m = iI j := by
  have h := lb_msk x m (by omega)
  exact ⟨(x &&& m).toInt, h.1, by omega, (pz_of _).symm⟩
theorem lb_sh (x q : Int32) (k : Nat) (hq : (q.toBitVec.smod 32).toNat = k) : (x >>> q).toInt = x.toInt / (2 ^ k : Nat) := by
  show (x.toBitVec.sshiftRight' (q.toBitVec.smod 32)).toInt = _
  rw [BitVec.toInt_sshiftRight', Int.shiftRight_eq_div_pow, hq]
  rfl
theorem lb_shr {y : Int} {q : Int32} (k : Nat) (hq : (q.toBitVec.smod 32).toNat = k) (h1 : -2147483648 ≤ y) (h2 : y ≤ 2147483647) : iI y >>> q = iI (y / (2 ^ k : Nat)) := by
  rw [← pz_of (iI y >>> q), lb_sh _ _ k hq, pz_toInt h1 h2]
theorem lb_rem {a n : Int} (h0 : 0 ≤ a) (h1 : a ≤ 2147483647) (h2 : 1 ≤ n) (h3 : n ≤ 2147483647) : iI a % iI n = iI (a % n) := by
  rw [← pz_of (iI a % iI n), Int32.toInt_mod, pz_toInt (by omega) h1, pz_toInt (by omega) h3, Int.tmod_eq_emod_of_nonneg h0]
theorem lb_s1 {y : Int} (h0 : 0 ≤ y) (h1 : y ≤ 134217727) : iI y >>> (iI 1 &&& 31) = iI (y / 2) := lb_shr 1 (by decide +kernel) (by omega) (by omega)
theorem lb_s2 {y : Int} (h0 : 0 ≤ y) (h1 : y ≤ 134217727) : iI y >>> (iI 2 &&& 31) = iI (y / 4) := lb_shr 2 (by decide +kernel) (by omega) (by omega)
theorem lb_s3 {y : Int} (h0 : 0 ≤ y) (h1 : y ≤ 134217727) : iI y >>> (iI 3 &&& 31) = iI (y / 8) := lb_shr 3 (by decide +kernel) (by omega) (by omega)
theorem lb_s4 {y : Int} (h0 : 0 ≤ y) (h1 : y ≤ 134217727) : iI y >>> (iI 4 &&& 31) = iI (y / 16) := lb_shr 4 (by decide +kernel) (by omega) (by omega)
theorem lb_s5 {y : Int} (h0 : 0 ≤ y) (h1 : y ≤ 134217727) : iI y >>> (iI 5 &&& 31) = iI (y / 32) := lb_shr 5 (by decide +kernel) (by omega) (by omega)
theorem lb_s6 {y : Int} (h0 : 0 ≤ y) (h1 : y ≤ 134217727) : iI y >>> (iI 6 &&& 31) = iI (y / 64) := lb_shr 6 (by decide +kernel) (by omega) (by omega)
theorem lb_s9 {y : Int} (h0 : 0 ≤ y) (h1 : y ≤ 134217727) : iI y >>> (iI 9 &&& 31) = iI (y / 512) := lb_shr 9 (by decide +kernel) (by omega) (by omega)
theorem lb_r {a n : Int} (h0 : 0 ≤ a) (h1 : a ≤ 2147483647) (h2 : 1 ≤ n) (h3 : n ≤ 2147483647) : ∃ j : Int, 0 ≤ j ∧ j < n ∧ iI a % iI n = iI j := ⟨a % n, Int.emod_nonneg _ (by omega), Int.emod_lt_of_pos _ (by omega), lb_rem h0 h1 h2 h3⟩
theorem lb_n9 : (9 : Int32) = iI 9 := rfl
theorem lb_n11 : (11 : Int32) = iI 11 := rfl
theorem lb_n13 : (13 : Int32) = iI 13 := rfl
theorem lb_n16 : (16 : Int32) = iI 16 := rfl
theorem lb_n17 : (17 : Int32) = iI 17 := rfl
theorem lb_n19 : (19 : Int32) = iI 19 := rfl
theorem lb_n22 : (22 : Int32) = iI 22 := rfl
theorem lb_n24 : (24 : Int32) = iI 24 := rfl
theorem lb_n25 : (25 : Int32) = iI 25 := rfl
theorem lb_n30 : (30 : Int32) = iI 30 := rfl
theorem lb_n31 : (31 : Int32) = iI 31 := rfl
theorem lb_n33 : (33 : Int32) = iI 33 := rfl
theorem lb_n60 : (60 : Int32) = iI 60 := rfl
theorem lb_n110 : (110 : Int32) = iI 110 := rfl
theorem lb_n150 : (150 : Int32) = iI 150 := rfl
theorem lb_n200 : (200 : Int32) = iI 200 := rfl
theorem lb_n1999 : (1999 : Int32) = iI 1999 := rfl
theorem lb_nm11 : (-1000011 : Int32) = iI (-1000011) := rfl
theorem lb_nm12 : (-1000012 : Int32) = iI (-1000012) := rfl
theorem lb_nm13 : (-1000013 : Int32) = iI (-1000013) := rfl
