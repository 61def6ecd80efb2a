/-! each call: class and reference answer alike -/
section
variable {σ σ' : mb_S} {S S' : pz_S} {ad ad' : rz_A} {Fo : Nat → Prop} {x m o : Nat} {T : Int}
theorem pk_asset {N : Int} (hF : rz_Fx m o Fo) (h : rz_St σ S ad T x m o Fo) (h16 : ∀ i, S 16 i ≤ N) (hN : N ≤ 999999998) : rz_Pk σ N 140 99 [] x m o Fo rz_vi1 := by
  have hst := h
  obtain ⟨⟨hR, hx0⟩, hIn, hmp, hog⟩ := h
  obtain ⟨hW, hV, hI, hJ⟩ := hIn
  have hIn : rz_In S := ⟨hW, hV, hI, hJ⟩
  subst hx0
  have hx := rz_geq hR (t := 0) (i := 0) rfl (fun _ k => k)
  have h161 : ∀ i, S 16 i ≤ N + 1 := fun i => by have := h16 i; omega
  by_cases c : S 1 0 = 8
  · exact rz_pk_thr hF hst (by decide) h16 (wL_asset_0 hx (fc_asset1 hW hR c)) (fun s d Q hd => (pc_asset hW (by omega)).trans (if_pos c))
  · obtain ⟨σ1, ad1, a1, a2, a3, a4⟩ := fc_asset hW hR hJ c
    exact rz_pk_ok hF hst a1 a2 a3 (rz_In_asset hIn c) (fun i => by rw [pz_su_t (by decide)]; exact h161 i) (fun g ho => wL_asset_ok hx a4 ho) (fun s d Q hd => (pc_asset hW (by omega)).trans (if_neg c))
theorem pk_bone {N : Int} {a p : Int} (hF : rz_Fx m o Fo) (h : rz_St σ S ad T x m o Fo) (h16 : ∀ i, S 16 i ≤ N) (hN : N ≤ 999999998) (ha1 : -2147483648 ≤ a) (ha2 : a ≤ 2147483647) (hp1 : -2147483648 ≤ p) (hp2 : p ≤ 2147483647) : rz_Pk σ N 141 100 [.int (iI a), .int (iI p)] x m o Fo rz_vi1 := by
  have hst := h
  obtain ⟨⟨hR, hx0⟩, hIn, hmp, hog⟩ := h
  obtain ⟨hW, hV, hI, hJ⟩ := hIn
  have hIn : rz_In S := ⟨hW, hV, hI, hJ⟩
  subst hx0
  have hx := rz_geq hR (t := 0) (i := 0) rfl (fun _ k => k)
  have h161 : ∀ i, S 16 i ≤ N + 1 := fun i => by have := h16 i; omega
  by_cases c : 0 ≤ a ∧ a ≤ S 1 0 - 1
  · have w2 := pw_2 hW a
    by_cases c2 : p = -1 ∨ (0 ≤ p ∧ p ≤ S 3 a - 1)
    · have cp : pz_isP S a p := ⟨c, c2.imp id (fun g => ⟨⟨c, by omega, by omega⟩, by rw [show pz_rg a (-1) = a from if_pos rfl]; exact g⟩)⟩
      by_cases c3 : S 3 a = 10
      · exact rz_pk_thr hF hst (by decide) h16 (wL_bone_0 hx (fc_bone3 hW hR ha1 ha2 hp1 hp2 c c2 c3)) (fun s d Q hd => (pc_bone hW (by omega) ha1 ha2 hp1 hp2).trans ((if_neg (fun g => g cp)).trans (if_pos c3)))
      · obtain ⟨σ1, ad1, a1, a2, a3, a4⟩ := fc_bone hW hR ha1 ha2 hp1 hp2 hJ c c2 c3
        exact rz_pk_ok hF hst a1 a2 a3 (rz_In_bone hIn c c2 c3) (fun i => by rw [pz_su_t (by decide), pz_su_t (by decide)]; exact h161 i) (fun g ho => wL_bone_ok hx a4 ho) (fun s d Q hd => (pc_bone hW (by omega) ha1 ha2 hp1 hp2).trans ((if_neg (fun g => g cp)).trans (if_neg c3)))
    · have cp : ¬ pz_isP S a p := fun g => c2 (g.2.imp id (fun g => by have := g.2; rw [show pz_rg a (-1) = a from if_pos rfl] at this; exact this))
      exact rz_pk_thr hF hst (by decide) h16 (wL_bone_2 hx (fc_bone2 hW hR ha1 ha2 hp1 hp2 c c2)) (fun s d Q hd => (pc_bone hW (by omega) ha1 ha2 hp1 hp2).trans (if_pos cp))
  · have cp : ¬ pz_isP S a p := fun g => c g.1
    exact rz_pk_thr hF hst (by decide) h16 (wL_bone_2 hx (fc_bone1 hW hR ha1 ha2 hp1 hp2 c)) (fun s d Q hd => (pc_bone hW (by omega) ha1 ha2 hp1 hp2).trans (if_pos cp))
theorem pk_key {N : Int} {a b f v w : Int} (hF : rz_Fx m o Fo) (h : rz_St σ S ad T x m o Fo) (h16 : ∀ i, S 16 i ≤ N) (hN : N ≤ 999999998) (ha1 : -2147483648 ≤ a) (ha2 : a ≤ 2147483647) (hb1 : -2147483648 ≤ b) (hb2 : b ≤ 2147483647) (hf1 : -2147483648 ≤ f) (hf2 : f ≤ 2147483647) (hv1 : -2147483648 ≤ v) (hv2 : v ≤ 2147483647) (hw1 : -2147483648 ≤ w) (hw2 : w ≤ 2147483647) : rz_Pk σ N 142 103 [.int (iI a), .int (iI b), .int (iI f), .int (iI v), .int (iI w)] x m o Fo rz_vi1 := by
  have hst := h
  obtain ⟨⟨hR, hx0⟩, hIn, hmp, hog⟩ := h
  obtain ⟨hW, hV, hI, hJ⟩ := hIn
  have hIn : rz_In S := ⟨hW, hV, hI, hJ⟩
  subst hx0
  have hx := rz_geq hR (t := 0) (i := 0) rfl (fun _ k => k)
  have h161 : ∀ i, S 16 i ≤ N + 1 := fun i => by have := h16 i; omega
  by_cases c : pz_isB S a (-1) b
  · by_cases c2 : pz_are f v w
    · by_cases c3 : S 5 (10 * a + b) = 12 ∧ ¬ pz_iK S (10 * a + b) f
      · exact rz_pk_thr hF hst (by decide) h16 (wL_key_0 hx (fc_key3 hW hR ha1 ha2 hb1 hb2 hf1 hf2 hv1 hv2 hw1 hw2 c c2 c3)) (fun s d Q hd => (pc_key hW (by omega) ha1 ha2 hb1 hb2 hf1 hf2 hv1 hv2 hw1 hw2).trans ((if_neg (fun g => g c)).trans ((if_neg (fun g => g c2)).trans (if_pos c3))))
      · obtain ⟨σ1, a2, a3, a4⟩ := fc_key hW hR ha1 ha2 hb1 hb2 hf1 hf2 hv1 hv2 hw1 hw2 c c2 c3
        exact rz_pk_ok hF hst rfl a2 a3 (rz_In_put hIn c c2 c3) (fun i => by rw [pz_put_t (by decide) (by decide) (by decide) (by decide)]; exact h161 i) (fun g ho => wL_key_ok hx a4 ho) (fun s d Q hd => (pc_key hW (by omega) ha1 ha2 hb1 hb2 hf1 hf2 hv1 hv2 hw1 hw2).trans ((if_neg (fun g => g c)).trans ((if_neg (fun g => g c2)).trans (if_neg c3))))
    · exact rz_pk_thr hF hst (by decide) h16 (wL_key_1 hx (fc_key2 hW hR ha1 ha2 hb1 hb2 hf1 hf2 hv1 hv2 hw1 hw2 c c2)) (fun s d Q hd => (pc_key hW (by omega) ha1 ha2 hb1 hb2 hf1 hf2 hv1 hv2 hw1 hw2).trans ((if_neg (fun g => g c)).trans (if_pos c2)))
  · exact rz_pk_thr hF hst (by decide) h16 (wL_key_2 hx (fc_key1 hW hR ha1 ha2 hb1 hb2 hf1 hf2 hv1 hv2 hw1 hw2 c)) (fun s d Q hd => (pc_key hW (by omega) ha1 ha2 hb1 hb2 hf1 hf2 hv1 hv2 hw1 hw2).trans (if_pos c))
theorem pk_unkey {N : Int} {a b f : Int} (hF : rz_Fx m o Fo) (h : rz_St σ S ad T x m o Fo) (h16 : ∀ i, S 16 i ≤ N) (hN : N ≤ 999999998) (ha1 : -2147483648 ≤ a) (ha2 : a ≤ 2147483647) (hb1 : -2147483648 ≤ b) (hb2 : b ≤ 2147483647) (hf1 : -2147483648 ≤ f) (hf2 : f ≤ 2147483647) : rz_Pk σ N 143 104 [.int (iI a), .int (iI b), .int (iI f)] x m o Fo rz_vb := by
  have hst := h
  obtain ⟨⟨hR, hx0⟩, hIn, hmp, hog⟩ := h
  obtain ⟨hW, hV, hI, hJ⟩ := hIn
  have hIn : rz_In S := ⟨hW, hV, hI, hJ⟩
  subst hx0
  have hx := rz_geq hR (t := 0) (i := 0) rfl (fun _ k => k)
  have h161 : ∀ i, S 16 i ≤ N + 1 := fun i => by have := h16 i; omega
  by_cases c : pz_isB S a (-1) b
  · by_cases c2 : 0 ≤ f ∧ f ≤ 99
    · by_cases c3 : pz_iK S (10 * a + b) f
      · obtain ⟨σ1, a2, a3, a4⟩ := fc_unkey hW hR ha1 ha2 hb1 hb2 hf1 hf2 c c2 c3
        exact rz_pk_ok hF hst rfl a2 a3 (rz_In_tk hIn c c3) (fun i => by show rz_tk S (10 * a + b) f 16 i ≤ _; rw [rz_tk_t (by decide) (by decide) (by decide) (by decide)]; exact h161 i) (fun g ho => by rw [rz_vbe (Or.inr rfl) ]; exact wL_unkey_ok hx a4 (Or.inr rfl) ho) (fun s d Q hd => (pc_unkey hW (by omega) ha1 ha2 hb1 hb2 hf1 hf2).trans ((if_neg (fun g => g c)).trans ((if_neg (fun g => g c2)).trans (if_pos c3))))
      · exact rz_pk_ok hF hst rfl hR rz_Fr0 hIn h161 (fun g ho => by rw [rz_vbe (Or.inl rfl) ]; exact wL_unkey_ok hx (fun d Q hd => (fc_unkey3 hW hR ha1 ha2 hb1 hb2 hf1 hf2 c c2 c3 d Q hd)) (Or.inl rfl) ho) (fun s d Q hd => (pc_unkey hW (by omega) ha1 ha2 hb1 hb2 hf1 hf2).trans ((if_neg (fun g => g c)).trans ((if_neg (fun g => g c2)).trans (if_neg c3))))
    · exact rz_pk_thr hF hst (by decide) h16 (wL_unkey_1 hx (fc_unkey2 hW hR ha1 ha2 hb1 hb2 hf1 hf2 c c2)) (fun s d Q hd => (pc_unkey hW (by omega) ha1 ha2 hb1 hb2 hf1 hf2).trans ((if_neg (fun g => g c)).trans (if_pos c2)))
  · exact rz_pk_thr hF hst (by decide) h16 (wL_unkey_2 hx (fc_unkey1 hW hR ha1 ha2 hb1 hb2 hf1 hf2 c)) (fun s d Q hd => (pc_unkey hW (by omega) ha1 ha2 hb1 hb2 hf1 hf2).trans (if_pos c))
theorem pk_publish {N : Int} {a : Int} (hF : rz_Fx m o Fo) (h : rz_St σ S ad T x m o Fo) (h16 : ∀ i, S 16 i ≤ N) (hN : N ≤ 999999998) (ha1 : -2147483648 ≤ a) (ha2 : a ≤ 2147483647) : rz_Pk σ N 144 105 [.int (iI a)] x m o Fo rz_vi1 := by
  have hst := h
  obtain ⟨⟨hR, hx0⟩, hIn, hmp, hog⟩ := h
  obtain ⟨hW, hV, hI, hJ⟩ := hIn
  have hIn : rz_In S := ⟨hW, hV, hI, hJ⟩
  subst hx0
  have hx := rz_geq hR (t := 0) (i := 0) rfl (fun _ k => k)
  have h161 : ∀ i, S 16 i ≤ N + 1 := fun i => by have := h16 i; omega
  by_cases c : 0 ≤ a ∧ a ≤ S 1 0 - 1
  · by_cases c2 : S 2 a = 12 ∨ S 3 a = 0
    · exact rz_pk_thr hF hst (by decide) h16 (wL_publish_0 hx (fc_publish2 hW hR ha1 ha2 c c2)) (fun s d Q hd => (pc_publish hW (by omega) ha1 ha2).trans ((if_neg (fun g => g c)).trans (if_pos c2)))
    · obtain ⟨σ1, ad1, a1, a2, a3, a4⟩ := fc_publish hW hR ha1 ha2 hV hJ c c2
      exact rz_pk_ok hF hst a1 a2 a3 (rz_In_pub hIn c c2) (fun i => by rw [rz_pub_t (by decide) (by decide) (by decide) (by decide) (by decide) (by decide) (by decide)]; exact h161 i) (fun g ho => wL_publish_ok hx a4 ho) (fun s d Q hd => (pc_publish hW (by omega) ha1 ha2).trans ((if_neg (fun g => g c)).trans (if_neg c2)))
  · exact rz_pk_thr hF hst (by decide) h16 (wL_publish_2 hx (fc_publish1 hW hR ha1 ha2 c)) (fun s d Q hd => (pc_publish hW (by omega) ha1 ha2).trans (if_pos c))
theorem pk_pose {N : Int} {a v b f : Int} (hF : rz_Fx m o Fo) (h : rz_St σ S ad T x m o Fo) (h16 : ∀ i, S 16 i ≤ N) (hN : N ≤ 999999998) (ha1 : -2147483648 ≤ a) (ha2 : a ≤ 2147483647) (hv1 : -2147483648 ≤ v) (hv2 : v ≤ 2147483647) (hb1 : -2147483648 ≤ b) (hb2 : b ≤ 2147483647) (hf1 : -2147483648 ≤ f) (hf2 : f ≤ 2147483647) : rz_Pk σ N 145 107 [.int (iI a), .int (iI v), .int (iI b), .int (iI f)] x m o Fo rz_vi1 := by
  have hst := h
  obtain ⟨⟨hR, hx0⟩, hIn, hmp, hog⟩ := h
  obtain ⟨hW, hV, hI, hJ⟩ := hIn
  have hIn : rz_In S := ⟨hW, hV, hI, hJ⟩
  subst hx0
  have hx := rz_geq hR (t := 0) (i := 0) rfl (fun _ k => k)
  have h161 : ∀ i, S 16 i ≤ N + 1 := fun i => by have := h16 i; omega
  by_cases c : pz_isB S a v b
  · by_cases c2 : 0 ≤ f ∧ f ≤ 99
    · exact rz_pk_ok hF hst rfl hR rz_Fr0 hIn h161 (fun g ho => wL_pose_ok hx (fun d Q hd => ((pc_poseC hW hV (by omega) (rz_C hW hR) ha1 ha2 hv1 hv2 hb1 hb2 hf1 hf2).trans ((if_neg (fun g => g c)).trans (if_neg (fun g => g c2))))) ho) (fun s d Q hd => (pc_pose hW hV (by omega) ha1 ha2 hv1 hv2 hb1 hb2 hf1 hf2).trans ((if_neg (fun g => g c)).trans (if_neg (fun g => g c2))))
    · exact rz_pk_thr hF hst (by decide) h16 (wL_pose_1 hx (fun d Q hd => (pc_poseC hW hV (by omega) (rz_C hW hR) ha1 ha2 hv1 hv2 hb1 hb2 hf1 hf2).trans ((if_neg (fun g => g c)).trans (if_pos c2)))) (fun s d Q hd => (pc_pose hW hV (by omega) ha1 ha2 hv1 hv2 hb1 hb2 hf1 hf2).trans ((if_neg (fun g => g c)).trans (if_pos c2)))
  · exact rz_pk_thr hF hst (by decide) h16 (wL_pose_2 hx (fun d Q hd => (pc_poseC hW hV (by omega) (rz_C hW hR) ha1 ha2 hv1 hv2 hb1 hb2 hf1 hf2).trans (if_pos c))) (fun s d Q hd => (pc_pose hW hV (by omega) ha1 ha2 hv1 hv2 hb1 hb2 hf1 hf2).trans (if_pos c))
theorem pk_poseAnew {N : Int} {a v b f : Int} (hF : rz_Fx m o Fo) (h : rz_St σ S ad T x m o Fo) (h16 : ∀ i, S 16 i ≤ N) (hN : N ≤ 999999998) (ha1 : -2147483648 ≤ a) (ha2 : a ≤ 2147483647) (hv1 : -2147483648 ≤ v) (hv2 : v ≤ 2147483647) (hb1 : -2147483648 ≤ b) (hb2 : b ≤ 2147483647) (hf1 : -2147483648 ≤ f) (hf2 : f ≤ 2147483647) : rz_Pk σ N 146 108 [.int (iI a), .int (iI v), .int (iI b), .int (iI f)] x m o Fo rz_vi1 := by
  have hst := h
  obtain ⟨⟨hR, hx0⟩, hIn, hmp, hog⟩ := h
  obtain ⟨hW, hV, hI, hJ⟩ := hIn
  have hIn : rz_In S := ⟨hW, hV, hI, hJ⟩
  subst hx0
  have hx := rz_geq hR (t := 0) (i := 0) rfl (fun _ k => k)
  have h161 : ∀ i, S 16 i ≤ N + 1 := fun i => by have := h16 i; omega
  by_cases c : pz_isB S a v b
  · by_cases c2 : 0 ≤ f ∧ f ≤ 99
    · exact rz_pk_ok hF hst rfl hR rz_Fr0 hIn h161 (fun g ho => wL_poseAnew_ok hx (fun d Q hd => ((pc_poseAnewC hW hV (by omega) (rz_C hW hR) ha1 ha2 hv1 hv2 hb1 hb2 hf1 hf2).trans ((if_neg (fun g => g c)).trans (if_neg (fun g => g c2))))) ho) (fun s d Q hd => (pc_poseAnew hW hV (by omega) ha1 ha2 hv1 hv2 hb1 hb2 hf1 hf2).trans ((if_neg (fun g => g c)).trans (if_neg (fun g => g c2))))
    · exact rz_pk_thr hF hst (by decide) h16 (wL_poseAnew_1 hx (fun d Q hd => (pc_poseAnewC hW hV (by omega) (rz_C hW hR) ha1 ha2 hv1 hv2 hb1 hb2 hf1 hf2).trans ((if_neg (fun g => g c)).trans (if_pos c2)))) (fun s d Q hd => (pc_poseAnew hW hV (by omega) ha1 ha2 hv1 hv2 hb1 hb2 hf1 hf2).trans ((if_neg (fun g => g c)).trans (if_pos c2)))
  · exact rz_pk_thr hF hst (by decide) h16 (wL_poseAnew_2 hx (fun d Q hd => (pc_poseAnewC hW hV (by omega) (rz_C hW hR) ha1 ha2 hv1 hv2 hb1 hb2 hf1 hf2).trans (if_pos c))) (fun s d Q hd => (pc_poseAnew hW hV (by omega) ha1 ha2 hv1 hv2 hb1 hb2 hf1 hf2).trans (if_pos c))
theorem pk_ofAsset {N : Int} {a w : Int} (hF : rz_Fx m o Fo) (h : rz_St σ S ad T x m o Fo) (h16 : ∀ i, S 16 i ≤ N) (hN : N ≤ 999999998) (ha1 : -2147483648 ≤ a) (ha2 : a ≤ 2147483647) (hw1 : -2147483648 ≤ w) (hw2 : w ≤ 2147483647) : rz_Pk σ N 147 110 [.int (iI a), .int (iI w)] x m o Fo rz_vi1 := by
  have hst := h
  obtain ⟨⟨hR, hx0⟩, hIn, hmp, hog⟩ := h
  obtain ⟨hW, hV, hI, hJ⟩ := hIn
  have hIn : rz_In S := ⟨hW, hV, hI, hJ⟩
  subst hx0
  have hx := rz_geq hR (t := 0) (i := 0) rfl (fun _ k => k)
  have h161 : ∀ i, S 16 i ≤ N + 1 := fun i => by have := h16 i; omega
  by_cases c : (0 ≤ a ∧ a ≤ S 1 0 - 1) ∧ 0 ≤ w ∧ w ≤ 2
  · exact rz_pk_ok hF hst rfl hR rz_Fr0 hIn h161 (fun g ho => wL_ofAsset_ok hx (fun d Q hd => ((pc_ofAssetC hW (by omega) (rz_C hW hR) ha1 ha2 hw1 hw2).trans (if_neg (fun g => g c)))) ho) (fun s d Q hd => (pc_ofAsset hW (by omega) ha1 ha2 hw1 hw2).trans (if_neg (fun g => g c)))
  · exact rz_pk_thr hF hst (by decide) h16 (wL_ofAsset_2 hx (fun d Q hd => (pc_ofAssetC hW (by omega) (rz_C hW hR) ha1 ha2 hw1 hw2).trans (if_pos c))) (fun s d Q hd => (pc_ofAsset hW (by omega) ha1 ha2 hw1 hw2).trans (if_pos c))
theorem pk_scene {N : Int} {n : Int} (hF : rz_Fx m o Fo) (h : rz_St σ S ad T x m o Fo) (h16 : ∀ i, S 16 i ≤ N) (hN : N ≤ 999999998) (hn1 : -2147483648 ≤ n) (hn2 : n ≤ 2147483647) : rz_Pk σ N 148 111 [.int (iI n)] x m o Fo rz_vi1 := by
  have hst := h
  obtain ⟨⟨hR, hx0⟩, hIn, hmp, hog⟩ := h
  obtain ⟨hW, hV, hI, hJ⟩ := hIn
  have hIn : rz_In S := ⟨hW, hV, hI, hJ⟩
  subst hx0
  have hx := rz_geq hR (t := 0) (i := 0) rfl (fun _ k => k)
  have h161 : ∀ i, S 16 i ≤ N + 1 := fun i => by have := h16 i; omega
  by_cases c : 1 ≤ n ∧ n ≤ 40
  · by_cases c2 : S 9 0 = 8
    · exact rz_pk_thr hF hst (by decide) h16 (wL_scene_0 hx (fc_scene2 hW hR hn1 hn2 c c2)) (fun s d Q hd => (pc_scene hW (by omega) hn1 hn2).trans ((if_neg (fun g => g c)).trans (if_pos c2)))
    · obtain ⟨σ1, ad1, a1, a2, a3, a4⟩ := fc_scene hW hR hn1 hn2 hJ c c2
      exact rz_pk_ok hF hst a1 a2 a3 (rz_In_scene hIn c c2) (fun i => by rw [pz_su_t (by decide), pz_shw_t (by decide), pz_su_t (by decide)]; exact h161 i) (fun g ho => wL_scene_ok hx a4 ho) (fun s d Q hd => (pc_scene hW (by omega) hn1 hn2).trans ((if_neg (fun g => g c)).trans (if_neg c2)))
  · exact rz_pk_thr hF hst (by decide) h16 (wL_scene_1 hx (fc_scene1 hW hR hn1 hn2 c)) (fun s d Q hd => (pc_scene hW (by omega) hn1 hn2).trans (if_pos c))
theorem pk_cast {N : Int} {s a v f g : Int} (hF : rz_Fx m o Fo) (h : rz_St σ S ad T x m o Fo) (h16 : ∀ i, S 16 i ≤ N) (hN : N ≤ 999999998) (hs1 : -2147483648 ≤ s) (hs2 : s ≤ 2147483647) (ha1 : -2147483648 ≤ a) (ha2 : a ≤ 2147483647) (hv1 : -2147483648 ≤ v) (hv2 : v ≤ 2147483647) (hf1 : -2147483648 ≤ f) (hf2 : f ≤ 2147483647) (hg1 : -2147483648 ≤ g) (hg2 : g ≤ 2147483647) : rz_Pk σ N 149 112 [.int (iI s), .int (iI a), .int (iI v), .int (iI f), .int (iI g)] x m o Fo rz_vi1 := by
  have hst := h
  obtain ⟨⟨hR, hx0⟩, hIn, hmp, hog⟩ := h
  obtain ⟨hW, hV, hI, hJ⟩ := hIn
  have hIn : rz_In S := ⟨hW, hV, hI, hJ⟩
  subst hx0
  have hx := rz_geq hR (t := 0) (i := 0) rfl (fun _ k => k)
  have h161 : ∀ i, S 16 i ≤ N + 1 := fun i => by have := h16 i; omega
  by_cases c : (0 ≤ s ∧ s ≤ S 9 0 - 1) ∧ pz_isR S a v
  · by_cases c2 : (0 ≤ f ∧ f ≤ 39) ∧ f ≤ g ∧ g ≤ 39
    · obtain ⟨σ1, ad1, a1, a2, a3, a4⟩ := fc_cast hW hR hs1 hs2 ha1 ha2 hv1 hv2 hf1 hf2 hg1 hg2 hI c c2
      exact rz_pk_ok hF hst a1 a2 a3 (rz_In_cast hIn c c2) (fun i => by unfold pz_cst; rw [pz_su_t (by decide), pz_su_t (by decide), pz_su_t (by decide), pz_su_t (by decide)]; exact h161 i) (fun g ho => wL_cast_ok hx a4 ho) (fun s d Q hd => (pc_cast hW (by omega) hs1 hs2 ha1 ha2 hv1 hv2 hf1 hf2 hg1 hg2).trans ((if_neg (fun u => u c)).trans (if_neg (fun u => u c2))))
    · exact rz_pk_thr hF hst (by decide) h16 (wL_cast_1 hx (fc_cast2 hW hR hs1 hs2 ha1 ha2 hv1 hv2 hf1 hf2 hg1 hg2 c c2)) (fun s d Q hd => (pc_cast hW (by omega) hs1 hs2 ha1 ha2 hv1 hv2 hf1 hf2 hg1 hg2).trans ((if_neg (fun u => u c)).trans (if_pos c2)))
  · exact rz_pk_thr hF hst (by decide) h16 (wL_cast_2 hx (fc_cast1 hW hR hs1 hs2 ha1 ha2 hv1 hv2 hf1 hf2 hg1 hg2 c)) (fun s d Q hd => (pc_cast hW (by omega) hs1 hs2 ha1 ha2 hv1 hv2 hf1 hf2 hg1 hg2).trans (if_pos c))
theorem pk_cut {N : Int} {s g k : Int} (hF : rz_Fx m o Fo) (h : rz_St σ S ad T x m o Fo) (h16 : ∀ i, S 16 i ≤ N) (hN : N ≤ 999999998) (hs1 : -2147483648 ≤ s) (hs2 : s ≤ 2147483647) (hg1 : -2147483648 ≤ g) (hg2 : g ≤ 2147483647) (hk1 : -2147483648 ≤ k) (hk2 : k ≤ 2147483647) : rz_Pk σ N 150 115 [.int (iI s), .int (iI g), .int (iI k)] x m o Fo rz_vi1 := by
  have hst := h
  obtain ⟨⟨hR, hx0⟩, hIn, hmp, hog⟩ := h
  obtain ⟨hW, hV, hI, hJ⟩ := hIn
  have hIn : rz_In S := ⟨hW, hV, hI, hJ⟩
  subst hx0
  have hx := rz_geq hR (t := 0) (i := 0) rfl (fun _ k => k)
  have h161 : ∀ i, S 16 i ≤ N + 1 := fun i => by have := h16 i; omega
  by_cases c : pz_isF S s g
  · by_cases c2 : k < 1
    · exact rz_pk_thr hF hst (by decide) h16 (wL_cut_1 hx (fc_cut2 hW hR hs1 hs2 hg1 hg2 hk1 hk2 c c2)) (fun s d Q hd => (pc_cut hW (by omega) hs1 hs2 hg1 hg2 hk1 hk2).trans ((if_neg (fun u => u c)).trans (if_pos c2)))
    · by_cases c3 : k ≤ S 10 s - g ∧ k < S 10 s
      · obtain ⟨σ1, ad1, a1, a2, a3, a4⟩ := fc_cut hW hR hs1 hs2 hg1 hg2 hk1 hk2 c c2 c3
        exact rz_pk_ok hF hst a1 a2 a3 (rz_In_cut hIn c c2 c3) (fun i => rz_ct_16u (by omega) (by omega) h161) (fun g ho => wL_cut_ok hx a4 ho) (fun s d Q hd => (pc_cut hW (by omega) hs1 hs2 hg1 hg2 hk1 hk2).trans ((if_neg (fun u => u c)).trans ((if_neg c2).trans (if_neg (fun u => u c3)))))
      · exact rz_pk_thr hF hst (by decide) h16 (wL_cut_0 hx (fc_cut3 hW hR hs1 hs2 hg1 hg2 hk1 hk2 c c2 c3)) (fun s d Q hd => (pc_cut hW (by omega) hs1 hs2 hg1 hg2 hk1 hk2).trans ((if_neg (fun u => u c)).trans ((if_neg c2).trans (if_pos c3))))
  · exact rz_pk_thr hF hst (by decide) h16 (wL_cut_2 hx (fc_cut1 hW hR hs1 hs2 hg1 hg2 hk1 hk2 c)) (fun s d Q hd => (pc_cut hW (by omega) hs1 hs2 hg1 hg2 hk1 hk2).trans (if_pos c))
theorem pk_note {N : Int} {s f : Int} (hF : rz_Fx m o Fo) (h : rz_St σ S ad T x m o Fo) (h16 : ∀ i, S 16 i ≤ N) (hN : N ≤ 999999998) (hs1 : -2147483648 ≤ s) (hs2 : s ≤ 2147483647) (hf1 : -2147483648 ≤ f) (hf2 : f ≤ 2147483647) : rz_Pk σ N 151 116 [.int (iI s), .int (iI f)] x m o Fo rz_vi1 := by
  have hst := h
  obtain ⟨⟨hR, hx0⟩, hIn, hmp, hog⟩ := h
  obtain ⟨hW, hV, hI, hJ⟩ := hIn
  have hIn : rz_In S := ⟨hW, hV, hI, hJ⟩
  subst hx0
  have hx := rz_geq hR (t := 0) (i := 0) rfl (fun _ k => k)
  have h161 : ∀ i, S 16 i ≤ N + 1 := fun i => by have := h16 i; omega
  by_cases c : pz_isF S s f
  · by_cases c2 : S 21 0 = 40
    · exact rz_pk_thr hF hst (by decide) h16 (wL_note_0 hx (fc_note2 hW hR hs1 hs2 hf1 hf2 c c2)) (fun s d Q hd => (pc_note hW (by omega) hs1 hs2 hf1 hf2).trans ((if_neg (fun g => g c)).trans (if_pos c2)))
    · obtain ⟨σ1, ad1, a1, a2, a3, a4⟩ := fc_note hW hR hs1 hs2 hf1 hf2 hJ c c2
      exact rz_pk_ok hF hst a1 a2 a3 (rz_In_note hIn c c2) (fun i => by rw [pz_su_t (by decide), pz_su_t (by decide), pz_su_t (by decide)]; exact h161 i) (fun g ho => wL_note_ok hx a4 ho) (fun s d Q hd => (pc_note hW (by omega) hs1 hs2 hf1 hf2).trans ((if_neg (fun g => g c)).trans (if_neg c2)))
  · exact rz_pk_thr hF hst (by decide) h16 (wL_note_2 hx (fc_note1 hW hR hs1 hs2 hf1 hf2 c)) (fun s d Q hd => (pc_note hW (by omega) hs1 hs2 hf1 hf2).trans (if_pos c))
theorem pk_settle {N : Int} {n : Int} (hF : rz_Fx m o Fo) (h : rz_St σ S ad T x m o Fo) (h16 : ∀ i, S 16 i ≤ N) (hN : N ≤ 999999998) (hn1 : -2147483648 ≤ n) (hn2 : n ≤ 2147483647) : rz_Pk σ N 152 118 [.int (iI n)] x m o Fo rz_vi1 := by
  have hst := h
  obtain ⟨⟨hR, hx0⟩, hIn, hmp, hog⟩ := h
  obtain ⟨hW, hV, hI, hJ⟩ := hIn
  have hIn : rz_In S := ⟨hW, hV, hI, hJ⟩
  subst hx0
  have hx := rz_geq hR (t := 0) (i := 0) rfl (fun _ k => k)
  have h161 : ∀ i, S 16 i ≤ N + 1 := fun i => by have := h16 i; omega
  by_cases c : 0 ≤ n ∧ n ≤ S 21 0 - 1
  · by_cases c2 : S 24 n = 0
    · obtain ⟨σ1, ad1, a1, a2, a3, a4⟩ := fc_settle hW hR hn1 hn2 c c2
      exact rz_pk_ok hF hst a1 a2 a3 (rz_In_settle hIn c) (fun i => by rw [pz_su_t (by decide)]; exact h161 i) (fun g ho => wL_settle_ok hx a4 ho) (fun s d Q hd => (pc_settle hW (by omega) hn1 hn2).trans ((if_neg (fun g => g c)).trans (if_neg (fun g => g c2))))
    · exact rz_pk_thr hF hst (by decide) h16 (wL_settle_0 hx (fc_settle2 hW hR hn1 hn2 c c2)) (fun s d Q hd => (pc_settle hW (by omega) hn1 hn2).trans ((if_neg (fun g => g c)).trans (if_pos c2)))
  · exact rz_pk_thr hF hst (by decide) h16 (wL_settle_2 hx (fc_settle1 hW hR hn1 hn2 c)) (fun s d Q hd => (pc_settle hW (by omega) hn1 hn2).trans (if_pos c))
theorem pk_ofNote {N : Int} {n w : Int} (hF : rz_Fx m o Fo) (h : rz_St σ S ad T x m o Fo) (h16 : ∀ i, S 16 i ≤ N) (hN : N ≤ 999999998) (hn1 : -2147483648 ≤ n) (hn2 : n ≤ 2147483647) (hw1 : -2147483648 ≤ w) (hw2 : w ≤ 2147483647) : rz_Pk σ N 153 119 [.int (iI n), .int (iI w)] x m o Fo rz_vi1 := by
  have hst := h
  obtain ⟨⟨hR, hx0⟩, hIn, hmp, hog⟩ := h
  obtain ⟨hW, hV, hI, hJ⟩ := hIn
  have hIn : rz_In S := ⟨hW, hV, hI, hJ⟩
  subst hx0
  have hx := rz_geq hR (t := 0) (i := 0) rfl (fun _ k => k)
  have h161 : ∀ i, S 16 i ≤ N + 1 := fun i => by have := h16 i; omega
  by_cases c : (0 ≤ n ∧ n ≤ S 21 0 - 1) ∧ 0 ≤ w ∧ w ≤ 3
  · exact rz_pk_ok hF hst rfl hR rz_Fr0 hIn h161 (fun g ho => wL_ofNote_ok hx (fun d Q hd => ((pc_ofNoteC hW (by omega) (rz_C hW hR) hn1 hn2 hw1 hw2).trans (if_neg (fun g => g c)))) ho) (fun s d Q hd => (pc_ofNote hW (by omega) hn1 hn2 hw1 hw2).trans (if_neg (fun g => g c)))
  · exact rz_pk_thr hF hst (by decide) h16 (wL_ofNote_2 hx (fun d Q hd => (pc_ofNoteC hW (by omega) (rz_C hW hR) hn1 hn2 hw1 hw2).trans (if_pos c))) (fun s d Q hd => (pc_ofNote hW (by omega) hn1 hn2 hw1 hw2).trans (if_pos c))
theorem pk_render {N : Int} {s : Int} (hF : rz_Fx m o Fo) (h : rz_St σ S ad T x m o Fo) (h16 : ∀ i, S 16 i ≤ N) (hN : N ≤ 999999998) (hs1 : -2147483648 ≤ s) (hs2 : s ≤ 2147483647) : rz_Pk σ N 154 126 [.int (iI s)] x m o Fo rz_vi1 := by
  have hst := h
  obtain ⟨⟨hR, hx0⟩, hIn, hmp, hog⟩ := h
  obtain ⟨hW, hV, hI, hJ⟩ := hIn
  have hIn : rz_In S := ⟨hW, hV, hI, hJ⟩
  subst hx0
  have hx := rz_geq hR (t := 0) (i := 0) rfl (fun _ k => k)
  have h161 : ∀ i, S 16 i ≤ N + 1 := fun i => by have := h16 i; omega
  by_cases c : 0 ≤ s ∧ s ≤ S 9 0 - 1
  · have w10 := pw_10 hW s
    have hr := rz_In_rS (N := S 10 s) (B := N) c.1 w10.2 (by omega) (S 10 s).toNat 0 S hIn (by omega) rfl (by omega) (by omega) (fun j _ _ => h16 _) h161
    obtain ⟨σ1, ad1, a1, a2, a3, a4⟩ := fc_render hW hR hs1 hs2 hI hJ (fun i => by have := h16 i; omega) c
    exact rz_pk_ok hF hst a1 a2 a3 (hr.1) (hr.2) (fun g ho => wL_render_ok hx a4 ho) (fun s d Q hd => (pc_render hW hV (by omega) (fun i => by have := h16 i; omega) hs1 hs2).trans (if_neg (fun g => g c)))
  · exact rz_pk_thr hF hst (by decide) h16 (wL_render_2 hx (fc_render1 hW hR hs1 hs2 c)) (fun s d Q hd => (pc_render hW hV (by omega) (fun i => by have := h16 i; omega) hs1 hs2).trans (if_pos c))
theorem pk_renderOne {N : Int} {s f : Int} (hF : rz_Fx m o Fo) (h : rz_St σ S ad T x m o Fo) (h16 : ∀ i, S 16 i ≤ N) (hN : N ≤ 999999998) (hs1 : -2147483648 ≤ s) (hs2 : s ≤ 2147483647) (hf1 : -2147483648 ≤ f) (hf2 : f ≤ 2147483647) : rz_Pk σ N 155 127 [.int (iI s), .int (iI f)] x m o Fo rz_vb := by
  have hst := h
  obtain ⟨⟨hR, hx0⟩, hIn, hmp, hog⟩ := h
  obtain ⟨hW, hV, hI, hJ⟩ := hIn
  have hIn : rz_In S := ⟨hW, hV, hI, hJ⟩
  subst hx0
  have hx := rz_geq hR (t := 0) (i := 0) rfl (fun _ k => k)
  have h161 : ∀ i, S 16 i ≤ N + 1 := fun i => by have := h16 i; omega
  have hb : pz_b (pz_nd S s f) = 0 ∨ pz_b (pz_nd S s f) = 1 := by unfold pz_b; split; exact Or.inr rfl; exact Or.inl rfl
  by_cases c : pz_isF S s f
  · have h9 : S 16 (40 * s + f) ≤ 999999999 := by have := h16 (40 * s + f); omega
    obtain ⟨σ1, ad1, a1, a2, a3, a4⟩ := fc_renderOne hW hR hs1 hs2 hf1 hf2 hI hJ h9 c
    exact rz_pk_ok hF hst a1 a2 a3 (rz_In_rd hIn c h9) (fun i => by rw [rz_rd_16]; have := h16 (40 * s + f); split <;> first | omega | exact h161 i) (fun g ho => by rw [rz_vbe hb ]; exact wL_renderOne_ok hx a4 hb ho) (fun s d Q hd => (pc_renderOne hW hV (by omega) hs1 hs2 hf1 hf2).trans (if_neg (fun g => g c)))
  · exact rz_pk_thr hF hst (by decide) h16 (wL_renderOne_2 hx (fc_renderOne1 hW hR hs1 hs2 hf1 hf2 c)) (fun s d Q hd => (pc_renderOne hW hV (by omega) hs1 hs2 hf1 hf2).trans (if_pos c))
theorem pk_needs {N : Int} {s : Int} (hF : rz_Fx m o Fo) (h : rz_St σ S ad T x m o Fo) (h16 : ∀ i, S 16 i ≤ N) (hN : N ≤ 999999998) (hs1 : -2147483648 ≤ s) (hs2 : s ≤ 2147483647) : rz_Pk σ N 156 129 [.int (iI s)] x m o Fo rz_vi1 := by
  have hst := h
  obtain ⟨⟨hR, hx0⟩, hIn, hmp, hog⟩ := h
  obtain ⟨hW, hV, hI, hJ⟩ := hIn
  have hIn : rz_In S := ⟨hW, hV, hI, hJ⟩
  subst hx0
  have hx := rz_geq hR (t := 0) (i := 0) rfl (fun _ k => k)
  have h161 : ∀ i, S 16 i ≤ N + 1 := fun i => by have := h16 i; omega
  by_cases c : 0 ≤ s ∧ s ≤ S 9 0 - 1
  · exact rz_pk_ok hF hst rfl hR rz_Fr0 hIn h161 (fun g ho => wL_needs_ok hx (fun d Q hd => ((pc_needsC hW hI (by omega) (rz_C hW hR) hs1 hs2).trans (if_neg (fun g => g c)))) ho) (fun s d Q hd => (pc_needs hW hV (by omega) hs1 hs2).trans (if_neg (fun g => g c)))
  · exact rz_pk_thr hF hst (by decide) h16 (wL_needs_2 hx (fun d Q hd => (pc_needsC hW hI (by omega) (rz_C hW hR) hs1 hs2).trans (if_pos c))) (fun s d Q hd => (pc_needs hW hV (by omega) hs1 hs2).trans (if_pos c))
theorem pk_mixes {N : Int} {s : Int} (hF : rz_Fx m o Fo) (h : rz_St σ S ad T x m o Fo) (h16 : ∀ i, S 16 i ≤ N) (hN : N ≤ 999999998) (hs1 : -2147483648 ≤ s) (hs2 : s ≤ 2147483647) : rz_Pk σ N 157 132 [.int (iI s)] x m o Fo rz_vi1 := by
  have hst := h
  obtain ⟨⟨hR, hx0⟩, hIn, hmp, hog⟩ := h
  obtain ⟨hW, hV, hI, hJ⟩ := hIn
  have hIn : rz_In S := ⟨hW, hV, hI, hJ⟩
  subst hx0
  have hx := rz_geq hR (t := 0) (i := 0) rfl (fun _ k => k)
  have h161 : ∀ i, S 16 i ≤ N + 1 := fun i => by have := h16 i; omega
  by_cases c : 0 ≤ s ∧ s ≤ S 9 0 - 1
  · exact rz_pk_ok hF hst rfl hR rz_Fr0 hIn h161 (fun g ho => wL_mixes_ok hx (fun d Q hd => ((pc_mixesC hW (by omega) (rz_C hW hR) hs1 hs2).trans (if_neg (fun g => g c)))) ho) (fun s d Q hd => (pc_mixes hW (by omega) hs1 hs2).trans (if_neg (fun g => g c)))
  · exact rz_pk_thr hF hst (by decide) h16 (wL_mixes_2 hx (fun d Q hd => (pc_mixesC hW (by omega) (rz_C hW hR) hs1 hs2).trans (if_pos c))) (fun s d Q hd => (pc_mixes hW (by omega) hs1 hs2).trans (if_pos c))
theorem pk_ofFrame {N : Int} {s f w : Int} (hF : rz_Fx m o Fo) (h : rz_St σ S ad T x m o Fo) (h16 : ∀ i, S 16 i ≤ N) (hN : N ≤ 999999998) (hs1 : -2147483648 ≤ s) (hs2 : s ≤ 2147483647) (hf1 : -2147483648 ≤ f) (hf2 : f ≤ 2147483647) (hw1 : -2147483648 ≤ w) (hw2 : w ≤ 2147483647) : rz_Pk σ N 158 135 [.int (iI s), .int (iI f), .int (iI w)] x m o Fo rz_vi1 := by
  have hst := h
  obtain ⟨⟨hR, hx0⟩, hIn, hmp, hog⟩ := h
  obtain ⟨hW, hV, hI, hJ⟩ := hIn
  have hIn : rz_In S := ⟨hW, hV, hI, hJ⟩
  subst hx0
  have hx := rz_geq hR (t := 0) (i := 0) rfl (fun _ k => k)
  have h161 : ∀ i, S 16 i ≤ N + 1 := fun i => by have := h16 i; omega
  by_cases c : pz_isF S s f ∧ 0 ≤ w ∧ w ≤ 5
  · exact rz_pk_ok hF hst rfl hR rz_Fr0 hIn h161 (fun g ho => wL_ofFrame_ok hx (fun d Q hd => ((pc_ofFrameC hW hI (by omega) (rz_C hW hR) hs1 hs2 hf1 hf2 hw1 hw2).trans (if_neg (fun g => g c)))) ho) (fun s d Q hd => (pc_ofFrame hW hV (by omega) hs1 hs2 hf1 hf2 hw1 hw2).trans (if_neg (fun g => g c)))
  · exact rz_pk_thr hF hst (by decide) h16 (wL_ofFrame_2 hx (fun d Q hd => (pc_ofFrameC hW hI (by omega) (rz_C hW hR) hs1 hs2 hf1 hf2 hw1 hw2).trans (if_pos c))) (fun s d Q hd => (pc_ofFrame hW hV (by omega) hs1 hs2 hf1 hf2 hw1 hw2).trans (if_pos c))
theorem pk_kept {N : Int} {s f a : Int} (hF : rz_Fx m o Fo) (h : rz_St σ S ad T x m o Fo) (h16 : ∀ i, S 16 i ≤ N) (hN : N ≤ 999999998) (hs1 : -2147483648 ≤ s) (hs2 : s ≤ 2147483647) (hf1 : -2147483648 ≤ f) (hf2 : f ≤ 2147483647) (ha1 : -2147483648 ≤ a) (ha2 : a ≤ 2147483647) : rz_Pk σ N 159 136 [.int (iI s), .int (iI f), .int (iI a)] x m o Fo rz_vi1 := by
  have hst := h
  obtain ⟨⟨hR, hx0⟩, hIn, hmp, hog⟩ := h
  obtain ⟨hW, hV, hI, hJ⟩ := hIn
  have hIn : rz_In S := ⟨hW, hV, hI, hJ⟩
  subst hx0
  have hx := rz_geq hR (t := 0) (i := 0) rfl (fun _ k => k)
  have h161 : ∀ i, S 16 i ≤ N + 1 := fun i => by have := h16 i; omega
  by_cases c : pz_isF S s f ∧ (0 ≤ a ∧ a ≤ S 1 0 - 1)
  · exact rz_pk_ok hF hst rfl hR rz_Fr0 hIn h161 (fun g ho => wL_kept_ok hx (fun d Q hd => ((pc_keptC hW (by omega) (rz_C hW hR) hs1 hs2 hf1 hf2 ha1 ha2).trans (if_neg (fun g => g c)))) ho) (fun s d Q hd => (pc_kept hW (by omega) hs1 hs2 hf1 hf2 ha1 ha2).trans (if_neg (fun g => g c)))
  · exact rz_pk_thr hF hst (by decide) h16 (wL_kept_2 hx (fun d Q hd => (pc_keptC hW (by omega) (rz_C hW hR) hs1 hs2 hf1 hf2 ha1 ha2).trans (if_pos c))) (fun s d Q hd => (pc_kept hW (by omega) hs1 hs2 hf1 hf2 ha1 ha2).trans (if_pos c))
theorem pk_count {N : Int} {w : Int} (hF : rz_Fx m o Fo) (h : rz_St σ S ad T x m o Fo) (h16 : ∀ i, S 16 i ≤ N) (hN : N ≤ 999999998) (hw1 : -2147483648 ≤ w) (hw2 : w ≤ 2147483647) : rz_Pk σ N 160 138 [.int (iI w)] x m o Fo rz_vi1 := by
  have hst := h
  obtain ⟨⟨hR, hx0⟩, hIn, hmp, hog⟩ := h
  obtain ⟨hW, hV, hI, hJ⟩ := hIn
  have hIn : rz_In S := ⟨hW, hV, hI, hJ⟩
  subst hx0
  have hx := rz_geq hR (t := 0) (i := 0) rfl (fun _ k => k)
  have h161 : ∀ i, S 16 i ≤ N + 1 := fun i => by have := h16 i; omega
  by_cases c : 0 ≤ w ∧ w ≤ 6
  · exact rz_pk_ok hF hst rfl hR rz_Fr0 hIn h161 (fun g ho => wL_count_ok hx (fun d Q hd => ((pc_countC hW hI (by omega) (rz_C hW hR) hw1 hw2).trans (if_neg (fun g => g c)))) ho) (fun s d Q hd => (pc_count hW hV (by omega) hw1 hw2).trans (if_neg (fun g => g c)))
  · exact rz_pk_thr hF hst (by decide) h16 (wL_count_1 hx (fun d Q hd => (pc_countC hW hI (by omega) (rz_C hW hR) hw1 hw2).trans (if_pos c))) (fun s d Q hd => (pc_count hW hV (by omega) hw1 hw2).trans (if_pos c))
end
