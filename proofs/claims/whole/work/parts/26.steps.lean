/-! the rows as equations of walks (written by wip/whole/gen/steps.py) -/
theorem sL_asset_0 {d : Nat} {Q : mb_O → mb_S → Prop} {σ : mb_S} {st : List Value} {l0 l2 : Option Value} {a : Nat} : mb_Rn d 140 0 [l0, some (.ref a), l2] st σ Q = mb_Rn d 140 1 [l0, some (.ref a), l2] (.ref a :: st) σ Q := rn_step rfl (fun _ _ => rfl)
theorem sL_asset_0n {d : Nat} {Q : mb_O → mb_S → Prop} {σ : mb_S} {st : List Value} {l0 l2 : Option Value} : mb_Rn d 140 0 [l0, some (.null), l2] st σ Q = mb_Rn d 140 1 [l0, some (.null), l2] (.null :: st) σ Q := rn_step rfl (fun _ _ => rfl)
theorem sL_asset_1 {d : Nat} {Q : mb_O → mb_S → Prop} {σ : mb_S} {st : List Value} {ls : mb_L} : mb_Rn d 140 1 ls st σ Q = mb_Rn d 140 2 ls (.int 0 :: st) σ Q := rn_step rfl (fun _ _ => rfl)
theorem sL_asset_2 {d : Nat} {Q : mb_O → mb_S → Prop} {σ : mb_S} {st : List Value} {l1 l2 : Option Value} {a : Nat} : mb_Rn d 140 2 [some (.ref a), l1, l2] st σ Q = mb_Rn d 140 3 [some (.ref a), l1, l2] (.ref a :: st) σ Q := rn_step rfl (fun _ _ => rfl)
theorem sL_asset_2n {d : Nat} {Q : mb_O → mb_S → Prop} {σ : mb_S} {st : List Value} {l1 l2 : Option Value} : mb_Rn d 140 2 [some (.null), l1, l2] st σ Q = mb_Rn d 140 3 [some (.null), l1, l2] (.null :: st) σ Q := rn_step rfl (fun _ _ => rfl)
theorem sL_asset_3 {d : Nat} {Q : mb_O → mb_S → Prop} {σ : mb_S} {st : List Value} {ls : mb_L} {b : Nat} (hd : 1 ≤ d) (h4 : st.length ≤ 4) : mb_Rn d 140 3 ls (.ref b :: st) σ Q = mb_gf σ b 7 False (fun _ => mb_Ex (d - 1) 41 [.ref b] σ (mb_qx [(0, 12, 2)] d 140 6 ls st Q)) := rn_callv mb_good rfl hd rfl rfl ⟨rfl, rfl⟩ h4 ⟨Nat.le_of_ble_eq_true rfl, rfl⟩
theorem sL_asset_6 {d : Nat} {Q : mb_O → mb_S → Prop} {σ : mb_S} {st : List Value} {ls : mb_L} {x : Int32} : mb_Rn d 140 6 ls (.int x :: st) σ Q = mb_Rn d 140 7 ls (.long x.toInt64 :: st) σ Q := rn_step rfl (fun _ _ => rfl)
theorem sL_asset_7 {d : Nat} {Q : mb_O → mb_S → Prop} {σ : mb_S} {st : List Value} {ls : mb_L} {a : Nat} {j : Int32} {x : Int64} : mb_Rn d 140 7 ls (.long x :: .int j :: .ref a :: st) σ Q = mb_gj σ a j False (fun kd n f => if kd = 1 then mb_Rn d 140 8 ls st (mb_up σ a (.inl (1, n, .inr (.inl (vp_updL f j.toNatClampNeg x))))) Q else False) := rn_last rfl
theorem sL_asset_8 {d : Nat} {Q : mb_O → mb_S → Prop} {σ : mb_S} {st : List Value} {ls : mb_L} : mb_Rn d 140 8 ls st σ Q = mb_Rn d 140 14 ls st σ Q := rn_step rfl (fun _ _ => rfl)
theorem sL_asset_11 {d : Nat} {Q : mb_O → mb_S → Prop} {σ : mb_S} {st : List Value} {l0 l1 l2 : Option Value} {a : Nat} : mb_Rn d 140 11 [l0, l1, l2] (.ref a :: st) σ Q = mb_Rn d 140 12 [l0, l1, some (.ref a)] st σ Q := rn_step rfl (fun _ _ => rfl)
theorem sL_asset_11n {d : Nat} {Q : mb_O → mb_S → Prop} {σ : mb_S} {st : List Value} {l0 l1 l2 : Option Value} : mb_Rn d 140 11 [l0, l1, l2] (.null :: st) σ Q = mb_Rn d 140 12 [l0, l1, some (.null)] st σ Q := rn_step rfl (fun _ _ => rfl)
theorem sL_asset_12 {d : Nat} {Q : mb_O → mb_S → Prop} {σ : mb_S} {st : List Value} {ls : mb_L} : mb_Rn d 140 12 ls st σ Q = mb_Rn d 140 13 ls (.int 1 :: st) σ Q := rn_step rfl (fun _ _ => rfl)
theorem sL_asset_13 {d : Nat} {Q : mb_O → mb_S → Prop} {σ : mb_S}  {ls : mb_L} {x : Int32} : mb_Rn d 140 13 ls [.int x] σ Q = Q (.inl (some (.int x))) σ := rn_end rfl (fun _ _ => rfl)
theorem sL_asset_14 {d : Nat} {Q : mb_O → mb_S → Prop} {σ : mb_S} {st : List Value} {ls : mb_L} : mb_Rn d 140 14 ls st σ Q = mb_Rn d 140 15 ls (.int 0 :: st) σ Q := rn_step rfl (fun _ _ => rfl)
theorem sL_asset_15 {d : Nat} {Q : mb_O → mb_S → Prop} {σ : mb_S}  {ls : mb_L} {x : Int32} : mb_Rn d 140 15 ls [.int x] σ Q = Q (.inl (some (.int x))) σ := rn_end rfl (fun _ _ => rfl)
theorem sL_bone_0 {d : Nat} {Q : mb_O → mb_S → Prop} {σ : mb_S} {st : List Value} {l0 l1 l2 l4 : Option Value} {a : Nat} : mb_Rn d 141 0 [l0, l1, l2, some (.ref a), l4] st σ Q = mb_Rn d 141 1 [l0, l1, l2, some (.ref a), l4] (.ref a :: st) σ Q := rn_step rfl (fun _ _ => rfl)
theorem sL_bone_0n {d : Nat} {Q : mb_O → mb_S → Prop} {σ : mb_S} {st : List Value} {l0 l1 l2 l4 : Option Value} : mb_Rn d 141 0 [l0, l1, l2, some (.null), l4] st σ Q = mb_Rn d 141 1 [l0, l1, l2, some (.null), l4] (.null :: st) σ Q := rn_step rfl (fun _ _ => rfl)
theorem sL_bone_1 {d : Nat} {Q : mb_O → mb_S → Prop} {σ : mb_S} {st : List Value} {ls : mb_L} : mb_Rn d 141 1 ls st σ Q = mb_Rn d 141 2 ls (.int 0 :: st) σ Q := rn_step rfl (fun _ _ => rfl)
theorem sL_bone_2 {d : Nat} {Q : mb_O → mb_S → Prop} {σ : mb_S} {st : List Value} {l1 l2 l3 l4 : Option Value} {a : Nat} : mb_Rn d 141 2 [some (.ref a), l1, l2, l3, l4] st σ Q = mb_Rn d 141 3 [some (.ref a), l1, l2, l3, l4] (.ref a :: st) σ Q := rn_step rfl (fun _ _ => rfl)
theorem sL_bone_2n {d : Nat} {Q : mb_O → mb_S → Prop} {σ : mb_S} {st : List Value} {l1 l2 l3 l4 : Option Value} : mb_Rn d 141 2 [some (.null), l1, l2, l3, l4] st σ Q = mb_Rn d 141 3 [some (.null), l1, l2, l3, l4] (.null :: st) σ Q := rn_step rfl (fun _ _ => rfl)
theorem sL_bone_3 {d : Nat} {Q : mb_O → mb_S → Prop} {σ : mb_S} {st : List Value} {l0 l2 l3 l4 : Option Value} {x : Int32} : mb_Rn d 141 3 [l0, some (.int x), l2, l3, l4] st σ Q = mb_Rn d 141 4 [l0, some (.int x), l2, l3, l4] (.int x :: st) σ Q := rn_step rfl (fun _ _ => rfl)
theorem sL_bone_4 {d : Nat} {Q : mb_O → mb_S → Prop} {σ : mb_S} {st : List Value} {l0 l1 l3 l4 : Option Value} {x : Int32} : mb_Rn d 141 4 [l0, l1, some (.int x), l3, l4] st σ Q = mb_Rn d 141 5 [l0, l1, some (.int x), l3, l4] (.int x :: st) σ Q := rn_step rfl (fun _ _ => rfl)
theorem sL_bone_5 {d : Nat} {Q : mb_O → mb_S → Prop} {σ : mb_S} {st : List Value} {ls : mb_L} {p0 : Int32} {p1 : Int32} {b : Nat} (hd : 1 ≤ d) (h4 : st.length ≤ 4) : mb_Rn d 141 5 ls (.int p1 :: .int p0 :: .ref b :: st) σ Q = mb_gf σ b 7 False (fun _ => mb_Ex (d - 1) 42 [.ref b, .int p0, .int p1] σ (mb_qx [(2, 15, 4), (0, 19, 4)] d 141 8 ls st Q)) := rn_callv mb_good rfl hd rfl rfl ⟨rfl, rfl⟩ h4 ⟨Nat.le_of_ble_eq_true rfl, rfl⟩
theorem sL_bone_8 {d : Nat} {Q : mb_O → mb_S → Prop} {σ : mb_S} {st : List Value} {ls : mb_L} {x : Int32} : mb_Rn d 141 8 ls (.int x :: st) σ Q = mb_Rn d 141 9 ls (.long x.toInt64 :: st) σ Q := rn_step rfl (fun _ _ => rfl)
theorem sL_bone_9 {d : Nat} {Q : mb_O → mb_S → Prop} {σ : mb_S} {st : List Value} {ls : mb_L} {a : Nat} {j : Int32} {x : Int64} : mb_Rn d 141 9 ls (.long x :: .int j :: .ref a :: st) σ Q = mb_gj σ a j False (fun kd n f => if kd = 1 then mb_Rn d 141 10 ls st (mb_up σ a (.inl (1, n, .inr (.inl (vp_updL f j.toNatClampNeg x))))) Q else False) := rn_last rfl
theorem sL_bone_10 {d : Nat} {Q : mb_O → mb_S → Prop} {σ : mb_S} {st : List Value} {ls : mb_L} : mb_Rn d 141 10 ls st σ Q = mb_Rn d 141 21 ls st σ Q := rn_step rfl (fun _ _ => rfl)
theorem sL_bone_13 {d : Nat} {Q : mb_O → mb_S → Prop} {σ : mb_S} {st : List Value} {l0 l1 l2 l3 l4 : Option Value} {a : Nat} : mb_Rn d 141 13 [l0, l1, l2, l3, l4] (.ref a :: st) σ Q = mb_Rn d 141 15 [l0, l1, l2, l3, some (.ref a)] st σ Q := rn_step rfl (fun _ _ => rfl)
theorem sL_bone_13n {d : Nat} {Q : mb_O → mb_S → Prop} {σ : mb_S} {st : List Value} {l0 l1 l2 l3 l4 : Option Value} : mb_Rn d 141 13 [l0, l1, l2, l3, l4] (.null :: st) σ Q = mb_Rn d 141 15 [l0, l1, l2, l3, some (.null)] st σ Q := rn_step rfl (fun _ _ => rfl)
theorem sL_bone_15 {d : Nat} {Q : mb_O → mb_S → Prop} {σ : mb_S} {st : List Value} {ls : mb_L} : mb_Rn d 141 15 ls st σ Q = mb_Rn d 141 16 ls (.int 1 :: st) σ Q := rn_step rfl (fun _ _ => rfl)
theorem sL_bone_16 {d : Nat} {Q : mb_O → mb_S → Prop} {σ : mb_S}  {ls : mb_L} {x : Int32} : mb_Rn d 141 16 ls [.int x] σ Q = Q (.inl (some (.int x))) σ := rn_end rfl (fun _ _ => rfl)
theorem sL_bone_17 {d : Nat} {Q : mb_O → mb_S → Prop} {σ : mb_S} {st : List Value} {l0 l1 l2 l3 l4 : Option Value} {a : Nat} : mb_Rn d 141 17 [l0, l1, l2, l3, l4] (.ref a :: st) σ Q = mb_Rn d 141 19 [l0, l1, l2, l3, some (.ref a)] st σ Q := rn_step rfl (fun _ _ => rfl)
theorem sL_bone_17n {d : Nat} {Q : mb_O → mb_S → Prop} {σ : mb_S} {st : List Value} {l0 l1 l2 l3 l4 : Option Value} : mb_Rn d 141 17 [l0, l1, l2, l3, l4] (.null :: st) σ Q = mb_Rn d 141 19 [l0, l1, l2, l3, some (.null)] st σ Q := rn_step rfl (fun _ _ => rfl)
theorem sL_bone_19 {d : Nat} {Q : mb_O → mb_S → Prop} {σ : mb_S} {st : List Value} {ls : mb_L} : mb_Rn d 141 19 ls st σ Q = mb_Rn d 141 20 ls (.int 2 :: st) σ Q := rn_step rfl (fun _ _ => rfl)
theorem sL_bone_20 {d : Nat} {Q : mb_O → mb_S → Prop} {σ : mb_S}  {ls : mb_L} {x : Int32} : mb_Rn d 141 20 ls [.int x] σ Q = Q (.inl (some (.int x))) σ := rn_end rfl (fun _ _ => rfl)
theorem sL_bone_21 {d : Nat} {Q : mb_O → mb_S → Prop} {σ : mb_S} {st : List Value} {ls : mb_L} : mb_Rn d 141 21 ls st σ Q = mb_Rn d 141 22 ls (.int 0 :: st) σ Q := rn_step rfl (fun _ _ => rfl)
theorem sL_bone_22 {d : Nat} {Q : mb_O → mb_S → Prop} {σ : mb_S}  {ls : mb_L} {x : Int32} : mb_Rn d 141 22 ls [.int x] σ Q = Q (.inl (some (.int x))) σ := rn_end rfl (fun _ _ => rfl)
theorem sL_key_0 {d : Nat} {Q : mb_O → mb_S → Prop} {σ : mb_S} {st : List Value} {l0 l1 l2 l3 l4 l5 l7 : Option Value} {a : Nat} : mb_Rn d 142 0 [l0, l1, l2, l3, l4, l5, some (.ref a), l7] st σ Q = mb_Rn d 142 2 [l0, l1, l2, l3, l4, l5, some (.ref a), l7] (.ref a :: st) σ Q := rn_step rfl (fun _ _ => rfl)
theorem sL_key_0n {d : Nat} {Q : mb_O → mb_S → Prop} {σ : mb_S} {st : List Value} {l0 l1 l2 l3 l4 l5 l7 : Option Value} : mb_Rn d 142 0 [l0, l1, l2, l3, l4, l5, some (.null), l7] st σ Q = mb_Rn d 142 2 [l0, l1, l2, l3, l4, l5, some (.null), l7] (.null :: st) σ Q := rn_step rfl (fun _ _ => rfl)
theorem sL_key_2 {d : Nat} {Q : mb_O → mb_S → Prop} {σ : mb_S} {st : List Value} {ls : mb_L} : mb_Rn d 142 2 ls st σ Q = mb_Rn d 142 3 ls (.int 0 :: st) σ Q := rn_step rfl (fun _ _ => rfl)
theorem sL_key_3 {d : Nat} {Q : mb_O → mb_S → Prop} {σ : mb_S} {st : List Value} {l1 l2 l3 l4 l5 l6 l7 : Option Value} {a : Nat} : mb_Rn d 142 3 [some (.ref a), l1, l2, l3, l4, l5, l6, l7] st σ Q = mb_Rn d 142 4 [some (.ref a), l1, l2, l3, l4, l5, l6, l7] (.ref a :: st) σ Q := rn_step rfl (fun _ _ => rfl)
theorem sL_key_3n {d : Nat} {Q : mb_O → mb_S → Prop} {σ : mb_S} {st : List Value} {l1 l2 l3 l4 l5 l6 l7 : Option Value} : mb_Rn d 142 3 [some (.null), l1, l2, l3, l4, l5, l6, l7] st σ Q = mb_Rn d 142 4 [some (.null), l1, l2, l3, l4, l5, l6, l7] (.null :: st) σ Q := rn_step rfl (fun _ _ => rfl)
theorem sL_key_4 {d : Nat} {Q : mb_O → mb_S → Prop} {σ : mb_S} {st : List Value} {l0 l2 l3 l4 l5 l6 l7 : Option Value} {x : Int32} : mb_Rn d 142 4 [l0, some (.int x), l2, l3, l4, l5, l6, l7] st σ Q = mb_Rn d 142 5 [l0, some (.int x), l2, l3, l4, l5, l6, l7] (.int x :: st) σ Q := rn_step rfl (fun _ _ => rfl)
theorem sL_key_5 {d : Nat} {Q : mb_O → mb_S → Prop} {σ : mb_S} {st : List Value} {l0 l1 l3 l4 l5 l6 l7 : Option Value} {x : Int32} : mb_Rn d 142 5 [l0, l1, some (.int x), l3, l4, l5, l6, l7] st σ Q = mb_Rn d 142 6 [l0, l1, some (.int x), l3, l4, l5, l6, l7] (.int x :: st) σ Q := rn_step rfl (fun _ _ => rfl)
theorem sL_key_6 {d : Nat} {Q : mb_O → mb_S → Prop} {σ : mb_S} {st : List Value} {l0 l1 l2 l4 l5 l6 l7 : Option Value} {x : Int32} : mb_Rn d 142 6 [l0, l1, l2, some (.int x), l4, l5, l6, l7] st σ Q = mb_Rn d 142 7 [l0, l1, l2, some (.int x), l4, l5, l6, l7] (.int x :: st) σ Q := rn_step rfl (fun _ _ => rfl)
theorem sL_key_7 {d : Nat} {Q : mb_O → mb_S → Prop} {σ : mb_S} {st : List Value} {l0 l1 l2 l3 l5 l6 l7 : Option Value} {x : Int32} : mb_Rn d 142 7 [l0, l1, l2, l3, some (.int x), l5, l6, l7] st σ Q = mb_Rn d 142 9 [l0, l1, l2, l3, some (.int x), l5, l6, l7] (.int x :: st) σ Q := rn_step rfl (fun _ _ => rfl)
theorem sL_key_9 {d : Nat} {Q : mb_O → mb_S → Prop} {σ : mb_S} {st : List Value} {l0 l1 l2 l3 l4 l6 l7 : Option Value} {x : Int32} : mb_Rn d 142 9 [l0, l1, l2, l3, l4, some (.int x), l6, l7] st σ Q = mb_Rn d 142 11 [l0, l1, l2, l3, l4, some (.int x), l6, l7] (.int x :: st) σ Q := rn_step rfl (fun _ _ => rfl)
theorem sL_key_11 {d : Nat} {Q : mb_O → mb_S → Prop} {σ : mb_S} {st : List Value} {ls : mb_L} {p0 : Int32} {p1 : Int32} {p2 : Int32} {p3 : Int32} {p4 : Int32} {b : Nat} (hd : 1 ≤ d) (h4 : st.length ≤ 4) : mb_Rn d 142 11 ls (.int p4 :: .int p3 :: .int p2 :: .int p1 :: .int p0 :: .ref b :: st) σ Q = mb_gf σ b 7 False (fun _ => mb_Ex (d - 1) 43 [.ref b, .int p0, .int p1, .int p2, .int p3, .int p4] σ (mb_qx [(2, 21, 7), (1, 25, 7), (0, 29, 7)] d 142 14 ls st Q)) := rn_callv mb_good rfl hd rfl rfl ⟨rfl, rfl⟩ h4 ⟨Nat.le_of_ble_eq_true rfl, rfl⟩
theorem sL_key_14 {d : Nat} {Q : mb_O → mb_S → Prop} {σ : mb_S} {st : List Value} {ls : mb_L} {x : Int32} : mb_Rn d 142 14 ls (.int x :: st) σ Q = mb_Rn d 142 15 ls (.long x.toInt64 :: st) σ Q := rn_step rfl (fun _ _ => rfl)
theorem sL_key_15 {d : Nat} {Q : mb_O → mb_S → Prop} {σ : mb_S} {st : List Value} {ls : mb_L} {a : Nat} {j : Int32} {x : Int64} : mb_Rn d 142 15 ls (.long x :: .int j :: .ref a :: st) σ Q = mb_gj σ a j False (fun kd n f => if kd = 1 then mb_Rn d 142 16 ls st (mb_up σ a (.inl (1, n, .inr (.inl (vp_updL f j.toNatClampNeg x))))) Q else False) := rn_last rfl
theorem sL_key_16 {d : Nat} {Q : mb_O → mb_S → Prop} {σ : mb_S} {st : List Value} {ls : mb_L} : mb_Rn d 142 16 ls st σ Q = mb_Rn d 142 31 ls st σ Q := rn_step rfl (fun _ _ => rfl)
theorem sL_key_19 {d : Nat} {Q : mb_O → mb_S → Prop} {σ : mb_S} {st : List Value} {l0 l1 l2 l3 l4 l5 l6 l7 : Option Value} {a : Nat} : mb_Rn d 142 19 [l0, l1, l2, l3, l4, l5, l6, l7] (.ref a :: st) σ Q = mb_Rn d 142 21 [l0, l1, l2, l3, l4, l5, l6, some (.ref a)] st σ Q := rn_step rfl (fun _ _ => rfl)
theorem sL_key_19n {d : Nat} {Q : mb_O → mb_S → Prop} {σ : mb_S} {st : List Value} {l0 l1 l2 l3 l4 l5 l6 l7 : Option Value} : mb_Rn d 142 19 [l0, l1, l2, l3, l4, l5, l6, l7] (.null :: st) σ Q = mb_Rn d 142 21 [l0, l1, l2, l3, l4, l5, l6, some (.null)] st σ Q := rn_step rfl (fun _ _ => rfl)
theorem sL_key_21 {d : Nat} {Q : mb_O → mb_S → Prop} {σ : mb_S} {st : List Value} {ls : mb_L} : mb_Rn d 142 21 ls st σ Q = mb_Rn d 142 22 ls (.int 1 :: st) σ Q := rn_step rfl (fun _ _ => rfl)
theorem sL_key_22 {d : Nat} {Q : mb_O → mb_S → Prop} {σ : mb_S}  {ls : mb_L} {x : Int32} : mb_Rn d 142 22 ls [.int x] σ Q = Q (.inl (some (.int x))) σ := rn_end rfl (fun _ _ => rfl)
theorem sL_key_23 {d : Nat} {Q : mb_O → mb_S → Prop} {σ : mb_S} {st : List Value} {l0 l1 l2 l3 l4 l5 l6 l7 : Option Value} {a : Nat} : mb_Rn d 142 23 [l0, l1, l2, l3, l4, l5, l6, l7] (.ref a :: st) σ Q = mb_Rn d 142 25 [l0, l1, l2, l3, l4, l5, l6, some (.ref a)] st σ Q := rn_step rfl (fun _ _ => rfl)
theorem sL_key_23n {d : Nat} {Q : mb_O → mb_S → Prop} {σ : mb_S} {st : List Value} {l0 l1 l2 l3 l4 l5 l6 l7 : Option Value} : mb_Rn d 142 23 [l0, l1, l2, l3, l4, l5, l6, l7] (.null :: st) σ Q = mb_Rn d 142 25 [l0, l1, l2, l3, l4, l5, l6, some (.null)] st σ Q := rn_step rfl (fun _ _ => rfl)
theorem sL_key_25 {d : Nat} {Q : mb_O → mb_S → Prop} {σ : mb_S} {st : List Value} {ls : mb_L} : mb_Rn d 142 25 ls st σ Q = mb_Rn d 142 26 ls (.int 2 :: st) σ Q := rn_step rfl (fun _ _ => rfl)
theorem sL_key_26 {d : Nat} {Q : mb_O → mb_S → Prop} {σ : mb_S}  {ls : mb_L} {x : Int32} : mb_Rn d 142 26 ls [.int x] σ Q = Q (.inl (some (.int x))) σ := rn_end rfl (fun _ _ => rfl)
theorem sL_key_27 {d : Nat} {Q : mb_O → mb_S → Prop} {σ : mb_S} {st : List Value} {l0 l1 l2 l3 l4 l5 l6 l7 : Option Value} {a : Nat} : mb_Rn d 142 27 [l0, l1, l2, l3, l4, l5, l6, l7] (.ref a :: st) σ Q = mb_Rn d 142 29 [l0, l1, l2, l3, l4, l5, l6, some (.ref a)] st σ Q := rn_step rfl (fun _ _ => rfl)
theorem sL_key_27n {d : Nat} {Q : mb_O → mb_S → Prop} {σ : mb_S} {st : List Value} {l0 l1 l2 l3 l4 l5 l6 l7 : Option Value} : mb_Rn d 142 27 [l0, l1, l2, l3, l4, l5, l6, l7] (.null :: st) σ Q = mb_Rn d 142 29 [l0, l1, l2, l3, l4, l5, l6, some (.null)] st σ Q := rn_step rfl (fun _ _ => rfl)
theorem sL_key_29 {d : Nat} {Q : mb_O → mb_S → Prop} {σ : mb_S} {st : List Value} {ls : mb_L} : mb_Rn d 142 29 ls st σ Q = mb_Rn d 142 30 ls (.int 3 :: st) σ Q := rn_step rfl (fun _ _ => rfl)
theorem sL_key_30 {d : Nat} {Q : mb_O → mb_S → Prop} {σ : mb_S}  {ls : mb_L} {x : Int32} : mb_Rn d 142 30 ls [.int x] σ Q = Q (.inl (some (.int x))) σ := rn_end rfl (fun _ _ => rfl)
theorem sL_key_31 {d : Nat} {Q : mb_O → mb_S → Prop} {σ : mb_S} {st : List Value} {ls : mb_L} : mb_Rn d 142 31 ls st σ Q = mb_Rn d 142 32 ls (.int 0 :: st) σ Q := rn_step rfl (fun _ _ => rfl)
theorem sL_key_32 {d : Nat} {Q : mb_O → mb_S → Prop} {σ : mb_S}  {ls : mb_L} {x : Int32} : mb_Rn d 142 32 ls [.int x] σ Q = Q (.inl (some (.int x))) σ := rn_end rfl (fun _ _ => rfl)
theorem sL_unkey_0 {d : Nat} {Q : mb_O → mb_S → Prop} {σ : mb_S} {st : List Value} {l0 l1 l2 l3 l5 : Option Value} {a : Nat} : mb_Rn d 143 0 [l0, l1, l2, l3, some (.ref a), l5] st σ Q = mb_Rn d 143 2 [l0, l1, l2, l3, some (.ref a), l5] (.ref a :: st) σ Q := rn_step rfl (fun _ _ => rfl)
theorem sL_unkey_0n {d : Nat} {Q : mb_O → mb_S → Prop} {σ : mb_S} {st : List Value} {l0 l1 l2 l3 l5 : Option Value} : mb_Rn d 143 0 [l0, l1, l2, l3, some (.null), l5] st σ Q = mb_Rn d 143 2 [l0, l1, l2, l3, some (.null), l5] (.null :: st) σ Q := rn_step rfl (fun _ _ => rfl)
theorem sL_unkey_2 {d : Nat} {Q : mb_O → mb_S → Prop} {σ : mb_S} {st : List Value} {ls : mb_L} : mb_Rn d 143 2 ls st σ Q = mb_Rn d 143 3 ls (.int 0 :: st) σ Q := rn_step rfl (fun _ _ => rfl)
theorem sL_unkey_3 {d : Nat} {Q : mb_O → mb_S → Prop} {σ : mb_S} {st : List Value} {l1 l2 l3 l4 l5 : Option Value} {a : Nat} : mb_Rn d 143 3 [some (.ref a), l1, l2, l3, l4, l5] st σ Q = mb_Rn d 143 4 [some (.ref a), l1, l2, l3, l4, l5] (.ref a :: st) σ Q := rn_step rfl (fun _ _ => rfl)
theorem sL_unkey_3n {d : Nat} {Q : mb_O → mb_S → Prop} {σ : mb_S} {st : List Value} {l1 l2 l3 l4 l5 : Option Value} : mb_Rn d 143 3 [some (.null), l1, l2, l3, l4, l5] st σ Q = mb_Rn d 143 4 [some (.null), l1, l2, l3, l4, l5] (.null :: st) σ Q := rn_step rfl (fun _ _ => rfl)
theorem sL_unkey_4 {d : Nat} {Q : mb_O → mb_S → Prop} {σ : mb_S} {st : List Value} {l0 l2 l3 l4 l5 : Option Value} {x : Int32} : mb_Rn d 143 4 [l0, some (.int x), l2, l3, l4, l5] st σ Q = mb_Rn d 143 5 [l0, some (.int x), l2, l3, l4, l5] (.int x :: st) σ Q := rn_step rfl (fun _ _ => rfl)
theorem sL_unkey_5 {d : Nat} {Q : mb_O → mb_S → Prop} {σ : mb_S} {st : List Value} {l0 l1 l3 l4 l5 : Option Value} {x : Int32} : mb_Rn d 143 5 [l0, l1, some (.int x), l3, l4, l5] st σ Q = mb_Rn d 143 6 [l0, l1, some (.int x), l3, l4, l5] (.int x :: st) σ Q := rn_step rfl (fun _ _ => rfl)
theorem sL_unkey_6 {d : Nat} {Q : mb_O → mb_S → Prop} {σ : mb_S} {st : List Value} {l0 l1 l2 l4 l5 : Option Value} {x : Int32} : mb_Rn d 143 6 [l0, l1, l2, some (.int x), l4, l5] st σ Q = mb_Rn d 143 7 [l0, l1, l2, some (.int x), l4, l5] (.int x :: st) σ Q := rn_step rfl (fun _ _ => rfl)
theorem sL_unkey_7 {d : Nat} {Q : mb_O → mb_S → Prop} {σ : mb_S} {st : List Value} {ls : mb_L} {p0 : Int32} {p1 : Int32} {p2 : Int32} {b : Nat} (hd : 1 ≤ d) (h4 : st.length ≤ 4) : mb_Rn d 143 7 ls (.int p2 :: .int p1 :: .int p0 :: .ref b :: st) σ Q = mb_gf σ b 7 False (fun _ => mb_Ex (d - 1) 44 [.ref b, .int p0, .int p1, .int p2] σ (mb_qx [(2, 24, 5), (1, 28, 5)] d 143 10 ls st Q)) := rn_callv mb_good rfl hd rfl rfl ⟨rfl, rfl⟩ h4 ⟨Nat.le_of_ble_eq_true rfl, rfl⟩
theorem sL_unkey_10 {d : Nat} {Q : mb_O → mb_S → Prop} {σ : mb_S} {st : List Value} {ls : mb_L} {x : Int32} : mb_Rn d 143 10 ls (.int x :: st) σ Q = if x = 0 then mb_Rn d 143 17 ls st σ Q else mb_Rn d 143 13 ls st σ Q := rn_ifb rfl (fun _ _ => rfl) beq_iff_eq
theorem sL_unkey_13 {d : Nat} {Q : mb_O → mb_S → Prop} {σ : mb_S} {st : List Value} {ls : mb_L} : mb_Rn d 143 13 ls st σ Q = mb_Rn d 143 14 ls (.long 1 :: st) σ Q := rn_step rfl (fun _ _ => rfl)
theorem sL_unkey_14 {d : Nat} {Q : mb_O → mb_S → Prop} {σ : mb_S} {st : List Value} {ls : mb_L} : mb_Rn d 143 14 ls st σ Q = mb_Rn d 143 18 ls st σ Q := rn_step rfl (fun _ _ => rfl)
theorem sL_unkey_17 {d : Nat} {Q : mb_O → mb_S → Prop} {σ : mb_S} {st : List Value} {ls : mb_L} : mb_Rn d 143 17 ls st σ Q = mb_Rn d 143 18 ls (.long 0 :: st) σ Q := rn_step rfl (fun _ _ => rfl)
theorem sL_unkey_18 {d : Nat} {Q : mb_O → mb_S → Prop} {σ : mb_S} {st : List Value} {ls : mb_L} {a : Nat} {j : Int32} {x : Int64} : mb_Rn d 143 18 ls (.long x :: .int j :: .ref a :: st) σ Q = mb_gj σ a j False (fun kd n f => if kd = 1 then mb_Rn d 143 19 ls st (mb_up σ a (.inl (1, n, .inr (.inl (vp_updL f j.toNatClampNeg x))))) Q else False) := rn_last rfl
theorem sL_unkey_19 {d : Nat} {Q : mb_O → mb_S → Prop} {σ : mb_S} {st : List Value} {ls : mb_L} : mb_Rn d 143 19 ls st σ Q = mb_Rn d 143 30 ls st σ Q := rn_step rfl (fun _ _ => rfl)
theorem sL_unkey_22 {d : Nat} {Q : mb_O → mb_S → Prop} {σ : mb_S} {st : List Value} {l0 l1 l2 l3 l4 l5 : Option Value} {a : Nat} : mb_Rn d 143 22 [l0, l1, l2, l3, l4, l5] (.ref a :: st) σ Q = mb_Rn d 143 24 [l0, l1, l2, l3, l4, some (.ref a)] st σ Q := rn_step rfl (fun _ _ => rfl)
theorem sL_unkey_22n {d : Nat} {Q : mb_O → mb_S → Prop} {σ : mb_S} {st : List Value} {l0 l1 l2 l3 l4 l5 : Option Value} : mb_Rn d 143 22 [l0, l1, l2, l3, l4, l5] (.null :: st) σ Q = mb_Rn d 143 24 [l0, l1, l2, l3, l4, some (.null)] st σ Q := rn_step rfl (fun _ _ => rfl)
theorem sL_unkey_24 {d : Nat} {Q : mb_O → mb_S → Prop} {σ : mb_S} {st : List Value} {ls : mb_L} : mb_Rn d 143 24 ls st σ Q = mb_Rn d 143 25 ls (.int 1 :: st) σ Q := rn_step rfl (fun _ _ => rfl)
theorem sL_unkey_25 {d : Nat} {Q : mb_O → mb_S → Prop} {σ : mb_S}  {ls : mb_L} {x : Int32} : mb_Rn d 143 25 ls [.int x] σ Q = Q (.inl (some (.int x))) σ := rn_end rfl (fun _ _ => rfl)
theorem sL_unkey_26 {d : Nat} {Q : mb_O → mb_S → Prop} {σ : mb_S} {st : List Value} {l0 l1 l2 l3 l4 l5 : Option Value} {a : Nat} : mb_Rn d 143 26 [l0, l1, l2, l3, l4, l5] (.ref a :: st) σ Q = mb_Rn d 143 28 [l0, l1, l2, l3, l4, some (.ref a)] st σ Q := rn_step rfl (fun _ _ => rfl)
theorem sL_unkey_26n {d : Nat} {Q : mb_O → mb_S → Prop} {σ : mb_S} {st : List Value} {l0 l1 l2 l3 l4 l5 : Option Value} : mb_Rn d 143 26 [l0, l1, l2, l3, l4, l5] (.null :: st) σ Q = mb_Rn d 143 28 [l0, l1, l2, l3, l4, some (.null)] st σ Q := rn_step rfl (fun _ _ => rfl)
theorem sL_unkey_28 {d : Nat} {Q : mb_O → mb_S → Prop} {σ : mb_S} {st : List Value} {ls : mb_L} : mb_Rn d 143 28 ls st σ Q = mb_Rn d 143 29 ls (.int 2 :: st) σ Q := rn_step rfl (fun _ _ => rfl)
theorem sL_unkey_29 {d : Nat} {Q : mb_O → mb_S → Prop} {σ : mb_S}  {ls : mb_L} {x : Int32} : mb_Rn d 143 29 ls [.int x] σ Q = Q (.inl (some (.int x))) σ := rn_end rfl (fun _ _ => rfl)
theorem sL_unkey_30 {d : Nat} {Q : mb_O → mb_S → Prop} {σ : mb_S} {st : List Value} {ls : mb_L} : mb_Rn d 143 30 ls st σ Q = mb_Rn d 143 31 ls (.int 0 :: st) σ Q := rn_step rfl (fun _ _ => rfl)
theorem sL_unkey_31 {d : Nat} {Q : mb_O → mb_S → Prop} {σ : mb_S}  {ls : mb_L} {x : Int32} : mb_Rn d 143 31 ls [.int x] σ Q = Q (.inl (some (.int x))) σ := rn_end rfl (fun _ _ => rfl)
theorem sL_publish_0 {d : Nat} {Q : mb_O → mb_S → Prop} {σ : mb_S} {st : List Value} {l0 l1 l3 : Option Value} {a : Nat} : mb_Rn d 144 0 [l0, l1, some (.ref a), l3] st σ Q = mb_Rn d 144 1 [l0, l1, some (.ref a), l3] (.ref a :: st) σ Q := rn_step rfl (fun _ _ => rfl)
theorem sL_publish_0n {d : Nat} {Q : mb_O → mb_S → Prop} {σ : mb_S} {st : List Value} {l0 l1 l3 : Option Value} : mb_Rn d 144 0 [l0, l1, some (.null), l3] st σ Q = mb_Rn d 144 1 [l0, l1, some (.null), l3] (.null :: st) σ Q := rn_step rfl (fun _ _ => rfl)
theorem sL_publish_1 {d : Nat} {Q : mb_O → mb_S → Prop} {σ : mb_S} {st : List Value} {ls : mb_L} : mb_Rn d 144 1 ls st σ Q = mb_Rn d 144 2 ls (.int 0 :: st) σ Q := rn_step rfl (fun _ _ => rfl)
theorem sL_publish_2 {d : Nat} {Q : mb_O → mb_S → Prop} {σ : mb_S} {st : List Value} {l1 l2 l3 : Option Value} {a : Nat} : mb_Rn d 144 2 [some (.ref a), l1, l2, l3] st σ Q = mb_Rn d 144 3 [some (.ref a), l1, l2, l3] (.ref a :: st) σ Q := rn_step rfl (fun _ _ => rfl)
theorem sL_publish_2n {d : Nat} {Q : mb_O → mb_S → Prop} {σ : mb_S} {st : List Value} {l1 l2 l3 : Option Value} : mb_Rn d 144 2 [some (.null), l1, l2, l3] st σ Q = mb_Rn d 144 3 [some (.null), l1, l2, l3] (.null :: st) σ Q := rn_step rfl (fun _ _ => rfl)
theorem sL_publish_3 {d : Nat} {Q : mb_O → mb_S → Prop} {σ : mb_S} {st : List Value} {l0 l2 l3 : Option Value} {x : Int32} : mb_Rn d 144 3 [l0, some (.int x), l2, l3] st σ Q = mb_Rn d 144 4 [l0, some (.int x), l2, l3] (.int x :: st) σ Q := rn_step rfl (fun _ _ => rfl)
theorem sL_publish_4 {d : Nat} {Q : mb_O → mb_S → Prop} {σ : mb_S} {st : List Value} {ls : mb_L} {p0 : Int32} {b : Nat} (hd : 1 ≤ d) (h4 : st.length ≤ 4) : mb_Rn d 144 4 ls (.int p0 :: .ref b :: st) σ Q = mb_gf σ b 7 False (fun _ => mb_Ex (d - 1) 45 [.ref b, .int p0] σ (mb_qx [(2, 13, 3), (0, 16, 3)] d 144 7 ls st Q)) := rn_callv mb_good rfl hd rfl rfl ⟨rfl, rfl⟩ h4 ⟨Nat.le_of_ble_eq_true rfl, rfl⟩
theorem sL_publish_7 {d : Nat} {Q : mb_O → mb_S → Prop} {σ : mb_S} {st : List Value} {ls : mb_L} {x : Int32} : mb_Rn d 144 7 ls (.int x :: st) σ Q = mb_Rn d 144 8 ls (.long x.toInt64 :: st) σ Q := rn_step rfl (fun _ _ => rfl)
theorem sL_publish_8 {d : Nat} {Q : mb_O → mb_S → Prop} {σ : mb_S} {st : List Value} {ls : mb_L} {a : Nat} {j : Int32} {x : Int64} : mb_Rn d 144 8 ls (.long x :: .int j :: .ref a :: st) σ Q = mb_gj σ a j False (fun kd n f => if kd = 1 then mb_Rn d 144 9 ls st (mb_up σ a (.inl (1, n, .inr (.inl (vp_updL f j.toNatClampNeg x))))) Q else False) := rn_last rfl
theorem sL_publish_9 {d : Nat} {Q : mb_O → mb_S → Prop} {σ : mb_S} {st : List Value} {ls : mb_L} : mb_Rn d 144 9 ls st σ Q = mb_Rn d 144 18 ls st σ Q := rn_step rfl (fun _ _ => rfl)
theorem sL_publish_12 {d : Nat} {Q : mb_O → mb_S → Prop} {σ : mb_S} {st : List Value} {l0 l1 l2 l3 : Option Value} {a : Nat} : mb_Rn d 144 12 [l0, l1, l2, l3] (.ref a :: st) σ Q = mb_Rn d 144 13 [l0, l1, l2, some (.ref a)] st σ Q := rn_step rfl (fun _ _ => rfl)
theorem sL_publish_12n {d : Nat} {Q : mb_O → mb_S → Prop} {σ : mb_S} {st : List Value} {l0 l1 l2 l3 : Option Value} : mb_Rn d 144 12 [l0, l1, l2, l3] (.null :: st) σ Q = mb_Rn d 144 13 [l0, l1, l2, some (.null)] st σ Q := rn_step rfl (fun _ _ => rfl)
theorem sL_publish_13 {d : Nat} {Q : mb_O → mb_S → Prop} {σ : mb_S} {st : List Value} {ls : mb_L} : mb_Rn d 144 13 ls st σ Q = mb_Rn d 144 14 ls (.int 1 :: st) σ Q := rn_step rfl (fun _ _ => rfl)
theorem sL_publish_14 {d : Nat} {Q : mb_O → mb_S → Prop} {σ : mb_S}  {ls : mb_L} {x : Int32} : mb_Rn d 144 14 ls [.int x] σ Q = Q (.inl (some (.int x))) σ := rn_end rfl (fun _ _ => rfl)
theorem sL_publish_15 {d : Nat} {Q : mb_O → mb_S → Prop} {σ : mb_S} {st : List Value} {l0 l1 l2 l3 : Option Value} {a : Nat} : mb_Rn d 144 15 [l0, l1, l2, l3] (.ref a :: st) σ Q = mb_Rn d 144 16 [l0, l1, l2, some (.ref a)] st σ Q := rn_step rfl (fun _ _ => rfl)
theorem sL_publish_15n {d : Nat} {Q : mb_O → mb_S → Prop} {σ : mb_S} {st : List Value} {l0 l1 l2 l3 : Option Value} : mb_Rn d 144 15 [l0, l1, l2, l3] (.null :: st) σ Q = mb_Rn d 144 16 [l0, l1, l2, some (.null)] st σ Q := rn_step rfl (fun _ _ => rfl)
theorem sL_publish_16 {d : Nat} {Q : mb_O → mb_S → Prop} {σ : mb_S} {st : List Value} {ls : mb_L} : mb_Rn d 144 16 ls st σ Q = mb_Rn d 144 17 ls (.int 2 :: st) σ Q := rn_step rfl (fun _ _ => rfl)
theorem sL_publish_17 {d : Nat} {Q : mb_O → mb_S → Prop} {σ : mb_S}  {ls : mb_L} {x : Int32} : mb_Rn d 144 17 ls [.int x] σ Q = Q (.inl (some (.int x))) σ := rn_end rfl (fun _ _ => rfl)
theorem sL_publish_18 {d : Nat} {Q : mb_O → mb_S → Prop} {σ : mb_S} {st : List Value} {ls : mb_L} : mb_Rn d 144 18 ls st σ Q = mb_Rn d 144 19 ls (.int 0 :: st) σ Q := rn_step rfl (fun _ _ => rfl)
theorem sL_publish_19 {d : Nat} {Q : mb_O → mb_S → Prop} {σ : mb_S}  {ls : mb_L} {x : Int32} : mb_Rn d 144 19 ls [.int x] σ Q = Q (.inl (some (.int x))) σ := rn_end rfl (fun _ _ => rfl)
theorem sL_pose_0 {d : Nat} {Q : mb_O → mb_S → Prop} {σ : mb_S} {st : List Value} {l0 l1 l2 l3 l4 l6 : Option Value} {a : Nat} : mb_Rn d 145 0 [l0, l1, l2, l3, l4, some (.ref a), l6] st σ Q = mb_Rn d 145 2 [l0, l1, l2, l3, l4, some (.ref a), l6] (.ref a :: st) σ Q := rn_step rfl (fun _ _ => rfl)
theorem sL_pose_0n {d : Nat} {Q : mb_O → mb_S → Prop} {σ : mb_S} {st : List Value} {l0 l1 l2 l3 l4 l6 : Option Value} : mb_Rn d 145 0 [l0, l1, l2, l3, l4, some (.null), l6] st σ Q = mb_Rn d 145 2 [l0, l1, l2, l3, l4, some (.null), l6] (.null :: st) σ Q := rn_step rfl (fun _ _ => rfl)
theorem sL_pose_2 {d : Nat} {Q : mb_O → mb_S → Prop} {σ : mb_S} {st : List Value} {ls : mb_L} : mb_Rn d 145 2 ls st σ Q = mb_Rn d 145 3 ls (.int 0 :: st) σ Q := rn_step rfl (fun _ _ => rfl)
theorem sL_pose_3 {d : Nat} {Q : mb_O → mb_S → Prop} {σ : mb_S} {st : List Value} {l1 l2 l3 l4 l5 l6 : Option Value} {a : Nat} : mb_Rn d 145 3 [some (.ref a), l1, l2, l3, l4, l5, l6] st σ Q = mb_Rn d 145 4 [some (.ref a), l1, l2, l3, l4, l5, l6] (.ref a :: st) σ Q := rn_step rfl (fun _ _ => rfl)
theorem sL_pose_3n {d : Nat} {Q : mb_O → mb_S → Prop} {σ : mb_S} {st : List Value} {l1 l2 l3 l4 l5 l6 : Option Value} : mb_Rn d 145 3 [some (.null), l1, l2, l3, l4, l5, l6] st σ Q = mb_Rn d 145 4 [some (.null), l1, l2, l3, l4, l5, l6] (.null :: st) σ Q := rn_step rfl (fun _ _ => rfl)
theorem sL_pose_4 {d : Nat} {Q : mb_O → mb_S → Prop} {σ : mb_S} {st : List Value} {l0 l2 l3 l4 l5 l6 : Option Value} {x : Int32} : mb_Rn d 145 4 [l0, some (.int x), l2, l3, l4, l5, l6] st σ Q = mb_Rn d 145 5 [l0, some (.int x), l2, l3, l4, l5, l6] (.int x :: st) σ Q := rn_step rfl (fun _ _ => rfl)
theorem sL_pose_5 {d : Nat} {Q : mb_O → mb_S → Prop} {σ : mb_S} {st : List Value} {l0 l1 l3 l4 l5 l6 : Option Value} {x : Int32} : mb_Rn d 145 5 [l0, l1, some (.int x), l3, l4, l5, l6] st σ Q = mb_Rn d 145 6 [l0, l1, some (.int x), l3, l4, l5, l6] (.int x :: st) σ Q := rn_step rfl (fun _ _ => rfl)
theorem sL_pose_6 {d : Nat} {Q : mb_O → mb_S → Prop} {σ : mb_S} {st : List Value} {l0 l1 l2 l4 l5 l6 : Option Value} {x : Int32} : mb_Rn d 145 6 [l0, l1, l2, some (.int x), l4, l5, l6] st σ Q = mb_Rn d 145 7 [l0, l1, l2, some (.int x), l4, l5, l6] (.int x :: st) σ Q := rn_step rfl (fun _ _ => rfl)
theorem sL_pose_7 {d : Nat} {Q : mb_O → mb_S → Prop} {σ : mb_S} {st : List Value} {l0 l1 l2 l3 l5 l6 : Option Value} {x : Int32} : mb_Rn d 145 7 [l0, l1, l2, l3, some (.int x), l5, l6] st σ Q = mb_Rn d 145 9 [l0, l1, l2, l3, some (.int x), l5, l6] (.int x :: st) σ Q := rn_step rfl (fun _ _ => rfl)
theorem sL_pose_9 {d : Nat} {Q : mb_O → mb_S → Prop} {σ : mb_S} {st : List Value} {ls : mb_L} {p0 : Int32} {p1 : Int32} {p2 : Int32} {p3 : Int32} {b : Nat} (hd : 1 ≤ d) (h4 : st.length ≤ 4) : mb_Rn d 145 9 ls (.int p3 :: .int p2 :: .int p1 :: .int p0 :: .ref b :: st) σ Q = mb_gf σ b 7 False (fun _ => mb_Ex (d - 1) 46 [.ref b, .int p0, .int p1, .int p2, .int p3] σ (mb_qx [(2, 19, 6), (1, 23, 6)] d 145 12 ls st Q)) := rn_callv mb_good rfl hd rfl rfl ⟨rfl, rfl⟩ h4 ⟨Nat.le_of_ble_eq_true rfl, rfl⟩
theorem sL_pose_12 {d : Nat} {Q : mb_O → mb_S → Prop} {σ : mb_S} {st : List Value} {ls : mb_L} {x : Int32} : mb_Rn d 145 12 ls (.int x :: st) σ Q = mb_Rn d 145 13 ls (.long x.toInt64 :: st) σ Q := rn_step rfl (fun _ _ => rfl)
theorem sL_pose_13 {d : Nat} {Q : mb_O → mb_S → Prop} {σ : mb_S} {st : List Value} {ls : mb_L} {a : Nat} {j : Int32} {x : Int64} : mb_Rn d 145 13 ls (.long x :: .int j :: .ref a :: st) σ Q = mb_gj σ a j False (fun kd n f => if kd = 1 then mb_Rn d 145 14 ls st (mb_up σ a (.inl (1, n, .inr (.inl (vp_updL f j.toNatClampNeg x))))) Q else False) := rn_last rfl
theorem sL_pose_14 {d : Nat} {Q : mb_O → mb_S → Prop} {σ : mb_S} {st : List Value} {ls : mb_L} : mb_Rn d 145 14 ls st σ Q = mb_Rn d 145 25 ls st σ Q := rn_step rfl (fun _ _ => rfl)
theorem sL_pose_17 {d : Nat} {Q : mb_O → mb_S → Prop} {σ : mb_S} {st : List Value} {l0 l1 l2 l3 l4 l5 l6 : Option Value} {a : Nat} : mb_Rn d 145 17 [l0, l1, l2, l3, l4, l5, l6] (.ref a :: st) σ Q = mb_Rn d 145 19 [l0, l1, l2, l3, l4, l5, some (.ref a)] st σ Q := rn_step rfl (fun _ _ => rfl)
theorem sL_pose_17n {d : Nat} {Q : mb_O → mb_S → Prop} {σ : mb_S} {st : List Value} {l0 l1 l2 l3 l4 l5 l6 : Option Value} : mb_Rn d 145 17 [l0, l1, l2, l3, l4, l5, l6] (.null :: st) σ Q = mb_Rn d 145 19 [l0, l1, l2, l3, l4, l5, some (.null)] st σ Q := rn_step rfl (fun _ _ => rfl)
theorem sL_pose_19 {d : Nat} {Q : mb_O → mb_S → Prop} {σ : mb_S} {st : List Value} {ls : mb_L} : mb_Rn d 145 19 ls st σ Q = mb_Rn d 145 20 ls (.int 1 :: st) σ Q := rn_step rfl (fun _ _ => rfl)
theorem sL_pose_20 {d : Nat} {Q : mb_O → mb_S → Prop} {σ : mb_S}  {ls : mb_L} {x : Int32} : mb_Rn d 145 20 ls [.int x] σ Q = Q (.inl (some (.int x))) σ := rn_end rfl (fun _ _ => rfl)
theorem sL_pose_21 {d : Nat} {Q : mb_O → mb_S → Prop} {σ : mb_S} {st : List Value} {l0 l1 l2 l3 l4 l5 l6 : Option Value} {a : Nat} : mb_Rn d 145 21 [l0, l1, l2, l3, l4, l5, l6] (.ref a :: st) σ Q = mb_Rn d 145 23 [l0, l1, l2, l3, l4, l5, some (.ref a)] st σ Q := rn_step rfl (fun _ _ => rfl)
theorem sL_pose_21n {d : Nat} {Q : mb_O → mb_S → Prop} {σ : mb_S} {st : List Value} {l0 l1 l2 l3 l4 l5 l6 : Option Value} : mb_Rn d 145 21 [l0, l1, l2, l3, l4, l5, l6] (.null :: st) σ Q = mb_Rn d 145 23 [l0, l1, l2, l3, l4, l5, some (.null)] st σ Q := rn_step rfl (fun _ _ => rfl)
theorem sL_pose_23 {d : Nat} {Q : mb_O → mb_S → Prop} {σ : mb_S} {st : List Value} {ls : mb_L} : mb_Rn d 145 23 ls st σ Q = mb_Rn d 145 24 ls (.int 2 :: st) σ Q := rn_step rfl (fun _ _ => rfl)
theorem sL_pose_24 {d : Nat} {Q : mb_O → mb_S → Prop} {σ : mb_S}  {ls : mb_L} {x : Int32} : mb_Rn d 145 24 ls [.int x] σ Q = Q (.inl (some (.int x))) σ := rn_end rfl (fun _ _ => rfl)
theorem sL_pose_25 {d : Nat} {Q : mb_O → mb_S → Prop} {σ : mb_S} {st : List Value} {ls : mb_L} : mb_Rn d 145 25 ls st σ Q = mb_Rn d 145 26 ls (.int 0 :: st) σ Q := rn_step rfl (fun _ _ => rfl)
theorem sL_pose_26 {d : Nat} {Q : mb_O → mb_S → Prop} {σ : mb_S}  {ls : mb_L} {x : Int32} : mb_Rn d 145 26 ls [.int x] σ Q = Q (.inl (some (.int x))) σ := rn_end rfl (fun _ _ => rfl)
theorem sL_poseAnew_0 {d : Nat} {Q : mb_O → mb_S → Prop} {σ : mb_S} {st : List Value} {l0 l1 l2 l3 l4 l6 : Option Value} {a : Nat} : mb_Rn d 146 0 [l0, l1, l2, l3, l4, some (.ref a), l6] st σ Q = mb_Rn d 146 2 [l0, l1, l2, l3, l4, some (.ref a), l6] (.ref a :: st) σ Q := rn_step rfl (fun _ _ => rfl)
theorem sL_poseAnew_0n {d : Nat} {Q : mb_O → mb_S → Prop} {σ : mb_S} {st : List Value} {l0 l1 l2 l3 l4 l6 : Option Value} : mb_Rn d 146 0 [l0, l1, l2, l3, l4, some (.null), l6] st σ Q = mb_Rn d 146 2 [l0, l1, l2, l3, l4, some (.null), l6] (.null :: st) σ Q := rn_step rfl (fun _ _ => rfl)
theorem sL_poseAnew_2 {d : Nat} {Q : mb_O → mb_S → Prop} {σ : mb_S} {st : List Value} {ls : mb_L} : mb_Rn d 146 2 ls st σ Q = mb_Rn d 146 3 ls (.int 0 :: st) σ Q := rn_step rfl (fun _ _ => rfl)
theorem sL_poseAnew_3 {d : Nat} {Q : mb_O → mb_S → Prop} {σ : mb_S} {st : List Value} {l1 l2 l3 l4 l5 l6 : Option Value} {a : Nat} : mb_Rn d 146 3 [some (.ref a), l1, l2, l3, l4, l5, l6] st σ Q = mb_Rn d 146 4 [some (.ref a), l1, l2, l3, l4, l5, l6] (.ref a :: st) σ Q := rn_step rfl (fun _ _ => rfl)
theorem sL_poseAnew_3n {d : Nat} {Q : mb_O → mb_S → Prop} {σ : mb_S} {st : List Value} {l1 l2 l3 l4 l5 l6 : Option Value} : mb_Rn d 146 3 [some (.null), l1, l2, l3, l4, l5, l6] st σ Q = mb_Rn d 146 4 [some (.null), l1, l2, l3, l4, l5, l6] (.null :: st) σ Q := rn_step rfl (fun _ _ => rfl)
theorem sL_poseAnew_4 {d : Nat} {Q : mb_O → mb_S → Prop} {σ : mb_S} {st : List Value} {l0 l2 l3 l4 l5 l6 : Option Value} {x : Int32} : mb_Rn d 146 4 [l0, some (.int x), l2, l3, l4, l5, l6] st σ Q = mb_Rn d 146 5 [l0, some (.int x), l2, l3, l4, l5, l6] (.int x :: st) σ Q := rn_step rfl (fun _ _ => rfl)
theorem sL_poseAnew_5 {d : Nat} {Q : mb_O → mb_S → Prop} {σ : mb_S} {st : List Value} {l0 l1 l3 l4 l5 l6 : Option Value} {x : Int32} : mb_Rn d 146 5 [l0, l1, some (.int x), l3, l4, l5, l6] st σ Q = mb_Rn d 146 6 [l0, l1, some (.int x), l3, l4, l5, l6] (.int x :: st) σ Q := rn_step rfl (fun _ _ => rfl)
theorem sL_poseAnew_6 {d : Nat} {Q : mb_O → mb_S → Prop} {σ : mb_S} {st : List Value} {l0 l1 l2 l4 l5 l6 : Option Value} {x : Int32} : mb_Rn d 146 6 [l0, l1, l2, some (.int x), l4, l5, l6] st σ Q = mb_Rn d 146 7 [l0, l1, l2, some (.int x), l4, l5, l6] (.int x :: st) σ Q := rn_step rfl (fun _ _ => rfl)
theorem sL_poseAnew_7 {d : Nat} {Q : mb_O → mb_S → Prop} {σ : mb_S} {st : List Value} {l0 l1 l2 l3 l5 l6 : Option Value} {x : Int32} : mb_Rn d 146 7 [l0, l1, l2, l3, some (.int x), l5, l6] st σ Q = mb_Rn d 146 9 [l0, l1, l2, l3, some (.int x), l5, l6] (.int x :: st) σ Q := rn_step rfl (fun _ _ => rfl)
theorem sL_poseAnew_9 {d : Nat} {Q : mb_O → mb_S → Prop} {σ : mb_S} {st : List Value} {ls : mb_L} {p0 : Int32} {p1 : Int32} {p2 : Int32} {p3 : Int32} {b : Nat} (hd : 1 ≤ d) (h4 : st.length ≤ 4) : mb_Rn d 146 9 ls (.int p3 :: .int p2 :: .int p1 :: .int p0 :: .ref b :: st) σ Q = mb_gf σ b 7 False (fun _ => mb_Ex (d - 1) 47 [.ref b, .int p0, .int p1, .int p2, .int p3] σ (mb_qx [(2, 19, 6), (1, 23, 6)] d 146 12 ls st Q)) := rn_callv mb_good rfl hd rfl rfl ⟨rfl, rfl⟩ h4 ⟨Nat.le_of_ble_eq_true rfl, rfl⟩
theorem sL_poseAnew_12 {d : Nat} {Q : mb_O → mb_S → Prop} {σ : mb_S} {st : List Value} {ls : mb_L} {x : Int32} : mb_Rn d 146 12 ls (.int x :: st) σ Q = mb_Rn d 146 13 ls (.long x.toInt64 :: st) σ Q := rn_step rfl (fun _ _ => rfl)
theorem sL_poseAnew_13 {d : Nat} {Q : mb_O → mb_S → Prop} {σ : mb_S} {st : List Value} {ls : mb_L} {a : Nat} {j : Int32} {x : Int64} : mb_Rn d 146 13 ls (.long x :: .int j :: .ref a :: st) σ Q = mb_gj σ a j False (fun kd n f => if kd = 1 then mb_Rn d 146 14 ls st (mb_up σ a (.inl (1, n, .inr (.inl (vp_updL f j.toNatClampNeg x))))) Q else False) := rn_last rfl
theorem sL_poseAnew_14 {d : Nat} {Q : mb_O → mb_S → Prop} {σ : mb_S} {st : List Value} {ls : mb_L} : mb_Rn d 146 14 ls st σ Q = mb_Rn d 146 25 ls st σ Q := rn_step rfl (fun _ _ => rfl)
theorem sL_poseAnew_17 {d : Nat} {Q : mb_O → mb_S → Prop} {σ : mb_S} {st : List Value} {l0 l1 l2 l3 l4 l5 l6 : Option Value} {a : Nat} : mb_Rn d 146 17 [l0, l1, l2, l3, l4, l5, l6] (.ref a :: st) σ Q = mb_Rn d 146 19 [l0, l1, l2, l3, l4, l5, some (.ref a)] st σ Q := rn_step rfl (fun _ _ => rfl)
theorem sL_poseAnew_17n {d : Nat} {Q : mb_O → mb_S → Prop} {σ : mb_S} {st : List Value} {l0 l1 l2 l3 l4 l5 l6 : Option Value} : mb_Rn d 146 17 [l0, l1, l2, l3, l4, l5, l6] (.null :: st) σ Q = mb_Rn d 146 19 [l0, l1, l2, l3, l4, l5, some (.null)] st σ Q := rn_step rfl (fun _ _ => rfl)
theorem sL_poseAnew_19 {d : Nat} {Q : mb_O → mb_S → Prop} {σ : mb_S} {st : List Value} {ls : mb_L} : mb_Rn d 146 19 ls st σ Q = mb_Rn d 146 20 ls (.int 1 :: st) σ Q := rn_step rfl (fun _ _ => rfl)
theorem sL_poseAnew_20 {d : Nat} {Q : mb_O → mb_S → Prop} {σ : mb_S}  {ls : mb_L} {x : Int32} : mb_Rn d 146 20 ls [.int x] σ Q = Q (.inl (some (.int x))) σ := rn_end rfl (fun _ _ => rfl)
theorem sL_poseAnew_21 {d : Nat} {Q : mb_O → mb_S → Prop} {σ : mb_S} {st : List Value} {l0 l1 l2 l3 l4 l5 l6 : Option Value} {a : Nat} : mb_Rn d 146 21 [l0, l1, l2, l3, l4, l5, l6] (.ref a :: st) σ Q = mb_Rn d 146 23 [l0, l1, l2, l3, l4, l5, some (.ref a)] st σ Q := rn_step rfl (fun _ _ => rfl)
theorem sL_poseAnew_21n {d : Nat} {Q : mb_O → mb_S → Prop} {σ : mb_S} {st : List Value} {l0 l1 l2 l3 l4 l5 l6 : Option Value} : mb_Rn d 146 21 [l0, l1, l2, l3, l4, l5, l6] (.null :: st) σ Q = mb_Rn d 146 23 [l0, l1, l2, l3, l4, l5, some (.null)] st σ Q := rn_step rfl (fun _ _ => rfl)
theorem sL_poseAnew_23 {d : Nat} {Q : mb_O → mb_S → Prop} {σ : mb_S} {st : List Value} {ls : mb_L} : mb_Rn d 146 23 ls st σ Q = mb_Rn d 146 24 ls (.int 2 :: st) σ Q := rn_step rfl (fun _ _ => rfl)
theorem sL_poseAnew_24 {d : Nat} {Q : mb_O → mb_S → Prop} {σ : mb_S}  {ls : mb_L} {x : Int32} : mb_Rn d 146 24 ls [.int x] σ Q = Q (.inl (some (.int x))) σ := rn_end rfl (fun _ _ => rfl)
theorem sL_poseAnew_25 {d : Nat} {Q : mb_O → mb_S → Prop} {σ : mb_S} {st : List Value} {ls : mb_L} : mb_Rn d 146 25 ls st σ Q = mb_Rn d 146 26 ls (.int 0 :: st) σ Q := rn_step rfl (fun _ _ => rfl)
theorem sL_poseAnew_26 {d : Nat} {Q : mb_O → mb_S → Prop} {σ : mb_S}  {ls : mb_L} {x : Int32} : mb_Rn d 146 26 ls [.int x] σ Q = Q (.inl (some (.int x))) σ := rn_end rfl (fun _ _ => rfl)
theorem sL_ofAsset_0 {d : Nat} {Q : mb_O → mb_S → Prop} {σ : mb_S} {st : List Value} {l0 l1 l2 l4 : Option Value} {a : Nat} : mb_Rn d 147 0 [l0, l1, l2, some (.ref a), l4] st σ Q = mb_Rn d 147 1 [l0, l1, l2, some (.ref a), l4] (.ref a :: st) σ Q := rn_step rfl (fun _ _ => rfl)
theorem sL_ofAsset_0n {d : Nat} {Q : mb_O → mb_S → Prop} {σ : mb_S} {st : List Value} {l0 l1 l2 l4 : Option Value} : mb_Rn d 147 0 [l0, l1, l2, some (.null), l4] st σ Q = mb_Rn d 147 1 [l0, l1, l2, some (.null), l4] (.null :: st) σ Q := rn_step rfl (fun _ _ => rfl)
theorem sL_ofAsset_1 {d : Nat} {Q : mb_O → mb_S → Prop} {σ : mb_S} {st : List Value} {ls : mb_L} : mb_Rn d 147 1 ls st σ Q = mb_Rn d 147 2 ls (.int 0 :: st) σ Q := rn_step rfl (fun _ _ => rfl)
theorem sL_ofAsset_2 {d : Nat} {Q : mb_O → mb_S → Prop} {σ : mb_S} {st : List Value} {l1 l2 l3 l4 : Option Value} {a : Nat} : mb_Rn d 147 2 [some (.ref a), l1, l2, l3, l4] st σ Q = mb_Rn d 147 3 [some (.ref a), l1, l2, l3, l4] (.ref a :: st) σ Q := rn_step rfl (fun _ _ => rfl)
theorem sL_ofAsset_2n {d : Nat} {Q : mb_O → mb_S → Prop} {σ : mb_S} {st : List Value} {l1 l2 l3 l4 : Option Value} : mb_Rn d 147 2 [some (.null), l1, l2, l3, l4] st σ Q = mb_Rn d 147 3 [some (.null), l1, l2, l3, l4] (.null :: st) σ Q := rn_step rfl (fun _ _ => rfl)
theorem sL_ofAsset_3 {d : Nat} {Q : mb_O → mb_S → Prop} {σ : mb_S} {st : List Value} {l0 l2 l3 l4 : Option Value} {x : Int32} : mb_Rn d 147 3 [l0, some (.int x), l2, l3, l4] st σ Q = mb_Rn d 147 4 [l0, some (.int x), l2, l3, l4] (.int x :: st) σ Q := rn_step rfl (fun _ _ => rfl)
theorem sL_ofAsset_4 {d : Nat} {Q : mb_O → mb_S → Prop} {σ : mb_S} {st : List Value} {l0 l1 l3 l4 : Option Value} {x : Int32} : mb_Rn d 147 4 [l0, l1, some (.int x), l3, l4] st σ Q = mb_Rn d 147 5 [l0, l1, some (.int x), l3, l4] (.int x :: st) σ Q := rn_step rfl (fun _ _ => rfl)
theorem sL_ofAsset_5 {d : Nat} {Q : mb_O → mb_S → Prop} {σ : mb_S} {st : List Value} {ls : mb_L} {p0 : Int32} {p1 : Int32} {b : Nat} (hd : 1 ≤ d) (h4 : st.length ≤ 4) : mb_Rn d 147 5 ls (.int p1 :: .int p0 :: .ref b :: st) σ Q = mb_gf σ b 7 False (fun _ => mb_Ex (d - 1) 48 [.ref b, .int p0, .int p1] σ (mb_qx [(2, 15, 4)] d 147 8 ls st Q)) := rn_callv mb_good rfl hd rfl rfl ⟨rfl, rfl⟩ h4 ⟨Nat.le_of_ble_eq_true rfl, rfl⟩
theorem sL_ofAsset_8 {d : Nat} {Q : mb_O → mb_S → Prop} {σ : mb_S} {st : List Value} {ls : mb_L} {x : Int32} : mb_Rn d 147 8 ls (.int x :: st) σ Q = mb_Rn d 147 9 ls (.long x.toInt64 :: st) σ Q := rn_step rfl (fun _ _ => rfl)
theorem sL_ofAsset_9 {d : Nat} {Q : mb_O → mb_S → Prop} {σ : mb_S} {st : List Value} {ls : mb_L} {a : Nat} {j : Int32} {x : Int64} : mb_Rn d 147 9 ls (.long x :: .int j :: .ref a :: st) σ Q = mb_gj σ a j False (fun kd n f => if kd = 1 then mb_Rn d 147 10 ls st (mb_up σ a (.inl (1, n, .inr (.inl (vp_updL f j.toNatClampNeg x))))) Q else False) := rn_last rfl
theorem sL_ofAsset_10 {d : Nat} {Q : mb_O → mb_S → Prop} {σ : mb_S} {st : List Value} {ls : mb_L} : mb_Rn d 147 10 ls st σ Q = mb_Rn d 147 17 ls st σ Q := rn_step rfl (fun _ _ => rfl)
theorem sL_ofAsset_13 {d : Nat} {Q : mb_O → mb_S → Prop} {σ : mb_S} {st : List Value} {l0 l1 l2 l3 l4 : Option Value} {a : Nat} : mb_Rn d 147 13 [l0, l1, l2, l3, l4] (.ref a :: st) σ Q = mb_Rn d 147 15 [l0, l1, l2, l3, some (.ref a)] st σ Q := rn_step rfl (fun _ _ => rfl)
theorem sL_ofAsset_13n {d : Nat} {Q : mb_O → mb_S → Prop} {σ : mb_S} {st : List Value} {l0 l1 l2 l3 l4 : Option Value} : mb_Rn d 147 13 [l0, l1, l2, l3, l4] (.null :: st) σ Q = mb_Rn d 147 15 [l0, l1, l2, l3, some (.null)] st σ Q := rn_step rfl (fun _ _ => rfl)
theorem sL_ofAsset_15 {d : Nat} {Q : mb_O → mb_S → Prop} {σ : mb_S} {st : List Value} {ls : mb_L} : mb_Rn d 147 15 ls st σ Q = mb_Rn d 147 16 ls (.int 1 :: st) σ Q := rn_step rfl (fun _ _ => rfl)
theorem sL_ofAsset_16 {d : Nat} {Q : mb_O → mb_S → Prop} {σ : mb_S}  {ls : mb_L} {x : Int32} : mb_Rn d 147 16 ls [.int x] σ Q = Q (.inl (some (.int x))) σ := rn_end rfl (fun _ _ => rfl)
theorem sL_ofAsset_17 {d : Nat} {Q : mb_O → mb_S → Prop} {σ : mb_S} {st : List Value} {ls : mb_L} : mb_Rn d 147 17 ls st σ Q = mb_Rn d 147 18 ls (.int 0 :: st) σ Q := rn_step rfl (fun _ _ => rfl)
theorem sL_ofAsset_18 {d : Nat} {Q : mb_O → mb_S → Prop} {σ : mb_S}  {ls : mb_L} {x : Int32} : mb_Rn d 147 18 ls [.int x] σ Q = Q (.inl (some (.int x))) σ := rn_end rfl (fun _ _ => rfl)
theorem sL_scene_0 {d : Nat} {Q : mb_O → mb_S → Prop} {σ : mb_S} {st : List Value} {l0 l1 l3 : Option Value} {a : Nat} : mb_Rn d 148 0 [l0, l1, some (.ref a), l3] st σ Q = mb_Rn d 148 1 [l0, l1, some (.ref a), l3] (.ref a :: st) σ Q := rn_step rfl (fun _ _ => rfl)
theorem sL_scene_0n {d : Nat} {Q : mb_O → mb_S → Prop} {σ : mb_S} {st : List Value} {l0 l1 l3 : Option Value} : mb_Rn d 148 0 [l0, l1, some (.null), l3] st σ Q = mb_Rn d 148 1 [l0, l1, some (.null), l3] (.null :: st) σ Q := rn_step rfl (fun _ _ => rfl)
theorem sL_scene_1 {d : Nat} {Q : mb_O → mb_S → Prop} {σ : mb_S} {st : List Value} {ls : mb_L} : mb_Rn d 148 1 ls st σ Q = mb_Rn d 148 2 ls (.int 0 :: st) σ Q := rn_step rfl (fun _ _ => rfl)
theorem sL_scene_2 {d : Nat} {Q : mb_O → mb_S → Prop} {σ : mb_S} {st : List Value} {l1 l2 l3 : Option Value} {a : Nat} : mb_Rn d 148 2 [some (.ref a), l1, l2, l3] st σ Q = mb_Rn d 148 3 [some (.ref a), l1, l2, l3] (.ref a :: st) σ Q := rn_step rfl (fun _ _ => rfl)
theorem sL_scene_2n {d : Nat} {Q : mb_O → mb_S → Prop} {σ : mb_S} {st : List Value} {l1 l2 l3 : Option Value} : mb_Rn d 148 2 [some (.null), l1, l2, l3] st σ Q = mb_Rn d 148 3 [some (.null), l1, l2, l3] (.null :: st) σ Q := rn_step rfl (fun _ _ => rfl)
theorem sL_scene_3 {d : Nat} {Q : mb_O → mb_S → Prop} {σ : mb_S} {st : List Value} {l0 l2 l3 : Option Value} {x : Int32} : mb_Rn d 148 3 [l0, some (.int x), l2, l3] st σ Q = mb_Rn d 148 4 [l0, some (.int x), l2, l3] (.int x :: st) σ Q := rn_step rfl (fun _ _ => rfl)
theorem sL_scene_4 {d : Nat} {Q : mb_O → mb_S → Prop} {σ : mb_S} {st : List Value} {ls : mb_L} {p0 : Int32} {b : Nat} (hd : 1 ≤ d) (h4 : st.length ≤ 4) : mb_Rn d 148 4 ls (.int p0 :: .ref b :: st) σ Q = mb_gf σ b 7 False (fun _ => mb_Ex (d - 1) 49 [.ref b, .int p0] σ (mb_qx [(1, 13, 3), (0, 16, 3)] d 148 7 ls st Q)) := rn_callv mb_good rfl hd rfl rfl ⟨rfl, rfl⟩ h4 ⟨Nat.le_of_ble_eq_true rfl, rfl⟩
theorem sL_scene_7 {d : Nat} {Q : mb_O → mb_S → Prop} {σ : mb_S} {st : List Value} {ls : mb_L} {x : Int32} : mb_Rn d 148 7 ls (.int x :: st) σ Q = mb_Rn d 148 8 ls (.long x.toInt64 :: st) σ Q := rn_step rfl (fun _ _ => rfl)
theorem sL_scene_8 {d : Nat} {Q : mb_O → mb_S → Prop} {σ : mb_S} {st : List Value} {ls : mb_L} {a : Nat} {j : Int32} {x : Int64} : mb_Rn d 148 8 ls (.long x :: .int j :: .ref a :: st) σ Q = mb_gj σ a j False (fun kd n f => if kd = 1 then mb_Rn d 148 9 ls st (mb_up σ a (.inl (1, n, .inr (.inl (vp_updL f j.toNatClampNeg x))))) Q else False) := rn_last rfl
theorem sL_scene_9 {d : Nat} {Q : mb_O → mb_S → Prop} {σ : mb_S} {st : List Value} {ls : mb_L} : mb_Rn d 148 9 ls st σ Q = mb_Rn d 148 18 ls st σ Q := rn_step rfl (fun _ _ => rfl)
theorem sL_scene_12 {d : Nat} {Q : mb_O → mb_S → Prop} {σ : mb_S} {st : List Value} {l0 l1 l2 l3 : Option Value} {a : Nat} : mb_Rn d 148 12 [l0, l1, l2, l3] (.ref a :: st) σ Q = mb_Rn d 148 13 [l0, l1, l2, some (.ref a)] st σ Q := rn_step rfl (fun _ _ => rfl)
theorem sL_scene_12n {d : Nat} {Q : mb_O → mb_S → Prop} {σ : mb_S} {st : List Value} {l0 l1 l2 l3 : Option Value} : mb_Rn d 148 12 [l0, l1, l2, l3] (.null :: st) σ Q = mb_Rn d 148 13 [l0, l1, l2, some (.null)] st σ Q := rn_step rfl (fun _ _ => rfl)
theorem sL_scene_13 {d : Nat} {Q : mb_O → mb_S → Prop} {σ : mb_S} {st : List Value} {ls : mb_L} : mb_Rn d 148 13 ls st σ Q = mb_Rn d 148 14 ls (.int 1 :: st) σ Q := rn_step rfl (fun _ _ => rfl)
theorem sL_scene_14 {d : Nat} {Q : mb_O → mb_S → Prop} {σ : mb_S}  {ls : mb_L} {x : Int32} : mb_Rn d 148 14 ls [.int x] σ Q = Q (.inl (some (.int x))) σ := rn_end rfl (fun _ _ => rfl)
theorem sL_scene_15 {d : Nat} {Q : mb_O → mb_S → Prop} {σ : mb_S} {st : List Value} {l0 l1 l2 l3 : Option Value} {a : Nat} : mb_Rn d 148 15 [l0, l1, l2, l3] (.ref a :: st) σ Q = mb_Rn d 148 16 [l0, l1, l2, some (.ref a)] st σ Q := rn_step rfl (fun _ _ => rfl)
theorem sL_scene_15n {d : Nat} {Q : mb_O → mb_S → Prop} {σ : mb_S} {st : List Value} {l0 l1 l2 l3 : Option Value} : mb_Rn d 148 15 [l0, l1, l2, l3] (.null :: st) σ Q = mb_Rn d 148 16 [l0, l1, l2, some (.null)] st σ Q := rn_step rfl (fun _ _ => rfl)
theorem sL_scene_16 {d : Nat} {Q : mb_O → mb_S → Prop} {σ : mb_S} {st : List Value} {ls : mb_L} : mb_Rn d 148 16 ls st σ Q = mb_Rn d 148 17 ls (.int 2 :: st) σ Q := rn_step rfl (fun _ _ => rfl)
theorem sL_scene_17 {d : Nat} {Q : mb_O → mb_S → Prop} {σ : mb_S}  {ls : mb_L} {x : Int32} : mb_Rn d 148 17 ls [.int x] σ Q = Q (.inl (some (.int x))) σ := rn_end rfl (fun _ _ => rfl)
theorem sL_scene_18 {d : Nat} {Q : mb_O → mb_S → Prop} {σ : mb_S} {st : List Value} {ls : mb_L} : mb_Rn d 148 18 ls st σ Q = mb_Rn d 148 19 ls (.int 0 :: st) σ Q := rn_step rfl (fun _ _ => rfl)
theorem sL_scene_19 {d : Nat} {Q : mb_O → mb_S → Prop} {σ : mb_S}  {ls : mb_L} {x : Int32} : mb_Rn d 148 19 ls [.int x] σ Q = Q (.inl (some (.int x))) σ := rn_end rfl (fun _ _ => rfl)
theorem sL_cast_0 {d : Nat} {Q : mb_O → mb_S → Prop} {σ : mb_S} {st : List Value} {l0 l1 l2 l3 l4 l5 l7 : Option Value} {a : Nat} : mb_Rn d 149 0 [l0, l1, l2, l3, l4, l5, some (.ref a), l7] st σ Q = mb_Rn d 149 2 [l0, l1, l2, l3, l4, l5, some (.ref a), l7] (.ref a :: st) σ Q := rn_step rfl (fun _ _ => rfl)
theorem sL_cast_0n {d : Nat} {Q : mb_O → mb_S → Prop} {σ : mb_S} {st : List Value} {l0 l1 l2 l3 l4 l5 l7 : Option Value} : mb_Rn d 149 0 [l0, l1, l2, l3, l4, l5, some (.null), l7] st σ Q = mb_Rn d 149 2 [l0, l1, l2, l3, l4, l5, some (.null), l7] (.null :: st) σ Q := rn_step rfl (fun _ _ => rfl)
theorem sL_cast_2 {d : Nat} {Q : mb_O → mb_S → Prop} {σ : mb_S} {st : List Value} {ls : mb_L} : mb_Rn d 149 2 ls st σ Q = mb_Rn d 149 3 ls (.int 0 :: st) σ Q := rn_step rfl (fun _ _ => rfl)
theorem sL_cast_3 {d : Nat} {Q : mb_O → mb_S → Prop} {σ : mb_S} {st : List Value} {l1 l2 l3 l4 l5 l6 l7 : Option Value} {a : Nat} : mb_Rn d 149 3 [some (.ref a), l1, l2, l3, l4, l5, l6, l7] st σ Q = mb_Rn d 149 4 [some (.ref a), l1, l2, l3, l4, l5, l6, l7] (.ref a :: st) σ Q := rn_step rfl (fun _ _ => rfl)
theorem sL_cast_3n {d : Nat} {Q : mb_O → mb_S → Prop} {σ : mb_S} {st : List Value} {l1 l2 l3 l4 l5 l6 l7 : Option Value} : mb_Rn d 149 3 [some (.null), l1, l2, l3, l4, l5, l6, l7] st σ Q = mb_Rn d 149 4 [some (.null), l1, l2, l3, l4, l5, l6, l7] (.null :: st) σ Q := rn_step rfl (fun _ _ => rfl)
theorem sL_cast_4 {d : Nat} {Q : mb_O → mb_S → Prop} {σ : mb_S} {st : List Value} {l0 l2 l3 l4 l5 l6 l7 : Option Value} {x : Int32} : mb_Rn d 149 4 [l0, some (.int x), l2, l3, l4, l5, l6, l7] st σ Q = mb_Rn d 149 5 [l0, some (.int x), l2, l3, l4, l5, l6, l7] (.int x :: st) σ Q := rn_step rfl (fun _ _ => rfl)
theorem sL_cast_5 {d : Nat} {Q : mb_O → mb_S → Prop} {σ : mb_S} {st : List Value} {l0 l1 l3 l4 l5 l6 l7 : Option Value} {x : Int32} : mb_Rn d 149 5 [l0, l1, some (.int x), l3, l4, l5, l6, l7] st σ Q = mb_Rn d 149 6 [l0, l1, some (.int x), l3, l4, l5, l6, l7] (.int x :: st) σ Q := rn_step rfl (fun _ _ => rfl)
theorem sL_cast_6 {d : Nat} {Q : mb_O → mb_S → Prop} {σ : mb_S} {st : List Value} {l0 l1 l2 l4 l5 l6 l7 : Option Value} {x : Int32} : mb_Rn d 149 6 [l0, l1, l2, some (.int x), l4, l5, l6, l7] st σ Q = mb_Rn d 149 7 [l0, l1, l2, some (.int x), l4, l5, l6, l7] (.int x :: st) σ Q := rn_step rfl (fun _ _ => rfl)
theorem sL_cast_7 {d : Nat} {Q : mb_O → mb_S → Prop} {σ : mb_S} {st : List Value} {l0 l1 l2 l3 l5 l6 l7 : Option Value} {x : Int32} : mb_Rn d 149 7 [l0, l1, l2, l3, some (.int x), l5, l6, l7] st σ Q = mb_Rn d 149 9 [l0, l1, l2, l3, some (.int x), l5, l6, l7] (.int x :: st) σ Q := rn_step rfl (fun _ _ => rfl)
theorem sL_cast_9 {d : Nat} {Q : mb_O → mb_S → Prop} {σ : mb_S} {st : List Value} {l0 l1 l2 l3 l4 l6 l7 : Option Value} {x : Int32} : mb_Rn d 149 9 [l0, l1, l2, l3, l4, some (.int x), l6, l7] st σ Q = mb_Rn d 149 11 [l0, l1, l2, l3, l4, some (.int x), l6, l7] (.int x :: st) σ Q := rn_step rfl (fun _ _ => rfl)
theorem sL_cast_11 {d : Nat} {Q : mb_O → mb_S → Prop} {σ : mb_S} {st : List Value} {ls : mb_L} {p0 : Int32} {p1 : Int32} {p2 : Int32} {p3 : Int32} {p4 : Int32} {b : Nat} (hd : 1 ≤ d) (h4 : st.length ≤ 4) : mb_Rn d 149 11 ls (.int p4 :: .int p3 :: .int p2 :: .int p1 :: .int p0 :: .ref b :: st) σ Q = mb_gf σ b 7 False (fun _ => mb_Ex (d - 1) 50 [.ref b, .int p0, .int p1, .int p2, .int p3, .int p4] σ (mb_qx [(2, 21, 7), (1, 25, 7)] d 149 14 ls st Q)) := rn_callv mb_good rfl hd rfl rfl ⟨rfl, rfl⟩ h4 ⟨Nat.le_of_ble_eq_true rfl, rfl⟩
theorem sL_cast_14 {d : Nat} {Q : mb_O → mb_S → Prop} {σ : mb_S} {st : List Value} {ls : mb_L} {x : Int32} : mb_Rn d 149 14 ls (.int x :: st) σ Q = mb_Rn d 149 15 ls (.long x.toInt64 :: st) σ Q := rn_step rfl (fun _ _ => rfl)
theorem sL_cast_15 {d : Nat} {Q : mb_O → mb_S → Prop} {σ : mb_S} {st : List Value} {ls : mb_L} {a : Nat} {j : Int32} {x : Int64} : mb_Rn d 149 15 ls (.long x :: .int j :: .ref a :: st) σ Q = mb_gj σ a j False (fun kd n f => if kd = 1 then mb_Rn d 149 16 ls st (mb_up σ a (.inl (1, n, .inr (.inl (vp_updL f j.toNatClampNeg x))))) Q else False) := rn_last rfl
theorem sL_cast_16 {d : Nat} {Q : mb_O → mb_S → Prop} {σ : mb_S} {st : List Value} {ls : mb_L} : mb_Rn d 149 16 ls st σ Q = mb_Rn d 149 27 ls st σ Q := rn_step rfl (fun _ _ => rfl)
theorem sL_cast_19 {d : Nat} {Q : mb_O → mb_S → Prop} {σ : mb_S} {st : List Value} {l0 l1 l2 l3 l4 l5 l6 l7 : Option Value} {a : Nat} : mb_Rn d 149 19 [l0, l1, l2, l3, l4, l5, l6, l7] (.ref a :: st) σ Q = mb_Rn d 149 21 [l0, l1, l2, l3, l4, l5, l6, some (.ref a)] st σ Q := rn_step rfl (fun _ _ => rfl)
theorem sL_cast_19n {d : Nat} {Q : mb_O → mb_S → Prop} {σ : mb_S} {st : List Value} {l0 l1 l2 l3 l4 l5 l6 l7 : Option Value} : mb_Rn d 149 19 [l0, l1, l2, l3, l4, l5, l6, l7] (.null :: st) σ Q = mb_Rn d 149 21 [l0, l1, l2, l3, l4, l5, l6, some (.null)] st σ Q := rn_step rfl (fun _ _ => rfl)
theorem sL_cast_21 {d : Nat} {Q : mb_O → mb_S → Prop} {σ : mb_S} {st : List Value} {ls : mb_L} : mb_Rn d 149 21 ls st σ Q = mb_Rn d 149 22 ls (.int 1 :: st) σ Q := rn_step rfl (fun _ _ => rfl)
theorem sL_cast_22 {d : Nat} {Q : mb_O → mb_S → Prop} {σ : mb_S}  {ls : mb_L} {x : Int32} : mb_Rn d 149 22 ls [.int x] σ Q = Q (.inl (some (.int x))) σ := rn_end rfl (fun _ _ => rfl)
theorem sL_cast_23 {d : Nat} {Q : mb_O → mb_S → Prop} {σ : mb_S} {st : List Value} {l0 l1 l2 l3 l4 l5 l6 l7 : Option Value} {a : Nat} : mb_Rn d 149 23 [l0, l1, l2, l3, l4, l5, l6, l7] (.ref a :: st) σ Q = mb_Rn d 149 25 [l0, l1, l2, l3, l4, l5, l6, some (.ref a)] st σ Q := rn_step rfl (fun _ _ => rfl)
theorem sL_cast_23n {d : Nat} {Q : mb_O → mb_S → Prop} {σ : mb_S} {st : List Value} {l0 l1 l2 l3 l4 l5 l6 l7 : Option Value} : mb_Rn d 149 23 [l0, l1, l2, l3, l4, l5, l6, l7] (.null :: st) σ Q = mb_Rn d 149 25 [l0, l1, l2, l3, l4, l5, l6, some (.null)] st σ Q := rn_step rfl (fun _ _ => rfl)
theorem sL_cast_25 {d : Nat} {Q : mb_O → mb_S → Prop} {σ : mb_S} {st : List Value} {ls : mb_L} : mb_Rn d 149 25 ls st σ Q = mb_Rn d 149 26 ls (.int 2 :: st) σ Q := rn_step rfl (fun _ _ => rfl)
theorem sL_cast_26 {d : Nat} {Q : mb_O → mb_S → Prop} {σ : mb_S}  {ls : mb_L} {x : Int32} : mb_Rn d 149 26 ls [.int x] σ Q = Q (.inl (some (.int x))) σ := rn_end rfl (fun _ _ => rfl)
theorem sL_cast_27 {d : Nat} {Q : mb_O → mb_S → Prop} {σ : mb_S} {st : List Value} {ls : mb_L} : mb_Rn d 149 27 ls st σ Q = mb_Rn d 149 28 ls (.int 0 :: st) σ Q := rn_step rfl (fun _ _ => rfl)
theorem sL_cast_28 {d : Nat} {Q : mb_O → mb_S → Prop} {σ : mb_S}  {ls : mb_L} {x : Int32} : mb_Rn d 149 28 ls [.int x] σ Q = Q (.inl (some (.int x))) σ := rn_end rfl (fun _ _ => rfl)
theorem sL_cut_0 {d : Nat} {Q : mb_O → mb_S → Prop} {σ : mb_S} {st : List Value} {l0 l1 l2 l3 l5 : Option Value} {a : Nat} : mb_Rn d 150 0 [l0, l1, l2, l3, some (.ref a), l5] st σ Q = mb_Rn d 150 2 [l0, l1, l2, l3, some (.ref a), l5] (.ref a :: st) σ Q := rn_step rfl (fun _ _ => rfl)
theorem sL_cut_0n {d : Nat} {Q : mb_O → mb_S → Prop} {σ : mb_S} {st : List Value} {l0 l1 l2 l3 l5 : Option Value} : mb_Rn d 150 0 [l0, l1, l2, l3, some (.null), l5] st σ Q = mb_Rn d 150 2 [l0, l1, l2, l3, some (.null), l5] (.null :: st) σ Q := rn_step rfl (fun _ _ => rfl)
theorem sL_cut_2 {d : Nat} {Q : mb_O → mb_S → Prop} {σ : mb_S} {st : List Value} {ls : mb_L} : mb_Rn d 150 2 ls st σ Q = mb_Rn d 150 3 ls (.int 0 :: st) σ Q := rn_step rfl (fun _ _ => rfl)
theorem sL_cut_3 {d : Nat} {Q : mb_O → mb_S → Prop} {σ : mb_S} {st : List Value} {l1 l2 l3 l4 l5 : Option Value} {a : Nat} : mb_Rn d 150 3 [some (.ref a), l1, l2, l3, l4, l5] st σ Q = mb_Rn d 150 4 [some (.ref a), l1, l2, l3, l4, l5] (.ref a :: st) σ Q := rn_step rfl (fun _ _ => rfl)
theorem sL_cut_3n {d : Nat} {Q : mb_O → mb_S → Prop} {σ : mb_S} {st : List Value} {l1 l2 l3 l4 l5 : Option Value} : mb_Rn d 150 3 [some (.null), l1, l2, l3, l4, l5] st σ Q = mb_Rn d 150 4 [some (.null), l1, l2, l3, l4, l5] (.null :: st) σ Q := rn_step rfl (fun _ _ => rfl)
theorem sL_cut_4 {d : Nat} {Q : mb_O → mb_S → Prop} {σ : mb_S} {st : List Value} {l0 l2 l3 l4 l5 : Option Value} {x : Int32} : mb_Rn d 150 4 [l0, some (.int x), l2, l3, l4, l5] st σ Q = mb_Rn d 150 5 [l0, some (.int x), l2, l3, l4, l5] (.int x :: st) σ Q := rn_step rfl (fun _ _ => rfl)
theorem sL_cut_5 {d : Nat} {Q : mb_O → mb_S → Prop} {σ : mb_S} {st : List Value} {l0 l1 l3 l4 l5 : Option Value} {x : Int32} : mb_Rn d 150 5 [l0, l1, some (.int x), l3, l4, l5] st σ Q = mb_Rn d 150 6 [l0, l1, some (.int x), l3, l4, l5] (.int x :: st) σ Q := rn_step rfl (fun _ _ => rfl)
theorem sL_cut_6 {d : Nat} {Q : mb_O → mb_S → Prop} {σ : mb_S} {st : List Value} {l0 l1 l2 l4 l5 : Option Value} {x : Int32} : mb_Rn d 150 6 [l0, l1, l2, some (.int x), l4, l5] st σ Q = mb_Rn d 150 7 [l0, l1, l2, some (.int x), l4, l5] (.int x :: st) σ Q := rn_step rfl (fun _ _ => rfl)
theorem sL_cut_7 {d : Nat} {Q : mb_O → mb_S → Prop} {σ : mb_S} {st : List Value} {ls : mb_L} {p0 : Int32} {p1 : Int32} {p2 : Int32} {b : Nat} (hd : 1 ≤ d) (h4 : st.length ≤ 4) : mb_Rn d 150 7 ls (.int p2 :: .int p1 :: .int p0 :: .ref b :: st) σ Q = mb_gf σ b 7 False (fun _ => mb_Ex (d - 1) 51 [.ref b, .int p0, .int p1, .int p2] σ (mb_qx [(2, 17, 5), (1, 21, 5), (0, 25, 5)] d 150 10 ls st Q)) := rn_callv mb_good rfl hd rfl rfl ⟨rfl, rfl⟩ h4 ⟨Nat.le_of_ble_eq_true rfl, rfl⟩
theorem sL_cut_10 {d : Nat} {Q : mb_O → mb_S → Prop} {σ : mb_S} {st : List Value} {ls : mb_L} {x : Int32} : mb_Rn d 150 10 ls (.int x :: st) σ Q = mb_Rn d 150 11 ls (.long x.toInt64 :: st) σ Q := rn_step rfl (fun _ _ => rfl)
theorem sL_cut_11 {d : Nat} {Q : mb_O → mb_S → Prop} {σ : mb_S} {st : List Value} {ls : mb_L} {a : Nat} {j : Int32} {x : Int64} : mb_Rn d 150 11 ls (.long x :: .int j :: .ref a :: st) σ Q = mb_gj σ a j False (fun kd n f => if kd = 1 then mb_Rn d 150 12 ls st (mb_up σ a (.inl (1, n, .inr (.inl (vp_updL f j.toNatClampNeg x))))) Q else False) := rn_last rfl
theorem sL_cut_12 {d : Nat} {Q : mb_O → mb_S → Prop} {σ : mb_S} {st : List Value} {ls : mb_L} : mb_Rn d 150 12 ls st σ Q = mb_Rn d 150 27 ls st σ Q := rn_step rfl (fun _ _ => rfl)
theorem sL_cut_15 {d : Nat} {Q : mb_O → mb_S → Prop} {σ : mb_S} {st : List Value} {l0 l1 l2 l3 l4 l5 : Option Value} {a : Nat} : mb_Rn d 150 15 [l0, l1, l2, l3, l4, l5] (.ref a :: st) σ Q = mb_Rn d 150 17 [l0, l1, l2, l3, l4, some (.ref a)] st σ Q := rn_step rfl (fun _ _ => rfl)
theorem sL_cut_15n {d : Nat} {Q : mb_O → mb_S → Prop} {σ : mb_S} {st : List Value} {l0 l1 l2 l3 l4 l5 : Option Value} : mb_Rn d 150 15 [l0, l1, l2, l3, l4, l5] (.null :: st) σ Q = mb_Rn d 150 17 [l0, l1, l2, l3, l4, some (.null)] st σ Q := rn_step rfl (fun _ _ => rfl)
theorem sL_cut_17 {d : Nat} {Q : mb_O → mb_S → Prop} {σ : mb_S} {st : List Value} {ls : mb_L} : mb_Rn d 150 17 ls st σ Q = mb_Rn d 150 18 ls (.int 1 :: st) σ Q := rn_step rfl (fun _ _ => rfl)
theorem sL_cut_18 {d : Nat} {Q : mb_O → mb_S → Prop} {σ : mb_S}  {ls : mb_L} {x : Int32} : mb_Rn d 150 18 ls [.int x] σ Q = Q (.inl (some (.int x))) σ := rn_end rfl (fun _ _ => rfl)
theorem sL_cut_19 {d : Nat} {Q : mb_O → mb_S → Prop} {σ : mb_S} {st : List Value} {l0 l1 l2 l3 l4 l5 : Option Value} {a : Nat} : mb_Rn d 150 19 [l0, l1, l2, l3, l4, l5] (.ref a :: st) σ Q = mb_Rn d 150 21 [l0, l1, l2, l3, l4, some (.ref a)] st σ Q := rn_step rfl (fun _ _ => rfl)
theorem sL_cut_19n {d : Nat} {Q : mb_O → mb_S → Prop} {σ : mb_S} {st : List Value} {l0 l1 l2 l3 l4 l5 : Option Value} : mb_Rn d 150 19 [l0, l1, l2, l3, l4, l5] (.null :: st) σ Q = mb_Rn d 150 21 [l0, l1, l2, l3, l4, some (.null)] st σ Q := rn_step rfl (fun _ _ => rfl)
theorem sL_cut_21 {d : Nat} {Q : mb_O → mb_S → Prop} {σ : mb_S} {st : List Value} {ls : mb_L} : mb_Rn d 150 21 ls st σ Q = mb_Rn d 150 22 ls (.int 2 :: st) σ Q := rn_step rfl (fun _ _ => rfl)
theorem sL_cut_22 {d : Nat} {Q : mb_O → mb_S → Prop} {σ : mb_S}  {ls : mb_L} {x : Int32} : mb_Rn d 150 22 ls [.int x] σ Q = Q (.inl (some (.int x))) σ := rn_end rfl (fun _ _ => rfl)
theorem sL_cut_23 {d : Nat} {Q : mb_O → mb_S → Prop} {σ : mb_S} {st : List Value} {l0 l1 l2 l3 l4 l5 : Option Value} {a : Nat} : mb_Rn d 150 23 [l0, l1, l2, l3, l4, l5] (.ref a :: st) σ Q = mb_Rn d 150 25 [l0, l1, l2, l3, l4, some (.ref a)] st σ Q := rn_step rfl (fun _ _ => rfl)
theorem sL_cut_23n {d : Nat} {Q : mb_O → mb_S → Prop} {σ : mb_S} {st : List Value} {l0 l1 l2 l3 l4 l5 : Option Value} : mb_Rn d 150 23 [l0, l1, l2, l3, l4, l5] (.null :: st) σ Q = mb_Rn d 150 25 [l0, l1, l2, l3, l4, some (.null)] st σ Q := rn_step rfl (fun _ _ => rfl)
theorem sL_cut_25 {d : Nat} {Q : mb_O → mb_S → Prop} {σ : mb_S} {st : List Value} {ls : mb_L} : mb_Rn d 150 25 ls st σ Q = mb_Rn d 150 26 ls (.int 3 :: st) σ Q := rn_step rfl (fun _ _ => rfl)
theorem sL_cut_26 {d : Nat} {Q : mb_O → mb_S → Prop} {σ : mb_S}  {ls : mb_L} {x : Int32} : mb_Rn d 150 26 ls [.int x] σ Q = Q (.inl (some (.int x))) σ := rn_end rfl (fun _ _ => rfl)
theorem sL_cut_27 {d : Nat} {Q : mb_O → mb_S → Prop} {σ : mb_S} {st : List Value} {ls : mb_L} : mb_Rn d 150 27 ls st σ Q = mb_Rn d 150 28 ls (.int 0 :: st) σ Q := rn_step rfl (fun _ _ => rfl)
theorem sL_cut_28 {d : Nat} {Q : mb_O → mb_S → Prop} {σ : mb_S}  {ls : mb_L} {x : Int32} : mb_Rn d 150 28 ls [.int x] σ Q = Q (.inl (some (.int x))) σ := rn_end rfl (fun _ _ => rfl)
theorem sL_note_0 {d : Nat} {Q : mb_O → mb_S → Prop} {σ : mb_S} {st : List Value} {l0 l1 l2 l4 : Option Value} {a : Nat} : mb_Rn d 151 0 [l0, l1, l2, some (.ref a), l4] st σ Q = mb_Rn d 151 1 [l0, l1, l2, some (.ref a), l4] (.ref a :: st) σ Q := rn_step rfl (fun _ _ => rfl)
theorem sL_note_0n {d : Nat} {Q : mb_O → mb_S → Prop} {σ : mb_S} {st : List Value} {l0 l1 l2 l4 : Option Value} : mb_Rn d 151 0 [l0, l1, l2, some (.null), l4] st σ Q = mb_Rn d 151 1 [l0, l1, l2, some (.null), l4] (.null :: st) σ Q := rn_step rfl (fun _ _ => rfl)
theorem sL_note_1 {d : Nat} {Q : mb_O → mb_S → Prop} {σ : mb_S} {st : List Value} {ls : mb_L} : mb_Rn d 151 1 ls st σ Q = mb_Rn d 151 2 ls (.int 0 :: st) σ Q := rn_step rfl (fun _ _ => rfl)
theorem sL_note_2 {d : Nat} {Q : mb_O → mb_S → Prop} {σ : mb_S} {st : List Value} {l1 l2 l3 l4 : Option Value} {a : Nat} : mb_Rn d 151 2 [some (.ref a), l1, l2, l3, l4] st σ Q = mb_Rn d 151 3 [some (.ref a), l1, l2, l3, l4] (.ref a :: st) σ Q := rn_step rfl (fun _ _ => rfl)
theorem sL_note_2n {d : Nat} {Q : mb_O → mb_S → Prop} {σ : mb_S} {st : List Value} {l1 l2 l3 l4 : Option Value} : mb_Rn d 151 2 [some (.null), l1, l2, l3, l4] st σ Q = mb_Rn d 151 3 [some (.null), l1, l2, l3, l4] (.null :: st) σ Q := rn_step rfl (fun _ _ => rfl)
theorem sL_note_3 {d : Nat} {Q : mb_O → mb_S → Prop} {σ : mb_S} {st : List Value} {l0 l2 l3 l4 : Option Value} {x : Int32} : mb_Rn d 151 3 [l0, some (.int x), l2, l3, l4] st σ Q = mb_Rn d 151 4 [l0, some (.int x), l2, l3, l4] (.int x :: st) σ Q := rn_step rfl (fun _ _ => rfl)
theorem sL_note_4 {d : Nat} {Q : mb_O → mb_S → Prop} {σ : mb_S} {st : List Value} {l0 l1 l3 l4 : Option Value} {x : Int32} : mb_Rn d 151 4 [l0, l1, some (.int x), l3, l4] st σ Q = mb_Rn d 151 5 [l0, l1, some (.int x), l3, l4] (.int x :: st) σ Q := rn_step rfl (fun _ _ => rfl)
theorem sL_note_5 {d : Nat} {Q : mb_O → mb_S → Prop} {σ : mb_S} {st : List Value} {ls : mb_L} {p0 : Int32} {p1 : Int32} {b : Nat} (hd : 1 ≤ d) (h4 : st.length ≤ 4) : mb_Rn d 151 5 ls (.int p1 :: .int p0 :: .ref b :: st) σ Q = mb_gf σ b 7 False (fun _ => mb_Ex (d - 1) 52 [.ref b, .int p0, .int p1] σ (mb_qx [(2, 15, 4), (0, 19, 4)] d 151 8 ls st Q)) := rn_callv mb_good rfl hd rfl rfl ⟨rfl, rfl⟩ h4 ⟨Nat.le_of_ble_eq_true rfl, rfl⟩
theorem sL_note_8 {d : Nat} {Q : mb_O → mb_S → Prop} {σ : mb_S} {st : List Value} {ls : mb_L} {x : Int32} : mb_Rn d 151 8 ls (.int x :: st) σ Q = mb_Rn d 151 9 ls (.long x.toInt64 :: st) σ Q := rn_step rfl (fun _ _ => rfl)
theorem sL_note_9 {d : Nat} {Q : mb_O → mb_S → Prop} {σ : mb_S} {st : List Value} {ls : mb_L} {a : Nat} {j : Int32} {x : Int64} : mb_Rn d 151 9 ls (.long x :: .int j :: .ref a :: st) σ Q = mb_gj σ a j False (fun kd n f => if kd = 1 then mb_Rn d 151 10 ls st (mb_up σ a (.inl (1, n, .inr (.inl (vp_updL f j.toNatClampNeg x))))) Q else False) := rn_last rfl
theorem sL_note_10 {d : Nat} {Q : mb_O → mb_S → Prop} {σ : mb_S} {st : List Value} {ls : mb_L} : mb_Rn d 151 10 ls st σ Q = mb_Rn d 151 21 ls st σ Q := rn_step rfl (fun _ _ => rfl)
theorem sL_note_13 {d : Nat} {Q : mb_O → mb_S → Prop} {σ : mb_S} {st : List Value} {l0 l1 l2 l3 l4 : Option Value} {a : Nat} : mb_Rn d 151 13 [l0, l1, l2, l3, l4] (.ref a :: st) σ Q = mb_Rn d 151 15 [l0, l1, l2, l3, some (.ref a)] st σ Q := rn_step rfl (fun _ _ => rfl)
theorem sL_note_13n {d : Nat} {Q : mb_O → mb_S → Prop} {σ : mb_S} {st : List Value} {l0 l1 l2 l3 l4 : Option Value} : mb_Rn d 151 13 [l0, l1, l2, l3, l4] (.null :: st) σ Q = mb_Rn d 151 15 [l0, l1, l2, l3, some (.null)] st σ Q := rn_step rfl (fun _ _ => rfl)
theorem sL_note_15 {d : Nat} {Q : mb_O → mb_S → Prop} {σ : mb_S} {st : List Value} {ls : mb_L} : mb_Rn d 151 15 ls st σ Q = mb_Rn d 151 16 ls (.int 1 :: st) σ Q := rn_step rfl (fun _ _ => rfl)
theorem sL_note_16 {d : Nat} {Q : mb_O → mb_S → Prop} {σ : mb_S}  {ls : mb_L} {x : Int32} : mb_Rn d 151 16 ls [.int x] σ Q = Q (.inl (some (.int x))) σ := rn_end rfl (fun _ _ => rfl)
theorem sL_note_17 {d : Nat} {Q : mb_O → mb_S → Prop} {σ : mb_S} {st : List Value} {l0 l1 l2 l3 l4 : Option Value} {a : Nat} : mb_Rn d 151 17 [l0, l1, l2, l3, l4] (.ref a :: st) σ Q = mb_Rn d 151 19 [l0, l1, l2, l3, some (.ref a)] st σ Q := rn_step rfl (fun _ _ => rfl)
theorem sL_note_17n {d : Nat} {Q : mb_O → mb_S → Prop} {σ : mb_S} {st : List Value} {l0 l1 l2 l3 l4 : Option Value} : mb_Rn d 151 17 [l0, l1, l2, l3, l4] (.null :: st) σ Q = mb_Rn d 151 19 [l0, l1, l2, l3, some (.null)] st σ Q := rn_step rfl (fun _ _ => rfl)
theorem sL_note_19 {d : Nat} {Q : mb_O → mb_S → Prop} {σ : mb_S} {st : List Value} {ls : mb_L} : mb_Rn d 151 19 ls st σ Q = mb_Rn d 151 20 ls (.int 2 :: st) σ Q := rn_step rfl (fun _ _ => rfl)
theorem sL_note_20 {d : Nat} {Q : mb_O → mb_S → Prop} {σ : mb_S}  {ls : mb_L} {x : Int32} : mb_Rn d 151 20 ls [.int x] σ Q = Q (.inl (some (.int x))) σ := rn_end rfl (fun _ _ => rfl)
theorem sL_note_21 {d : Nat} {Q : mb_O → mb_S → Prop} {σ : mb_S} {st : List Value} {ls : mb_L} : mb_Rn d 151 21 ls st σ Q = mb_Rn d 151 22 ls (.int 0 :: st) σ Q := rn_step rfl (fun _ _ => rfl)
theorem sL_note_22 {d : Nat} {Q : mb_O → mb_S → Prop} {σ : mb_S}  {ls : mb_L} {x : Int32} : mb_Rn d 151 22 ls [.int x] σ Q = Q (.inl (some (.int x))) σ := rn_end rfl (fun _ _ => rfl)
theorem sL_settle_0 {d : Nat} {Q : mb_O → mb_S → Prop} {σ : mb_S} {st : List Value} {l0 l1 l3 : Option Value} {a : Nat} : mb_Rn d 152 0 [l0, l1, some (.ref a), l3] st σ Q = mb_Rn d 152 1 [l0, l1, some (.ref a), l3] (.ref a :: st) σ Q := rn_step rfl (fun _ _ => rfl)
theorem sL_settle_0n {d : Nat} {Q : mb_O → mb_S → Prop} {σ : mb_S} {st : List Value} {l0 l1 l3 : Option Value} : mb_Rn d 152 0 [l0, l1, some (.null), l3] st σ Q = mb_Rn d 152 1 [l0, l1, some (.null), l3] (.null :: st) σ Q := rn_step rfl (fun _ _ => rfl)
theorem sL_settle_1 {d : Nat} {Q : mb_O → mb_S → Prop} {σ : mb_S} {st : List Value} {ls : mb_L} : mb_Rn d 152 1 ls st σ Q = mb_Rn d 152 2 ls (.int 0 :: st) σ Q := rn_step rfl (fun _ _ => rfl)
theorem sL_settle_2 {d : Nat} {Q : mb_O → mb_S → Prop} {σ : mb_S} {st : List Value} {l1 l2 l3 : Option Value} {a : Nat} : mb_Rn d 152 2 [some (.ref a), l1, l2, l3] st σ Q = mb_Rn d 152 3 [some (.ref a), l1, l2, l3] (.ref a :: st) σ Q := rn_step rfl (fun _ _ => rfl)
theorem sL_settle_2n {d : Nat} {Q : mb_O → mb_S → Prop} {σ : mb_S} {st : List Value} {l1 l2 l3 : Option Value} : mb_Rn d 152 2 [some (.null), l1, l2, l3] st σ Q = mb_Rn d 152 3 [some (.null), l1, l2, l3] (.null :: st) σ Q := rn_step rfl (fun _ _ => rfl)
theorem sL_settle_3 {d : Nat} {Q : mb_O → mb_S → Prop} {σ : mb_S} {st : List Value} {l0 l2 l3 : Option Value} {x : Int32} : mb_Rn d 152 3 [l0, some (.int x), l2, l3] st σ Q = mb_Rn d 152 4 [l0, some (.int x), l2, l3] (.int x :: st) σ Q := rn_step rfl (fun _ _ => rfl)
theorem sL_settle_4 {d : Nat} {Q : mb_O → mb_S → Prop} {σ : mb_S} {st : List Value} {ls : mb_L} {p0 : Int32} {b : Nat} (hd : 1 ≤ d) (h4 : st.length ≤ 4) : mb_Rn d 152 4 ls (.int p0 :: .ref b :: st) σ Q = mb_gf σ b 7 False (fun _ => mb_Ex (d - 1) 53 [.ref b, .int p0] σ (mb_qx [(2, 13, 3), (0, 16, 3)] d 152 7 ls st Q)) := rn_callv mb_good rfl hd rfl rfl ⟨rfl, rfl⟩ h4 ⟨Nat.le_of_ble_eq_true rfl, rfl⟩
theorem sL_settle_7 {d : Nat} {Q : mb_O → mb_S → Prop} {σ : mb_S} {st : List Value} {ls : mb_L} {x : Int32} : mb_Rn d 152 7 ls (.int x :: st) σ Q = mb_Rn d 152 8 ls (.long x.toInt64 :: st) σ Q := rn_step rfl (fun _ _ => rfl)
theorem sL_settle_8 {d : Nat} {Q : mb_O → mb_S → Prop} {σ : mb_S} {st : List Value} {ls : mb_L} {a : Nat} {j : Int32} {x : Int64} : mb_Rn d 152 8 ls (.long x :: .int j :: .ref a :: st) σ Q = mb_gj σ a j False (fun kd n f => if kd = 1 then mb_Rn d 152 9 ls st (mb_up σ a (.inl (1, n, .inr (.inl (vp_updL f j.toNatClampNeg x))))) Q else False) := rn_last rfl
theorem sL_settle_9 {d : Nat} {Q : mb_O → mb_S → Prop} {σ : mb_S} {st : List Value} {ls : mb_L} : mb_Rn d 152 9 ls st σ Q = mb_Rn d 152 18 ls st σ Q := rn_step rfl (fun _ _ => rfl)
theorem sL_settle_12 {d : Nat} {Q : mb_O → mb_S → Prop} {σ : mb_S} {st : List Value} {l0 l1 l2 l3 : Option Value} {a : Nat} : mb_Rn d 152 12 [l0, l1, l2, l3] (.ref a :: st) σ Q = mb_Rn d 152 13 [l0, l1, l2, some (.ref a)] st σ Q := rn_step rfl (fun _ _ => rfl)
theorem sL_settle_12n {d : Nat} {Q : mb_O → mb_S → Prop} {σ : mb_S} {st : List Value} {l0 l1 l2 l3 : Option Value} : mb_Rn d 152 12 [l0, l1, l2, l3] (.null :: st) σ Q = mb_Rn d 152 13 [l0, l1, l2, some (.null)] st σ Q := rn_step rfl (fun _ _ => rfl)
theorem sL_settle_13 {d : Nat} {Q : mb_O → mb_S → Prop} {σ : mb_S} {st : List Value} {ls : mb_L} : mb_Rn d 152 13 ls st σ Q = mb_Rn d 152 14 ls (.int 1 :: st) σ Q := rn_step rfl (fun _ _ => rfl)
theorem sL_settle_14 {d : Nat} {Q : mb_O → mb_S → Prop} {σ : mb_S}  {ls : mb_L} {x : Int32} : mb_Rn d 152 14 ls [.int x] σ Q = Q (.inl (some (.int x))) σ := rn_end rfl (fun _ _ => rfl)
theorem sL_settle_15 {d : Nat} {Q : mb_O → mb_S → Prop} {σ : mb_S} {st : List Value} {l0 l1 l2 l3 : Option Value} {a : Nat} : mb_Rn d 152 15 [l0, l1, l2, l3] (.ref a :: st) σ Q = mb_Rn d 152 16 [l0, l1, l2, some (.ref a)] st σ Q := rn_step rfl (fun _ _ => rfl)
theorem sL_settle_15n {d : Nat} {Q : mb_O → mb_S → Prop} {σ : mb_S} {st : List Value} {l0 l1 l2 l3 : Option Value} : mb_Rn d 152 15 [l0, l1, l2, l3] (.null :: st) σ Q = mb_Rn d 152 16 [l0, l1, l2, some (.null)] st σ Q := rn_step rfl (fun _ _ => rfl)
theorem sL_settle_16 {d : Nat} {Q : mb_O → mb_S → Prop} {σ : mb_S} {st : List Value} {ls : mb_L} : mb_Rn d 152 16 ls st σ Q = mb_Rn d 152 17 ls (.int 2 :: st) σ Q := rn_step rfl (fun _ _ => rfl)
theorem sL_settle_17 {d : Nat} {Q : mb_O → mb_S → Prop} {σ : mb_S}  {ls : mb_L} {x : Int32} : mb_Rn d 152 17 ls [.int x] σ Q = Q (.inl (some (.int x))) σ := rn_end rfl (fun _ _ => rfl)
theorem sL_settle_18 {d : Nat} {Q : mb_O → mb_S → Prop} {σ : mb_S} {st : List Value} {ls : mb_L} : mb_Rn d 152 18 ls st σ Q = mb_Rn d 152 19 ls (.int 0 :: st) σ Q := rn_step rfl (fun _ _ => rfl)
theorem sL_settle_19 {d : Nat} {Q : mb_O → mb_S → Prop} {σ : mb_S}  {ls : mb_L} {x : Int32} : mb_Rn d 152 19 ls [.int x] σ Q = Q (.inl (some (.int x))) σ := rn_end rfl (fun _ _ => rfl)
theorem sL_ofNote_0 {d : Nat} {Q : mb_O → mb_S → Prop} {σ : mb_S} {st : List Value} {l0 l1 l2 l4 : Option Value} {a : Nat} : mb_Rn d 153 0 [l0, l1, l2, some (.ref a), l4] st σ Q = mb_Rn d 153 1 [l0, l1, l2, some (.ref a), l4] (.ref a :: st) σ Q := rn_step rfl (fun _ _ => rfl)
theorem sL_ofNote_0n {d : Nat} {Q : mb_O → mb_S → Prop} {σ : mb_S} {st : List Value} {l0 l1 l2 l4 : Option Value} : mb_Rn d 153 0 [l0, l1, l2, some (.null), l4] st σ Q = mb_Rn d 153 1 [l0, l1, l2, some (.null), l4] (.null :: st) σ Q := rn_step rfl (fun _ _ => rfl)
theorem sL_ofNote_1 {d : Nat} {Q : mb_O → mb_S → Prop} {σ : mb_S} {st : List Value} {ls : mb_L} : mb_Rn d 153 1 ls st σ Q = mb_Rn d 153 2 ls (.int 0 :: st) σ Q := rn_step rfl (fun _ _ => rfl)
theorem sL_ofNote_2 {d : Nat} {Q : mb_O → mb_S → Prop} {σ : mb_S} {st : List Value} {l1 l2 l3 l4 : Option Value} {a : Nat} : mb_Rn d 153 2 [some (.ref a), l1, l2, l3, l4] st σ Q = mb_Rn d 153 3 [some (.ref a), l1, l2, l3, l4] (.ref a :: st) σ Q := rn_step rfl (fun _ _ => rfl)
theorem sL_ofNote_2n {d : Nat} {Q : mb_O → mb_S → Prop} {σ : mb_S} {st : List Value} {l1 l2 l3 l4 : Option Value} : mb_Rn d 153 2 [some (.null), l1, l2, l3, l4] st σ Q = mb_Rn d 153 3 [some (.null), l1, l2, l3, l4] (.null :: st) σ Q := rn_step rfl (fun _ _ => rfl)
theorem sL_ofNote_3 {d : Nat} {Q : mb_O → mb_S → Prop} {σ : mb_S} {st : List Value} {l0 l2 l3 l4 : Option Value} {x : Int32} : mb_Rn d 153 3 [l0, some (.int x), l2, l3, l4] st σ Q = mb_Rn d 153 4 [l0, some (.int x), l2, l3, l4] (.int x :: st) σ Q := rn_step rfl (fun _ _ => rfl)
theorem sL_ofNote_4 {d : Nat} {Q : mb_O → mb_S → Prop} {σ : mb_S} {st : List Value} {l0 l1 l3 l4 : Option Value} {x : Int32} : mb_Rn d 153 4 [l0, l1, some (.int x), l3, l4] st σ Q = mb_Rn d 153 5 [l0, l1, some (.int x), l3, l4] (.int x :: st) σ Q := rn_step rfl (fun _ _ => rfl)
theorem sL_ofNote_5 {d : Nat} {Q : mb_O → mb_S → Prop} {σ : mb_S} {st : List Value} {ls : mb_L} {p0 : Int32} {p1 : Int32} {b : Nat} (hd : 1 ≤ d) (h4 : st.length ≤ 4) : mb_Rn d 153 5 ls (.int p1 :: .int p0 :: .ref b :: st) σ Q = mb_gf σ b 7 False (fun _ => mb_Ex (d - 1) 54 [.ref b, .int p0, .int p1] σ (mb_qx [(2, 15, 4)] d 153 8 ls st Q)) := rn_callv mb_good rfl hd rfl rfl ⟨rfl, rfl⟩ h4 ⟨Nat.le_of_ble_eq_true rfl, rfl⟩
theorem sL_ofNote_8 {d : Nat} {Q : mb_O → mb_S → Prop} {σ : mb_S} {st : List Value} {ls : mb_L} {x : Int32} : mb_Rn d 153 8 ls (.int x :: st) σ Q = mb_Rn d 153 9 ls (.long x.toInt64 :: st) σ Q := rn_step rfl (fun _ _ => rfl)
theorem sL_ofNote_9 {d : Nat} {Q : mb_O → mb_S → Prop} {σ : mb_S} {st : List Value} {ls : mb_L} {a : Nat} {j : Int32} {x : Int64} : mb_Rn d 153 9 ls (.long x :: .int j :: .ref a :: st) σ Q = mb_gj σ a j False (fun kd n f => if kd = 1 then mb_Rn d 153 10 ls st (mb_up σ a (.inl (1, n, .inr (.inl (vp_updL f j.toNatClampNeg x))))) Q else False) := rn_last rfl
theorem sL_ofNote_10 {d : Nat} {Q : mb_O → mb_S → Prop} {σ : mb_S} {st : List Value} {ls : mb_L} : mb_Rn d 153 10 ls st σ Q = mb_Rn d 153 17 ls st σ Q := rn_step rfl (fun _ _ => rfl)
theorem sL_ofNote_13 {d : Nat} {Q : mb_O → mb_S → Prop} {σ : mb_S} {st : List Value} {l0 l1 l2 l3 l4 : Option Value} {a : Nat} : mb_Rn d 153 13 [l0, l1, l2, l3, l4] (.ref a :: st) σ Q = mb_Rn d 153 15 [l0, l1, l2, l3, some (.ref a)] st σ Q := rn_step rfl (fun _ _ => rfl)
theorem sL_ofNote_13n {d : Nat} {Q : mb_O → mb_S → Prop} {σ : mb_S} {st : List Value} {l0 l1 l2 l3 l4 : Option Value} : mb_Rn d 153 13 [l0, l1, l2, l3, l4] (.null :: st) σ Q = mb_Rn d 153 15 [l0, l1, l2, l3, some (.null)] st σ Q := rn_step rfl (fun _ _ => rfl)
theorem sL_ofNote_15 {d : Nat} {Q : mb_O → mb_S → Prop} {σ : mb_S} {st : List Value} {ls : mb_L} : mb_Rn d 153 15 ls st σ Q = mb_Rn d 153 16 ls (.int 1 :: st) σ Q := rn_step rfl (fun _ _ => rfl)
theorem sL_ofNote_16 {d : Nat} {Q : mb_O → mb_S → Prop} {σ : mb_S}  {ls : mb_L} {x : Int32} : mb_Rn d 153 16 ls [.int x] σ Q = Q (.inl (some (.int x))) σ := rn_end rfl (fun _ _ => rfl)
theorem sL_ofNote_17 {d : Nat} {Q : mb_O → mb_S → Prop} {σ : mb_S} {st : List Value} {ls : mb_L} : mb_Rn d 153 17 ls st σ Q = mb_Rn d 153 18 ls (.int 0 :: st) σ Q := rn_step rfl (fun _ _ => rfl)
theorem sL_ofNote_18 {d : Nat} {Q : mb_O → mb_S → Prop} {σ : mb_S}  {ls : mb_L} {x : Int32} : mb_Rn d 153 18 ls [.int x] σ Q = Q (.inl (some (.int x))) σ := rn_end rfl (fun _ _ => rfl)
theorem sL_render_0 {d : Nat} {Q : mb_O → mb_S → Prop} {σ : mb_S} {st : List Value} {l0 l1 l3 : Option Value} {a : Nat} : mb_Rn d 154 0 [l0, l1, some (.ref a), l3] st σ Q = mb_Rn d 154 1 [l0, l1, some (.ref a), l3] (.ref a :: st) σ Q := rn_step rfl (fun _ _ => rfl)
theorem sL_render_0n {d : Nat} {Q : mb_O → mb_S → Prop} {σ : mb_S} {st : List Value} {l0 l1 l3 : Option Value} : mb_Rn d 154 0 [l0, l1, some (.null), l3] st σ Q = mb_Rn d 154 1 [l0, l1, some (.null), l3] (.null :: st) σ Q := rn_step rfl (fun _ _ => rfl)
theorem sL_render_1 {d : Nat} {Q : mb_O → mb_S → Prop} {σ : mb_S} {st : List Value} {ls : mb_L} : mb_Rn d 154 1 ls st σ Q = mb_Rn d 154 2 ls (.int 0 :: st) σ Q := rn_step rfl (fun _ _ => rfl)
theorem sL_render_2 {d : Nat} {Q : mb_O → mb_S → Prop} {σ : mb_S} {st : List Value} {l1 l2 l3 : Option Value} {a : Nat} : mb_Rn d 154 2 [some (.ref a), l1, l2, l3] st σ Q = mb_Rn d 154 3 [some (.ref a), l1, l2, l3] (.ref a :: st) σ Q := rn_step rfl (fun _ _ => rfl)
theorem sL_render_2n {d : Nat} {Q : mb_O → mb_S → Prop} {σ : mb_S} {st : List Value} {l1 l2 l3 : Option Value} : mb_Rn d 154 2 [some (.null), l1, l2, l3] st σ Q = mb_Rn d 154 3 [some (.null), l1, l2, l3] (.null :: st) σ Q := rn_step rfl (fun _ _ => rfl)
theorem sL_render_3 {d : Nat} {Q : mb_O → mb_S → Prop} {σ : mb_S} {st : List Value} {l0 l2 l3 : Option Value} {x : Int32} : mb_Rn d 154 3 [l0, some (.int x), l2, l3] st σ Q = mb_Rn d 154 4 [l0, some (.int x), l2, l3] (.int x :: st) σ Q := rn_step rfl (fun _ _ => rfl)
theorem sL_render_4 {d : Nat} {Q : mb_O → mb_S → Prop} {σ : mb_S} {st : List Value} {ls : mb_L} {p0 : Int32} {b : Nat} (hd : 1 ≤ d) (h4 : st.length ≤ 4) : mb_Rn d 154 4 ls (.int p0 :: .ref b :: st) σ Q = mb_gf σ b 7 False (fun _ => mb_Ex (d - 1) 55 [.ref b, .int p0] σ (mb_qx [(2, 13, 3)] d 154 7 ls st Q)) := rn_callv mb_good rfl hd rfl rfl ⟨rfl, rfl⟩ h4 ⟨Nat.le_of_ble_eq_true rfl, rfl⟩
theorem sL_render_7 {d : Nat} {Q : mb_O → mb_S → Prop} {σ : mb_S} {st : List Value} {ls : mb_L} {x : Int32} : mb_Rn d 154 7 ls (.int x :: st) σ Q = mb_Rn d 154 8 ls (.long x.toInt64 :: st) σ Q := rn_step rfl (fun _ _ => rfl)
theorem sL_render_8 {d : Nat} {Q : mb_O → mb_S → Prop} {σ : mb_S} {st : List Value} {ls : mb_L} {a : Nat} {j : Int32} {x : Int64} : mb_Rn d 154 8 ls (.long x :: .int j :: .ref a :: st) σ Q = mb_gj σ a j False (fun kd n f => if kd = 1 then mb_Rn d 154 9 ls st (mb_up σ a (.inl (1, n, .inr (.inl (vp_updL f j.toNatClampNeg x))))) Q else False) := rn_last rfl
theorem sL_render_9 {d : Nat} {Q : mb_O → mb_S → Prop} {σ : mb_S} {st : List Value} {ls : mb_L} : mb_Rn d 154 9 ls st σ Q = mb_Rn d 154 15 ls st σ Q := rn_step rfl (fun _ _ => rfl)
theorem sL_render_12 {d : Nat} {Q : mb_O → mb_S → Prop} {σ : mb_S} {st : List Value} {l0 l1 l2 l3 : Option Value} {a : Nat} : mb_Rn d 154 12 [l0, l1, l2, l3] (.ref a :: st) σ Q = mb_Rn d 154 13 [l0, l1, l2, some (.ref a)] st σ Q := rn_step rfl (fun _ _ => rfl)
theorem sL_render_12n {d : Nat} {Q : mb_O → mb_S → Prop} {σ : mb_S} {st : List Value} {l0 l1 l2 l3 : Option Value} : mb_Rn d 154 12 [l0, l1, l2, l3] (.null :: st) σ Q = mb_Rn d 154 13 [l0, l1, l2, some (.null)] st σ Q := rn_step rfl (fun _ _ => rfl)
theorem sL_render_13 {d : Nat} {Q : mb_O → mb_S → Prop} {σ : mb_S} {st : List Value} {ls : mb_L} : mb_Rn d 154 13 ls st σ Q = mb_Rn d 154 14 ls (.int 1 :: st) σ Q := rn_step rfl (fun _ _ => rfl)
theorem sL_render_14 {d : Nat} {Q : mb_O → mb_S → Prop} {σ : mb_S}  {ls : mb_L} {x : Int32} : mb_Rn d 154 14 ls [.int x] σ Q = Q (.inl (some (.int x))) σ := rn_end rfl (fun _ _ => rfl)
theorem sL_render_15 {d : Nat} {Q : mb_O → mb_S → Prop} {σ : mb_S} {st : List Value} {ls : mb_L} : mb_Rn d 154 15 ls st σ Q = mb_Rn d 154 16 ls (.int 0 :: st) σ Q := rn_step rfl (fun _ _ => rfl)
theorem sL_render_16 {d : Nat} {Q : mb_O → mb_S → Prop} {σ : mb_S}  {ls : mb_L} {x : Int32} : mb_Rn d 154 16 ls [.int x] σ Q = Q (.inl (some (.int x))) σ := rn_end rfl (fun _ _ => rfl)
theorem sL_renderOne_0 {d : Nat} {Q : mb_O → mb_S → Prop} {σ : mb_S} {st : List Value} {l0 l1 l2 l4 : Option Value} {a : Nat} : mb_Rn d 155 0 [l0, l1, l2, some (.ref a), l4] st σ Q = mb_Rn d 155 1 [l0, l1, l2, some (.ref a), l4] (.ref a :: st) σ Q := rn_step rfl (fun _ _ => rfl)
theorem sL_renderOne_0n {d : Nat} {Q : mb_O → mb_S → Prop} {σ : mb_S} {st : List Value} {l0 l1 l2 l4 : Option Value} : mb_Rn d 155 0 [l0, l1, l2, some (.null), l4] st σ Q = mb_Rn d 155 1 [l0, l1, l2, some (.null), l4] (.null :: st) σ Q := rn_step rfl (fun _ _ => rfl)
theorem sL_renderOne_1 {d : Nat} {Q : mb_O → mb_S → Prop} {σ : mb_S} {st : List Value} {ls : mb_L} : mb_Rn d 155 1 ls st σ Q = mb_Rn d 155 2 ls (.int 0 :: st) σ Q := rn_step rfl (fun _ _ => rfl)
theorem sL_renderOne_2 {d : Nat} {Q : mb_O → mb_S → Prop} {σ : mb_S} {st : List Value} {l1 l2 l3 l4 : Option Value} {a : Nat} : mb_Rn d 155 2 [some (.ref a), l1, l2, l3, l4] st σ Q = mb_Rn d 155 3 [some (.ref a), l1, l2, l3, l4] (.ref a :: st) σ Q := rn_step rfl (fun _ _ => rfl)
theorem sL_renderOne_2n {d : Nat} {Q : mb_O → mb_S → Prop} {σ : mb_S} {st : List Value} {l1 l2 l3 l4 : Option Value} : mb_Rn d 155 2 [some (.null), l1, l2, l3, l4] st σ Q = mb_Rn d 155 3 [some (.null), l1, l2, l3, l4] (.null :: st) σ Q := rn_step rfl (fun _ _ => rfl)
theorem sL_renderOne_3 {d : Nat} {Q : mb_O → mb_S → Prop} {σ : mb_S} {st : List Value} {l0 l2 l3 l4 : Option Value} {x : Int32} : mb_Rn d 155 3 [l0, some (.int x), l2, l3, l4] st σ Q = mb_Rn d 155 4 [l0, some (.int x), l2, l3, l4] (.int x :: st) σ Q := rn_step rfl (fun _ _ => rfl)
theorem sL_renderOne_4 {d : Nat} {Q : mb_O → mb_S → Prop} {σ : mb_S} {st : List Value} {l0 l1 l3 l4 : Option Value} {x : Int32} : mb_Rn d 155 4 [l0, l1, some (.int x), l3, l4] st σ Q = mb_Rn d 155 5 [l0, l1, some (.int x), l3, l4] (.int x :: st) σ Q := rn_step rfl (fun _ _ => rfl)
theorem sL_renderOne_5 {d : Nat} {Q : mb_O → mb_S → Prop} {σ : mb_S} {st : List Value} {ls : mb_L} {p0 : Int32} {p1 : Int32} {b : Nat} (hd : 1 ≤ d) (h4 : st.length ≤ 4) : mb_Rn d 155 5 ls (.int p1 :: .int p0 :: .ref b :: st) σ Q = mb_gf σ b 7 False (fun _ => mb_Ex (d - 1) 56 [.ref b, .int p0, .int p1] σ (mb_qx [(2, 22, 4)] d 155 8 ls st Q)) := rn_callv mb_good rfl hd rfl rfl ⟨rfl, rfl⟩ h4 ⟨Nat.le_of_ble_eq_true rfl, rfl⟩
theorem sL_renderOne_8 {d : Nat} {Q : mb_O → mb_S → Prop} {σ : mb_S} {st : List Value} {ls : mb_L} {x : Int32} : mb_Rn d 155 8 ls (.int x :: st) σ Q = if x = 0 then mb_Rn d 155 15 ls st σ Q else mb_Rn d 155 11 ls st σ Q := rn_ifb rfl (fun _ _ => rfl) beq_iff_eq
theorem sL_renderOne_11 {d : Nat} {Q : mb_O → mb_S → Prop} {σ : mb_S} {st : List Value} {ls : mb_L} : mb_Rn d 155 11 ls st σ Q = mb_Rn d 155 12 ls (.long 1 :: st) σ Q := rn_step rfl (fun _ _ => rfl)
theorem sL_renderOne_12 {d : Nat} {Q : mb_O → mb_S → Prop} {σ : mb_S} {st : List Value} {ls : mb_L} : mb_Rn d 155 12 ls st σ Q = mb_Rn d 155 16 ls st σ Q := rn_step rfl (fun _ _ => rfl)
theorem sL_renderOne_15 {d : Nat} {Q : mb_O → mb_S → Prop} {σ : mb_S} {st : List Value} {ls : mb_L} : mb_Rn d 155 15 ls st σ Q = mb_Rn d 155 16 ls (.long 0 :: st) σ Q := rn_step rfl (fun _ _ => rfl)
theorem sL_renderOne_16 {d : Nat} {Q : mb_O → mb_S → Prop} {σ : mb_S} {st : List Value} {ls : mb_L} {a : Nat} {j : Int32} {x : Int64} : mb_Rn d 155 16 ls (.long x :: .int j :: .ref a :: st) σ Q = mb_gj σ a j False (fun kd n f => if kd = 1 then mb_Rn d 155 17 ls st (mb_up σ a (.inl (1, n, .inr (.inl (vp_updL f j.toNatClampNeg x))))) Q else False) := rn_last rfl
theorem sL_renderOne_17 {d : Nat} {Q : mb_O → mb_S → Prop} {σ : mb_S} {st : List Value} {ls : mb_L} : mb_Rn d 155 17 ls st σ Q = mb_Rn d 155 24 ls st σ Q := rn_step rfl (fun _ _ => rfl)
theorem sL_renderOne_20 {d : Nat} {Q : mb_O → mb_S → Prop} {σ : mb_S} {st : List Value} {l0 l1 l2 l3 l4 : Option Value} {a : Nat} : mb_Rn d 155 20 [l0, l1, l2, l3, l4] (.ref a :: st) σ Q = mb_Rn d 155 22 [l0, l1, l2, l3, some (.ref a)] st σ Q := rn_step rfl (fun _ _ => rfl)
theorem sL_renderOne_20n {d : Nat} {Q : mb_O → mb_S → Prop} {σ : mb_S} {st : List Value} {l0 l1 l2 l3 l4 : Option Value} : mb_Rn d 155 20 [l0, l1, l2, l3, l4] (.null :: st) σ Q = mb_Rn d 155 22 [l0, l1, l2, l3, some (.null)] st σ Q := rn_step rfl (fun _ _ => rfl)
theorem sL_renderOne_22 {d : Nat} {Q : mb_O → mb_S → Prop} {σ : mb_S} {st : List Value} {ls : mb_L} : mb_Rn d 155 22 ls st σ Q = mb_Rn d 155 23 ls (.int 1 :: st) σ Q := rn_step rfl (fun _ _ => rfl)
theorem sL_renderOne_23 {d : Nat} {Q : mb_O → mb_S → Prop} {σ : mb_S}  {ls : mb_L} {x : Int32} : mb_Rn d 155 23 ls [.int x] σ Q = Q (.inl (some (.int x))) σ := rn_end rfl (fun _ _ => rfl)
theorem sL_renderOne_24 {d : Nat} {Q : mb_O → mb_S → Prop} {σ : mb_S} {st : List Value} {ls : mb_L} : mb_Rn d 155 24 ls st σ Q = mb_Rn d 155 25 ls (.int 0 :: st) σ Q := rn_step rfl (fun _ _ => rfl)
theorem sL_renderOne_25 {d : Nat} {Q : mb_O → mb_S → Prop} {σ : mb_S}  {ls : mb_L} {x : Int32} : mb_Rn d 155 25 ls [.int x] σ Q = Q (.inl (some (.int x))) σ := rn_end rfl (fun _ _ => rfl)
theorem sL_needs_0 {d : Nat} {Q : mb_O → mb_S → Prop} {σ : mb_S} {st : List Value} {l0 l1 l3 : Option Value} {a : Nat} : mb_Rn d 156 0 [l0, l1, some (.ref a), l3] st σ Q = mb_Rn d 156 1 [l0, l1, some (.ref a), l3] (.ref a :: st) σ Q := rn_step rfl (fun _ _ => rfl)
theorem sL_needs_0n {d : Nat} {Q : mb_O → mb_S → Prop} {σ : mb_S} {st : List Value} {l0 l1 l3 : Option Value} : mb_Rn d 156 0 [l0, l1, some (.null), l3] st σ Q = mb_Rn d 156 1 [l0, l1, some (.null), l3] (.null :: st) σ Q := rn_step rfl (fun _ _ => rfl)
theorem sL_needs_1 {d : Nat} {Q : mb_O → mb_S → Prop} {σ : mb_S} {st : List Value} {ls : mb_L} : mb_Rn d 156 1 ls st σ Q = mb_Rn d 156 2 ls (.int 0 :: st) σ Q := rn_step rfl (fun _ _ => rfl)
theorem sL_needs_2 {d : Nat} {Q : mb_O → mb_S → Prop} {σ : mb_S} {st : List Value} {l1 l2 l3 : Option Value} {a : Nat} : mb_Rn d 156 2 [some (.ref a), l1, l2, l3] st σ Q = mb_Rn d 156 3 [some (.ref a), l1, l2, l3] (.ref a :: st) σ Q := rn_step rfl (fun _ _ => rfl)
theorem sL_needs_2n {d : Nat} {Q : mb_O → mb_S → Prop} {σ : mb_S} {st : List Value} {l1 l2 l3 : Option Value} : mb_Rn d 156 2 [some (.null), l1, l2, l3] st σ Q = mb_Rn d 156 3 [some (.null), l1, l2, l3] (.null :: st) σ Q := rn_step rfl (fun _ _ => rfl)
theorem sL_needs_3 {d : Nat} {Q : mb_O → mb_S → Prop} {σ : mb_S} {st : List Value} {l0 l2 l3 : Option Value} {x : Int32} : mb_Rn d 156 3 [l0, some (.int x), l2, l3] st σ Q = mb_Rn d 156 4 [l0, some (.int x), l2, l3] (.int x :: st) σ Q := rn_step rfl (fun _ _ => rfl)
theorem sL_needs_4 {d : Nat} {Q : mb_O → mb_S → Prop} {σ : mb_S} {st : List Value} {ls : mb_L} {p0 : Int32} {b : Nat} (hd : 1 ≤ d) (h4 : st.length ≤ 4) : mb_Rn d 156 4 ls (.int p0 :: .ref b :: st) σ Q = mb_gf σ b 7 False (fun _ => mb_Ex (d - 1) 57 [.ref b, .int p0] σ (mb_qx [(2, 13, 3)] d 156 7 ls st Q)) := rn_callv mb_good rfl hd rfl rfl ⟨rfl, rfl⟩ h4 ⟨Nat.le_of_ble_eq_true rfl, rfl⟩
theorem sL_needs_7 {d : Nat} {Q : mb_O → mb_S → Prop} {σ : mb_S} {st : List Value} {ls : mb_L} {x : Int32} : mb_Rn d 156 7 ls (.int x :: st) σ Q = mb_Rn d 156 8 ls (.long x.toInt64 :: st) σ Q := rn_step rfl (fun _ _ => rfl)
theorem sL_needs_8 {d : Nat} {Q : mb_O → mb_S → Prop} {σ : mb_S} {st : List Value} {ls : mb_L} {a : Nat} {j : Int32} {x : Int64} : mb_Rn d 156 8 ls (.long x :: .int j :: .ref a :: st) σ Q = mb_gj σ a j False (fun kd n f => if kd = 1 then mb_Rn d 156 9 ls st (mb_up σ a (.inl (1, n, .inr (.inl (vp_updL f j.toNatClampNeg x))))) Q else False) := rn_last rfl
theorem sL_needs_9 {d : Nat} {Q : mb_O → mb_S → Prop} {σ : mb_S} {st : List Value} {ls : mb_L} : mb_Rn d 156 9 ls st σ Q = mb_Rn d 156 15 ls st σ Q := rn_step rfl (fun _ _ => rfl)
theorem sL_needs_12 {d : Nat} {Q : mb_O → mb_S → Prop} {σ : mb_S} {st : List Value} {l0 l1 l2 l3 : Option Value} {a : Nat} : mb_Rn d 156 12 [l0, l1, l2, l3] (.ref a :: st) σ Q = mb_Rn d 156 13 [l0, l1, l2, some (.ref a)] st σ Q := rn_step rfl (fun _ _ => rfl)
theorem sL_needs_12n {d : Nat} {Q : mb_O → mb_S → Prop} {σ : mb_S} {st : List Value} {l0 l1 l2 l3 : Option Value} : mb_Rn d 156 12 [l0, l1, l2, l3] (.null :: st) σ Q = mb_Rn d 156 13 [l0, l1, l2, some (.null)] st σ Q := rn_step rfl (fun _ _ => rfl)
theorem sL_needs_13 {d : Nat} {Q : mb_O → mb_S → Prop} {σ : mb_S} {st : List Value} {ls : mb_L} : mb_Rn d 156 13 ls st σ Q = mb_Rn d 156 14 ls (.int 1 :: st) σ Q := rn_step rfl (fun _ _ => rfl)
theorem sL_needs_14 {d : Nat} {Q : mb_O → mb_S → Prop} {σ : mb_S}  {ls : mb_L} {x : Int32} : mb_Rn d 156 14 ls [.int x] σ Q = Q (.inl (some (.int x))) σ := rn_end rfl (fun _ _ => rfl)
theorem sL_needs_15 {d : Nat} {Q : mb_O → mb_S → Prop} {σ : mb_S} {st : List Value} {ls : mb_L} : mb_Rn d 156 15 ls st σ Q = mb_Rn d 156 16 ls (.int 0 :: st) σ Q := rn_step rfl (fun _ _ => rfl)
theorem sL_needs_16 {d : Nat} {Q : mb_O → mb_S → Prop} {σ : mb_S}  {ls : mb_L} {x : Int32} : mb_Rn d 156 16 ls [.int x] σ Q = Q (.inl (some (.int x))) σ := rn_end rfl (fun _ _ => rfl)
theorem sL_mixes_0 {d : Nat} {Q : mb_O → mb_S → Prop} {σ : mb_S} {st : List Value} {l0 l1 l3 : Option Value} {a : Nat} : mb_Rn d 157 0 [l0, l1, some (.ref a), l3] st σ Q = mb_Rn d 157 1 [l0, l1, some (.ref a), l3] (.ref a :: st) σ Q := rn_step rfl (fun _ _ => rfl)
theorem sL_mixes_0n {d : Nat} {Q : mb_O → mb_S → Prop} {σ : mb_S} {st : List Value} {l0 l1 l3 : Option Value} : mb_Rn d 157 0 [l0, l1, some (.null), l3] st σ Q = mb_Rn d 157 1 [l0, l1, some (.null), l3] (.null :: st) σ Q := rn_step rfl (fun _ _ => rfl)
theorem sL_mixes_1 {d : Nat} {Q : mb_O → mb_S → Prop} {σ : mb_S} {st : List Value} {ls : mb_L} : mb_Rn d 157 1 ls st σ Q = mb_Rn d 157 2 ls (.int 0 :: st) σ Q := rn_step rfl (fun _ _ => rfl)
theorem sL_mixes_2 {d : Nat} {Q : mb_O → mb_S → Prop} {σ : mb_S} {st : List Value} {l1 l2 l3 : Option Value} {a : Nat} : mb_Rn d 157 2 [some (.ref a), l1, l2, l3] st σ Q = mb_Rn d 157 3 [some (.ref a), l1, l2, l3] (.ref a :: st) σ Q := rn_step rfl (fun _ _ => rfl)
theorem sL_mixes_2n {d : Nat} {Q : mb_O → mb_S → Prop} {σ : mb_S} {st : List Value} {l1 l2 l3 : Option Value} : mb_Rn d 157 2 [some (.null), l1, l2, l3] st σ Q = mb_Rn d 157 3 [some (.null), l1, l2, l3] (.null :: st) σ Q := rn_step rfl (fun _ _ => rfl)
theorem sL_mixes_3 {d : Nat} {Q : mb_O → mb_S → Prop} {σ : mb_S} {st : List Value} {l0 l2 l3 : Option Value} {x : Int32} : mb_Rn d 157 3 [l0, some (.int x), l2, l3] st σ Q = mb_Rn d 157 4 [l0, some (.int x), l2, l3] (.int x :: st) σ Q := rn_step rfl (fun _ _ => rfl)
theorem sL_mixes_4 {d : Nat} {Q : mb_O → mb_S → Prop} {σ : mb_S} {st : List Value} {ls : mb_L} {p0 : Int32} {b : Nat} (hd : 1 ≤ d) (h4 : st.length ≤ 4) : mb_Rn d 157 4 ls (.int p0 :: .ref b :: st) σ Q = mb_gf σ b 7 False (fun _ => mb_Ex (d - 1) 58 [.ref b, .int p0] σ (mb_qx [(2, 13, 3)] d 157 7 ls st Q)) := rn_callv mb_good rfl hd rfl rfl ⟨rfl, rfl⟩ h4 ⟨Nat.le_of_ble_eq_true rfl, rfl⟩
theorem sL_mixes_7 {d : Nat} {Q : mb_O → mb_S → Prop} {σ : mb_S} {st : List Value} {ls : mb_L} {x : Int32} : mb_Rn d 157 7 ls (.int x :: st) σ Q = mb_Rn d 157 8 ls (.long x.toInt64 :: st) σ Q := rn_step rfl (fun _ _ => rfl)
theorem sL_mixes_8 {d : Nat} {Q : mb_O → mb_S → Prop} {σ : mb_S} {st : List Value} {ls : mb_L} {a : Nat} {j : Int32} {x : Int64} : mb_Rn d 157 8 ls (.long x :: .int j :: .ref a :: st) σ Q = mb_gj σ a j False (fun kd n f => if kd = 1 then mb_Rn d 157 9 ls st (mb_up σ a (.inl (1, n, .inr (.inl (vp_updL f j.toNatClampNeg x))))) Q else False) := rn_last rfl
theorem sL_mixes_9 {d : Nat} {Q : mb_O → mb_S → Prop} {σ : mb_S} {st : List Value} {ls : mb_L} : mb_Rn d 157 9 ls st σ Q = mb_Rn d 157 15 ls st σ Q := rn_step rfl (fun _ _ => rfl)
theorem sL_mixes_12 {d : Nat} {Q : mb_O → mb_S → Prop} {σ : mb_S} {st : List Value} {l0 l1 l2 l3 : Option Value} {a : Nat} : mb_Rn d 157 12 [l0, l1, l2, l3] (.ref a :: st) σ Q = mb_Rn d 157 13 [l0, l1, l2, some (.ref a)] st σ Q := rn_step rfl (fun _ _ => rfl)
theorem sL_mixes_12n {d : Nat} {Q : mb_O → mb_S → Prop} {σ : mb_S} {st : List Value} {l0 l1 l2 l3 : Option Value} : mb_Rn d 157 12 [l0, l1, l2, l3] (.null :: st) σ Q = mb_Rn d 157 13 [l0, l1, l2, some (.null)] st σ Q := rn_step rfl (fun _ _ => rfl)
theorem sL_mixes_13 {d : Nat} {Q : mb_O → mb_S → Prop} {σ : mb_S} {st : List Value} {ls : mb_L} : mb_Rn d 157 13 ls st σ Q = mb_Rn d 157 14 ls (.int 1 :: st) σ Q := rn_step rfl (fun _ _ => rfl)
theorem sL_mixes_14 {d : Nat} {Q : mb_O → mb_S → Prop} {σ : mb_S}  {ls : mb_L} {x : Int32} : mb_Rn d 157 14 ls [.int x] σ Q = Q (.inl (some (.int x))) σ := rn_end rfl (fun _ _ => rfl)
theorem sL_mixes_15 {d : Nat} {Q : mb_O → mb_S → Prop} {σ : mb_S} {st : List Value} {ls : mb_L} : mb_Rn d 157 15 ls st σ Q = mb_Rn d 157 16 ls (.int 0 :: st) σ Q := rn_step rfl (fun _ _ => rfl)
theorem sL_mixes_16 {d : Nat} {Q : mb_O → mb_S → Prop} {σ : mb_S}  {ls : mb_L} {x : Int32} : mb_Rn d 157 16 ls [.int x] σ Q = Q (.inl (some (.int x))) σ := rn_end rfl (fun _ _ => rfl)
theorem sL_ofFrame_0 {d : Nat} {Q : mb_O → mb_S → Prop} {σ : mb_S} {st : List Value} {l0 l1 l2 l3 l5 : Option Value} {a : Nat} : mb_Rn d 158 0 [l0, l1, l2, l3, some (.ref a), l5] st σ Q = mb_Rn d 158 2 [l0, l1, l2, l3, some (.ref a), l5] (.ref a :: st) σ Q := rn_step rfl (fun _ _ => rfl)
theorem sL_ofFrame_0n {d : Nat} {Q : mb_O → mb_S → Prop} {σ : mb_S} {st : List Value} {l0 l1 l2 l3 l5 : Option Value} : mb_Rn d 158 0 [l0, l1, l2, l3, some (.null), l5] st σ Q = mb_Rn d 158 2 [l0, l1, l2, l3, some (.null), l5] (.null :: st) σ Q := rn_step rfl (fun _ _ => rfl)
theorem sL_ofFrame_2 {d : Nat} {Q : mb_O → mb_S → Prop} {σ : mb_S} {st : List Value} {ls : mb_L} : mb_Rn d 158 2 ls st σ Q = mb_Rn d 158 3 ls (.int 0 :: st) σ Q := rn_step rfl (fun _ _ => rfl)
theorem sL_ofFrame_3 {d : Nat} {Q : mb_O → mb_S → Prop} {σ : mb_S} {st : List Value} {l1 l2 l3 l4 l5 : Option Value} {a : Nat} : mb_Rn d 158 3 [some (.ref a), l1, l2, l3, l4, l5] st σ Q = mb_Rn d 158 4 [some (.ref a), l1, l2, l3, l4, l5] (.ref a :: st) σ Q := rn_step rfl (fun _ _ => rfl)
theorem sL_ofFrame_3n {d : Nat} {Q : mb_O → mb_S → Prop} {σ : mb_S} {st : List Value} {l1 l2 l3 l4 l5 : Option Value} : mb_Rn d 158 3 [some (.null), l1, l2, l3, l4, l5] st σ Q = mb_Rn d 158 4 [some (.null), l1, l2, l3, l4, l5] (.null :: st) σ Q := rn_step rfl (fun _ _ => rfl)
theorem sL_ofFrame_4 {d : Nat} {Q : mb_O → mb_S → Prop} {σ : mb_S} {st : List Value} {l0 l2 l3 l4 l5 : Option Value} {x : Int32} : mb_Rn d 158 4 [l0, some (.int x), l2, l3, l4, l5] st σ Q = mb_Rn d 158 5 [l0, some (.int x), l2, l3, l4, l5] (.int x :: st) σ Q := rn_step rfl (fun _ _ => rfl)
theorem sL_ofFrame_5 {d : Nat} {Q : mb_O → mb_S → Prop} {σ : mb_S} {st : List Value} {l0 l1 l3 l4 l5 : Option Value} {x : Int32} : mb_Rn d 158 5 [l0, l1, some (.int x), l3, l4, l5] st σ Q = mb_Rn d 158 6 [l0, l1, some (.int x), l3, l4, l5] (.int x :: st) σ Q := rn_step rfl (fun _ _ => rfl)
theorem sL_ofFrame_6 {d : Nat} {Q : mb_O → mb_S → Prop} {σ : mb_S} {st : List Value} {l0 l1 l2 l4 l5 : Option Value} {x : Int32} : mb_Rn d 158 6 [l0, l1, l2, some (.int x), l4, l5] st σ Q = mb_Rn d 158 7 [l0, l1, l2, some (.int x), l4, l5] (.int x :: st) σ Q := rn_step rfl (fun _ _ => rfl)
theorem sL_ofFrame_7 {d : Nat} {Q : mb_O → mb_S → Prop} {σ : mb_S} {st : List Value} {ls : mb_L} {p0 : Int32} {p1 : Int32} {p2 : Int32} {b : Nat} (hd : 1 ≤ d) (h4 : st.length ≤ 4) : mb_Rn d 158 7 ls (.int p2 :: .int p1 :: .int p0 :: .ref b :: st) σ Q = mb_gf σ b 7 False (fun _ => mb_Ex (d - 1) 59 [.ref b, .int p0, .int p1, .int p2] σ (mb_qx [(2, 17, 5)] d 158 10 ls st Q)) := rn_callv mb_good rfl hd rfl rfl ⟨rfl, rfl⟩ h4 ⟨Nat.le_of_ble_eq_true rfl, rfl⟩
theorem sL_ofFrame_10 {d : Nat} {Q : mb_O → mb_S → Prop} {σ : mb_S} {st : List Value} {ls : mb_L} {x : Int32} : mb_Rn d 158 10 ls (.int x :: st) σ Q = mb_Rn d 158 11 ls (.long x.toInt64 :: st) σ Q := rn_step rfl (fun _ _ => rfl)
theorem sL_ofFrame_11 {d : Nat} {Q : mb_O → mb_S → Prop} {σ : mb_S} {st : List Value} {ls : mb_L} {a : Nat} {j : Int32} {x : Int64} : mb_Rn d 158 11 ls (.long x :: .int j :: .ref a :: st) σ Q = mb_gj σ a j False (fun kd n f => if kd = 1 then mb_Rn d 158 12 ls st (mb_up σ a (.inl (1, n, .inr (.inl (vp_updL f j.toNatClampNeg x))))) Q else False) := rn_last rfl
theorem sL_ofFrame_12 {d : Nat} {Q : mb_O → mb_S → Prop} {σ : mb_S} {st : List Value} {ls : mb_L} : mb_Rn d 158 12 ls st σ Q = mb_Rn d 158 19 ls st σ Q := rn_step rfl (fun _ _ => rfl)
theorem sL_ofFrame_15 {d : Nat} {Q : mb_O → mb_S → Prop} {σ : mb_S} {st : List Value} {l0 l1 l2 l3 l4 l5 : Option Value} {a : Nat} : mb_Rn d 158 15 [l0, l1, l2, l3, l4, l5] (.ref a :: st) σ Q = mb_Rn d 158 17 [l0, l1, l2, l3, l4, some (.ref a)] st σ Q := rn_step rfl (fun _ _ => rfl)
theorem sL_ofFrame_15n {d : Nat} {Q : mb_O → mb_S → Prop} {σ : mb_S} {st : List Value} {l0 l1 l2 l3 l4 l5 : Option Value} : mb_Rn d 158 15 [l0, l1, l2, l3, l4, l5] (.null :: st) σ Q = mb_Rn d 158 17 [l0, l1, l2, l3, l4, some (.null)] st σ Q := rn_step rfl (fun _ _ => rfl)
theorem sL_ofFrame_17 {d : Nat} {Q : mb_O → mb_S → Prop} {σ : mb_S} {st : List Value} {ls : mb_L} : mb_Rn d 158 17 ls st σ Q = mb_Rn d 158 18 ls (.int 1 :: st) σ Q := rn_step rfl (fun _ _ => rfl)
theorem sL_ofFrame_18 {d : Nat} {Q : mb_O → mb_S → Prop} {σ : mb_S}  {ls : mb_L} {x : Int32} : mb_Rn d 158 18 ls [.int x] σ Q = Q (.inl (some (.int x))) σ := rn_end rfl (fun _ _ => rfl)
theorem sL_ofFrame_19 {d : Nat} {Q : mb_O → mb_S → Prop} {σ : mb_S} {st : List Value} {ls : mb_L} : mb_Rn d 158 19 ls st σ Q = mb_Rn d 158 20 ls (.int 0 :: st) σ Q := rn_step rfl (fun _ _ => rfl)
theorem sL_ofFrame_20 {d : Nat} {Q : mb_O → mb_S → Prop} {σ : mb_S}  {ls : mb_L} {x : Int32} : mb_Rn d 158 20 ls [.int x] σ Q = Q (.inl (some (.int x))) σ := rn_end rfl (fun _ _ => rfl)
theorem sL_kept_0 {d : Nat} {Q : mb_O → mb_S → Prop} {σ : mb_S} {st : List Value} {l0 l1 l2 l3 l5 : Option Value} {a : Nat} : mb_Rn d 159 0 [l0, l1, l2, l3, some (.ref a), l5] st σ Q = mb_Rn d 159 2 [l0, l1, l2, l3, some (.ref a), l5] (.ref a :: st) σ Q := rn_step rfl (fun _ _ => rfl)
theorem sL_kept_0n {d : Nat} {Q : mb_O → mb_S → Prop} {σ : mb_S} {st : List Value} {l0 l1 l2 l3 l5 : Option Value} : mb_Rn d 159 0 [l0, l1, l2, l3, some (.null), l5] st σ Q = mb_Rn d 159 2 [l0, l1, l2, l3, some (.null), l5] (.null :: st) σ Q := rn_step rfl (fun _ _ => rfl)
theorem sL_kept_2 {d : Nat} {Q : mb_O → mb_S → Prop} {σ : mb_S} {st : List Value} {ls : mb_L} : mb_Rn d 159 2 ls st σ Q = mb_Rn d 159 3 ls (.int 0 :: st) σ Q := rn_step rfl (fun _ _ => rfl)
theorem sL_kept_3 {d : Nat} {Q : mb_O → mb_S → Prop} {σ : mb_S} {st : List Value} {l1 l2 l3 l4 l5 : Option Value} {a : Nat} : mb_Rn d 159 3 [some (.ref a), l1, l2, l3, l4, l5] st σ Q = mb_Rn d 159 4 [some (.ref a), l1, l2, l3, l4, l5] (.ref a :: st) σ Q := rn_step rfl (fun _ _ => rfl)
theorem sL_kept_3n {d : Nat} {Q : mb_O → mb_S → Prop} {σ : mb_S} {st : List Value} {l1 l2 l3 l4 l5 : Option Value} : mb_Rn d 159 3 [some (.null), l1, l2, l3, l4, l5] st σ Q = mb_Rn d 159 4 [some (.null), l1, l2, l3, l4, l5] (.null :: st) σ Q := rn_step rfl (fun _ _ => rfl)
theorem sL_kept_4 {d : Nat} {Q : mb_O → mb_S → Prop} {σ : mb_S} {st : List Value} {l0 l2 l3 l4 l5 : Option Value} {x : Int32} : mb_Rn d 159 4 [l0, some (.int x), l2, l3, l4, l5] st σ Q = mb_Rn d 159 5 [l0, some (.int x), l2, l3, l4, l5] (.int x :: st) σ Q := rn_step rfl (fun _ _ => rfl)
theorem sL_kept_5 {d : Nat} {Q : mb_O → mb_S → Prop} {σ : mb_S} {st : List Value} {l0 l1 l3 l4 l5 : Option Value} {x : Int32} : mb_Rn d 159 5 [l0, l1, some (.int x), l3, l4, l5] st σ Q = mb_Rn d 159 6 [l0, l1, some (.int x), l3, l4, l5] (.int x :: st) σ Q := rn_step rfl (fun _ _ => rfl)
theorem sL_kept_6 {d : Nat} {Q : mb_O → mb_S → Prop} {σ : mb_S} {st : List Value} {l0 l1 l2 l4 l5 : Option Value} {x : Int32} : mb_Rn d 159 6 [l0, l1, l2, some (.int x), l4, l5] st σ Q = mb_Rn d 159 7 [l0, l1, l2, some (.int x), l4, l5] (.int x :: st) σ Q := rn_step rfl (fun _ _ => rfl)
theorem sL_kept_7 {d : Nat} {Q : mb_O → mb_S → Prop} {σ : mb_S} {st : List Value} {ls : mb_L} {p0 : Int32} {p1 : Int32} {p2 : Int32} {b : Nat} (hd : 1 ≤ d) (h4 : st.length ≤ 4) : mb_Rn d 159 7 ls (.int p2 :: .int p1 :: .int p0 :: .ref b :: st) σ Q = mb_gf σ b 7 False (fun _ => mb_Ex (d - 1) 60 [.ref b, .int p0, .int p1, .int p2] σ (mb_qx [(2, 17, 5)] d 159 10 ls st Q)) := rn_callv mb_good rfl hd rfl rfl ⟨rfl, rfl⟩ h4 ⟨Nat.le_of_ble_eq_true rfl, rfl⟩
theorem sL_kept_10 {d : Nat} {Q : mb_O → mb_S → Prop} {σ : mb_S} {st : List Value} {ls : mb_L} {x : Int32} : mb_Rn d 159 10 ls (.int x :: st) σ Q = mb_Rn d 159 11 ls (.long x.toInt64 :: st) σ Q := rn_step rfl (fun _ _ => rfl)
theorem sL_kept_11 {d : Nat} {Q : mb_O → mb_S → Prop} {σ : mb_S} {st : List Value} {ls : mb_L} {a : Nat} {j : Int32} {x : Int64} : mb_Rn d 159 11 ls (.long x :: .int j :: .ref a :: st) σ Q = mb_gj σ a j False (fun kd n f => if kd = 1 then mb_Rn d 159 12 ls st (mb_up σ a (.inl (1, n, .inr (.inl (vp_updL f j.toNatClampNeg x))))) Q else False) := rn_last rfl
theorem sL_kept_12 {d : Nat} {Q : mb_O → mb_S → Prop} {σ : mb_S} {st : List Value} {ls : mb_L} : mb_Rn d 159 12 ls st σ Q = mb_Rn d 159 19 ls st σ Q := rn_step rfl (fun _ _ => rfl)
theorem sL_kept_15 {d : Nat} {Q : mb_O → mb_S → Prop} {σ : mb_S} {st : List Value} {l0 l1 l2 l3 l4 l5 : Option Value} {a : Nat} : mb_Rn d 159 15 [l0, l1, l2, l3, l4, l5] (.ref a :: st) σ Q = mb_Rn d 159 17 [l0, l1, l2, l3, l4, some (.ref a)] st σ Q := rn_step rfl (fun _ _ => rfl)
theorem sL_kept_15n {d : Nat} {Q : mb_O → mb_S → Prop} {σ : mb_S} {st : List Value} {l0 l1 l2 l3 l4 l5 : Option Value} : mb_Rn d 159 15 [l0, l1, l2, l3, l4, l5] (.null :: st) σ Q = mb_Rn d 159 17 [l0, l1, l2, l3, l4, some (.null)] st σ Q := rn_step rfl (fun _ _ => rfl)
theorem sL_kept_17 {d : Nat} {Q : mb_O → mb_S → Prop} {σ : mb_S} {st : List Value} {ls : mb_L} : mb_Rn d 159 17 ls st σ Q = mb_Rn d 159 18 ls (.int 1 :: st) σ Q := rn_step rfl (fun _ _ => rfl)
theorem sL_kept_18 {d : Nat} {Q : mb_O → mb_S → Prop} {σ : mb_S}  {ls : mb_L} {x : Int32} : mb_Rn d 159 18 ls [.int x] σ Q = Q (.inl (some (.int x))) σ := rn_end rfl (fun _ _ => rfl)
theorem sL_kept_19 {d : Nat} {Q : mb_O → mb_S → Prop} {σ : mb_S} {st : List Value} {ls : mb_L} : mb_Rn d 159 19 ls st σ Q = mb_Rn d 159 20 ls (.int 0 :: st) σ Q := rn_step rfl (fun _ _ => rfl)
theorem sL_kept_20 {d : Nat} {Q : mb_O → mb_S → Prop} {σ : mb_S}  {ls : mb_L} {x : Int32} : mb_Rn d 159 20 ls [.int x] σ Q = Q (.inl (some (.int x))) σ := rn_end rfl (fun _ _ => rfl)
theorem sL_count_0 {d : Nat} {Q : mb_O → mb_S → Prop} {σ : mb_S} {st : List Value} {l0 l1 l3 : Option Value} {a : Nat} : mb_Rn d 160 0 [l0, l1, some (.ref a), l3] st σ Q = mb_Rn d 160 1 [l0, l1, some (.ref a), l3] (.ref a :: st) σ Q := rn_step rfl (fun _ _ => rfl)
theorem sL_count_0n {d : Nat} {Q : mb_O → mb_S → Prop} {σ : mb_S} {st : List Value} {l0 l1 l3 : Option Value} : mb_Rn d 160 0 [l0, l1, some (.null), l3] st σ Q = mb_Rn d 160 1 [l0, l1, some (.null), l3] (.null :: st) σ Q := rn_step rfl (fun _ _ => rfl)
theorem sL_count_1 {d : Nat} {Q : mb_O → mb_S → Prop} {σ : mb_S} {st : List Value} {ls : mb_L} : mb_Rn d 160 1 ls st σ Q = mb_Rn d 160 2 ls (.int 0 :: st) σ Q := rn_step rfl (fun _ _ => rfl)
theorem sL_count_2 {d : Nat} {Q : mb_O → mb_S → Prop} {σ : mb_S} {st : List Value} {l1 l2 l3 : Option Value} {a : Nat} : mb_Rn d 160 2 [some (.ref a), l1, l2, l3] st σ Q = mb_Rn d 160 3 [some (.ref a), l1, l2, l3] (.ref a :: st) σ Q := rn_step rfl (fun _ _ => rfl)
theorem sL_count_2n {d : Nat} {Q : mb_O → mb_S → Prop} {σ : mb_S} {st : List Value} {l1 l2 l3 : Option Value} : mb_Rn d 160 2 [some (.null), l1, l2, l3] st σ Q = mb_Rn d 160 3 [some (.null), l1, l2, l3] (.null :: st) σ Q := rn_step rfl (fun _ _ => rfl)
theorem sL_count_3 {d : Nat} {Q : mb_O → mb_S → Prop} {σ : mb_S} {st : List Value} {l0 l2 l3 : Option Value} {x : Int32} : mb_Rn d 160 3 [l0, some (.int x), l2, l3] st σ Q = mb_Rn d 160 4 [l0, some (.int x), l2, l3] (.int x :: st) σ Q := rn_step rfl (fun _ _ => rfl)
theorem sL_count_4 {d : Nat} {Q : mb_O → mb_S → Prop} {σ : mb_S} {st : List Value} {ls : mb_L} {p0 : Int32} {b : Nat} (hd : 1 ≤ d) (h4 : st.length ≤ 4) : mb_Rn d 160 4 ls (.int p0 :: .ref b :: st) σ Q = mb_gf σ b 7 False (fun _ => mb_Ex (d - 1) 61 [.ref b, .int p0] σ (mb_qx [(1, 13, 3)] d 160 7 ls st Q)) := rn_callv mb_good rfl hd rfl rfl ⟨rfl, rfl⟩ h4 ⟨Nat.le_of_ble_eq_true rfl, rfl⟩
theorem sL_count_7 {d : Nat} {Q : mb_O → mb_S → Prop} {σ : mb_S} {st : List Value} {ls : mb_L} {x : Int32} : mb_Rn d 160 7 ls (.int x :: st) σ Q = mb_Rn d 160 8 ls (.long x.toInt64 :: st) σ Q := rn_step rfl (fun _ _ => rfl)
theorem sL_count_8 {d : Nat} {Q : mb_O → mb_S → Prop} {σ : mb_S} {st : List Value} {ls : mb_L} {a : Nat} {j : Int32} {x : Int64} : mb_Rn d 160 8 ls (.long x :: .int j :: .ref a :: st) σ Q = mb_gj σ a j False (fun kd n f => if kd = 1 then mb_Rn d 160 9 ls st (mb_up σ a (.inl (1, n, .inr (.inl (vp_updL f j.toNatClampNeg x))))) Q else False) := rn_last rfl
theorem sL_count_9 {d : Nat} {Q : mb_O → mb_S → Prop} {σ : mb_S} {st : List Value} {ls : mb_L} : mb_Rn d 160 9 ls st σ Q = mb_Rn d 160 15 ls st σ Q := rn_step rfl (fun _ _ => rfl)
theorem sL_count_12 {d : Nat} {Q : mb_O → mb_S → Prop} {σ : mb_S} {st : List Value} {l0 l1 l2 l3 : Option Value} {a : Nat} : mb_Rn d 160 12 [l0, l1, l2, l3] (.ref a :: st) σ Q = mb_Rn d 160 13 [l0, l1, l2, some (.ref a)] st σ Q := rn_step rfl (fun _ _ => rfl)
theorem sL_count_12n {d : Nat} {Q : mb_O → mb_S → Prop} {σ : mb_S} {st : List Value} {l0 l1 l2 l3 : Option Value} : mb_Rn d 160 12 [l0, l1, l2, l3] (.null :: st) σ Q = mb_Rn d 160 13 [l0, l1, l2, some (.null)] st σ Q := rn_step rfl (fun _ _ => rfl)
theorem sL_count_13 {d : Nat} {Q : mb_O → mb_S → Prop} {σ : mb_S} {st : List Value} {ls : mb_L} : mb_Rn d 160 13 ls st σ Q = mb_Rn d 160 14 ls (.int 1 :: st) σ Q := rn_step rfl (fun _ _ => rfl)
theorem sL_count_14 {d : Nat} {Q : mb_O → mb_S → Prop} {σ : mb_S}  {ls : mb_L} {x : Int32} : mb_Rn d 160 14 ls [.int x] σ Q = Q (.inl (some (.int x))) σ := rn_end rfl (fun _ _ => rfl)
theorem sL_count_15 {d : Nat} {Q : mb_O → mb_S → Prop} {σ : mb_S} {st : List Value} {ls : mb_L} : mb_Rn d 160 15 ls st σ Q = mb_Rn d 160 16 ls (.int 0 :: st) σ Q := rn_step rfl (fun _ _ => rfl)
theorem sL_count_16 {d : Nat} {Q : mb_O → mb_S → Prop} {σ : mb_S}  {ls : mb_L} {x : Int32} : mb_Rn d 160 16 ls [.int x] σ Q = Q (.inl (some (.int x))) σ := rn_end rfl (fun _ _ => rfl)
set_option maxRecDepth 20000 in
theorem sL_law_0 {d : Nat} {Q : mb_O → mb_S → Prop} {σ : mb_S} {st : List Value} {ls : mb_L} : mb_Rn d 161 0 ls st σ Q = mb_Rn d 161 3 ls (.ref σ.2.1 :: st) (mb_al σ (.inr (7, [.null, .null, .null, .int 0, .int 0, .int 0, .int 0])) 7) Q := rn_step rfl (fun _ _ => rfl)
set_option maxRecDepth 20000 in
theorem sL_law_3 {d : Nat} {Q : mb_O → mb_S → Prop} {σ : mb_S} {st : List Value} {ls : mb_L} {a : Nat} : mb_Rn d 161 3 ls (.ref a :: st) σ Q = mb_Rn d 161 4 ls (.ref a :: .ref a :: st) σ Q := rn_step rfl (fun _ _ => rfl)
set_option maxRecDepth 20000 in
theorem sL_law_3i {d : Nat} {Q : mb_O → mb_S → Prop} {σ : mb_S} {st : List Value} {ls : mb_L} {x : Int32} : mb_Rn d 161 3 ls (.int x :: st) σ Q = mb_Rn d 161 4 ls (.int x :: .int x :: st) σ Q := rn_step rfl (fun _ _ => rfl)
set_option maxRecDepth 20000 in
theorem sL_law_4 {d : Nat} {Q : mb_O → mb_S → Prop} {σ : mb_S} {st : List Value} {ls : mb_L} {b : Nat} (hd : 1 ≤ d) (h4 : st.length ≤ 4) : mb_Rn d 161 4 ls (.ref b :: st) σ Q = mb_Ex (d - 1) 40 [.ref b] σ (mb_qk d 161 7 ls st Q) := rn_calli mb_good rfl hd rfl rfl ⟨rfl, rfl⟩ h4 ⟨Nat.le_of_ble_eq_true rfl, rfl⟩
set_option maxRecDepth 20000 in
theorem sL_law_7 {d : Nat} {Q : mb_O → mb_S → Prop} {σ : mb_S} {st : List Value} {l0 l1 l2 l3 l4 l5 l6 : Option Value} {a : Nat} : mb_Rn d 161 7 [l0, l1, l2, l3, l4, l5, l6] (.ref a :: st) σ Q = mb_Rn d 161 8 [l0, some (.ref a), l2, l3, l4, l5, l6] st σ Q := rn_step rfl (fun _ _ => rfl)
set_option maxRecDepth 20000 in
theorem sL_law_7n {d : Nat} {Q : mb_O → mb_S → Prop} {σ : mb_S} {st : List Value} {l0 l1 l2 l3 l4 l5 l6 : Option Value} : mb_Rn d 161 7 [l0, l1, l2, l3, l4, l5, l6] (.null :: st) σ Q = mb_Rn d 161 8 [l0, some (.null), l2, l3, l4, l5, l6] st σ Q := rn_step rfl (fun _ _ => rfl)
set_option maxRecDepth 20000 in
theorem sL_law_8 {d : Nat} {Q : mb_O → mb_S → Prop} {σ : mb_S} {st : List Value} {ls : mb_L} : mb_Rn d 161 8 ls st σ Q = mb_Rn d 161 11 ls (.ref σ.2.1 :: st) (mb_al σ (.inr (8, [.int 0, .int 0, .null, .null, .null, .null, .null, .null, .null, .int 0, .null, .null, .null, .null, .null, .null, .null, .null, .null, .null, .int 0, .int 0, .null, .null, .null, .null])) 26) Q := rn_step rfl (fun _ _ => rfl)
set_option maxRecDepth 20000 in
theorem sL_law_11 {d : Nat} {Q : mb_O → mb_S → Prop} {σ : mb_S} {st : List Value} {ls : mb_L} {a : Nat} : mb_Rn d 161 11 ls (.ref a :: st) σ Q = mb_Rn d 161 12 ls (.ref a :: .ref a :: st) σ Q := rn_step rfl (fun _ _ => rfl)
set_option maxRecDepth 20000 in
theorem sL_law_11i {d : Nat} {Q : mb_O → mb_S → Prop} {σ : mb_S} {st : List Value} {ls : mb_L} {x : Int32} : mb_Rn d 161 11 ls (.int x :: st) σ Q = mb_Rn d 161 12 ls (.int x :: .int x :: st) σ Q := rn_step rfl (fun _ _ => rfl)
set_option maxRecDepth 20000 in
theorem sL_law_12 {d : Nat} {Q : mb_O → mb_S → Prop} {σ : mb_S} {st : List Value} {ls : mb_L} {b : Nat} (hd : 1 ≤ d) (h4 : st.length ≤ 4) : mb_Rn d 161 12 ls (.ref b :: st) σ Q = mb_Ex (d - 1) 84 [.ref b] σ (mb_qk d 161 15 ls st Q) := rn_calli mb_good rfl hd rfl rfl ⟨rfl, rfl⟩ h4 ⟨Nat.le_of_ble_eq_true rfl, rfl⟩
set_option maxRecDepth 20000 in
theorem sL_law_15 {d : Nat} {Q : mb_O → mb_S → Prop} {σ : mb_S} {st : List Value} {l0 l1 l2 l3 l4 l5 l6 : Option Value} {a : Nat} : mb_Rn d 161 15 [l0, l1, l2, l3, l4, l5, l6] (.ref a :: st) σ Q = mb_Rn d 161 16 [l0, l1, some (.ref a), l3, l4, l5, l6] st σ Q := rn_step rfl (fun _ _ => rfl)
set_option maxRecDepth 20000 in
theorem sL_law_15n {d : Nat} {Q : mb_O → mb_S → Prop} {σ : mb_S} {st : List Value} {l0 l1 l2 l3 l4 l5 l6 : Option Value} : mb_Rn d 161 15 [l0, l1, l2, l3, l4, l5, l6] (.null :: st) σ Q = mb_Rn d 161 16 [l0, l1, some (.null), l3, l4, l5, l6] st σ Q := rn_step rfl (fun _ _ => rfl)
set_option maxRecDepth 20000 in
theorem sL_law_16 {d : Nat} {Q : mb_O → mb_S → Prop} {σ : mb_S} {st : List Value} {ls : mb_L} : mb_Rn d 161 16 ls st σ Q = mb_Rn d 161 17 ls (.int 1 :: st) σ Q := rn_step rfl (fun _ _ => rfl)
set_option maxRecDepth 20000 in
theorem sL_law_17 {d : Nat} {Q : mb_O → mb_S → Prop} {σ : mb_S} {st : List Value} {ls : mb_L} : mb_Rn d 161 17 ls (.int 1 :: st) σ Q = mb_Rn d 161 19 ls (.ref σ.2.1 :: st) (mb_al σ (.inl (1, 1, .inr (.inl (fun _ => 0)))) 1) Q := rn_step rfl (fun _ _ => rfl)
set_option maxRecDepth 20000 in
theorem sL_law_19 {d : Nat} {Q : mb_O → mb_S → Prop} {σ : mb_S} {st : List Value} {l0 l1 l2 l3 l4 l5 l6 : Option Value} {a : Nat} : mb_Rn d 161 19 [l0, l1, l2, l3, l4, l5, l6] (.ref a :: st) σ Q = mb_Rn d 161 20 [l0, l1, l2, some (.ref a), l4, l5, l6] st σ Q := rn_step rfl (fun _ _ => rfl)
set_option maxRecDepth 20000 in
theorem sL_law_19n {d : Nat} {Q : mb_O → mb_S → Prop} {σ : mb_S} {st : List Value} {l0 l1 l2 l3 l4 l5 l6 : Option Value} : mb_Rn d 161 19 [l0, l1, l2, l3, l4, l5, l6] (.null :: st) σ Q = mb_Rn d 161 20 [l0, l1, l2, some (.null), l4, l5, l6] st σ Q := rn_step rfl (fun _ _ => rfl)
set_option maxRecDepth 20000 in
theorem sL_law_20 {d : Nat} {Q : mb_O → mb_S → Prop} {σ : mb_S} {st : List Value} {ls : mb_L} : mb_Rn d 161 20 ls st σ Q = mb_Rn d 161 21 ls (.int 0 :: st) σ Q := rn_step rfl (fun _ _ => rfl)
set_option maxRecDepth 20000 in
theorem sL_law_21 {d : Nat} {Q : mb_O → mb_S → Prop} {σ : mb_S} {st : List Value} {l0 l1 l2 l3 l4 l5 l6 : Option Value} {x : Int32} : mb_Rn d 161 21 [l0, l1, l2, l3, l4, l5, l6] (.int x :: st) σ Q = mb_Rn d 161 23 [l0, l1, l2, l3, some (.int x), l5, l6] st σ Q := rn_step rfl (fun _ _ => rfl)
set_option maxRecDepth 20000 in
theorem sL_law_23 {d : Nat} {Q : mb_O → mb_S → Prop} {σ : mb_S} {st : List Value} {l0 l1 l2 l3 l5 l6 : Option Value} {x : Int32} : mb_Rn d 161 23 [l0, l1, l2, l3, some (.int x), l5, l6] st σ Q = mb_Rn d 161 25 [l0, l1, l2, l3, some (.int x), l5, l6] (.int x :: st) σ Q := rn_step rfl (fun _ _ => rfl)
set_option maxRecDepth 20000 in
theorem sL_law_25 {d : Nat} {Q : mb_O → mb_S → Prop} {σ : mb_S} {st : List Value} {l1 l2 l3 l4 l5 l6 : Option Value} {a : Nat} : mb_Rn d 161 25 [some (.ref a), l1, l2, l3, l4, l5, l6] st σ Q = mb_Rn d 161 26 [some (.ref a), l1, l2, l3, l4, l5, l6] (.ref a :: st) σ Q := rn_step rfl (fun _ _ => rfl)
set_option maxRecDepth 20000 in
theorem sL_law_25n {d : Nat} {Q : mb_O → mb_S → Prop} {σ : mb_S} {st : List Value} {l1 l2 l3 l4 l5 l6 : Option Value} : mb_Rn d 161 25 [some (.null), l1, l2, l3, l4, l5, l6] st σ Q = mb_Rn d 161 26 [some (.null), l1, l2, l3, l4, l5, l6] (.null :: st) σ Q := rn_step rfl (fun _ _ => rfl)
set_option maxRecDepth 20000 in
theorem sL_law_26 {d : Nat} {Q : mb_O → mb_S → Prop} {σ : mb_S} {st : List Value} {ls : mb_L} {a n : Nat} {f : Nat → Int32} (ha : σ.1 a = some (.inl (9, n, .inl f))) : mb_Rn d 161 26 ls (.ref a :: st) σ Q = mb_Rn d 161 27 ls (.int (Int32.ofNat n) :: st) σ Q := rn_step rfl (fun _ _ => by unfold mi_alen; dsimp only; rw [ha]; rfl)
set_option maxRecDepth 20000 in
theorem sL_law_27 {d : Nat} {Q : mb_O → mb_S → Prop} {σ : mb_S} {st : List Value} {ls : mb_L} : mb_Rn d 161 27 ls st σ Q = mb_Rn d 161 29 ls (.int 6 :: st) σ Q := rn_step rfl (fun _ _ => rfl)
set_option maxRecDepth 20000 in
theorem sL_law_29 {d : Nat} {Q : mb_O → mb_S → Prop} {σ : mb_S} {st : List Value} {ls : mb_L} {x z : Int32} : mb_Rn d 161 29 ls (.int z :: .int x :: st) σ Q = mb_Rn d 161 30 ls (.int (x - z) :: st) σ Q := rn_step rfl (fun _ _ => rfl)
set_option maxRecDepth 20000 in
theorem sL_law_30 {d : Nat} {Q : mb_O → mb_S → Prop} {σ : mb_S} {st : List Value} {ls : mb_L} {x z : Int32} : mb_Rn d 161 30 ls (.int z :: .int x :: st) σ Q = if z < x then mb_Rn d 161 1648 ls st σ Q else mb_Rn d 161 33 ls st σ Q := rn_ifb rfl (fun _ _ => rfl) decide_eq_true_iff
set_option maxRecDepth 20000 in
theorem sL_law_33 {d : Nat} {Q : mb_O → mb_S → Prop} {σ : mb_S} {st : List Value} {l1 l2 l3 l4 l5 l6 : Option Value} {a : Nat} : mb_Rn d 161 33 [some (.ref a), l1, l2, l3, l4, l5, l6] st σ Q = mb_Rn d 161 34 [some (.ref a), l1, l2, l3, l4, l5, l6] (.ref a :: st) σ Q := rn_step rfl (fun _ _ => rfl)
set_option maxRecDepth 20000 in
theorem sL_law_33n {d : Nat} {Q : mb_O → mb_S → Prop} {σ : mb_S} {st : List Value} {l1 l2 l3 l4 l5 l6 : Option Value} : mb_Rn d 161 33 [some (.null), l1, l2, l3, l4, l5, l6] st σ Q = mb_Rn d 161 34 [some (.null), l1, l2, l3, l4, l5, l6] (.null :: st) σ Q := rn_step rfl (fun _ _ => rfl)
set_option maxRecDepth 20000 in
theorem sL_law_34 {d : Nat} {Q : mb_O → mb_S → Prop} {σ : mb_S} {st : List Value} {l0 l1 l2 l3 l5 l6 : Option Value} {x : Int32} : mb_Rn d 161 34 [l0, l1, l2, l3, some (.int x), l5, l6] st σ Q = mb_Rn d 161 36 [l0, l1, l2, l3, some (.int x), l5, l6] (.int x :: st) σ Q := rn_step rfl (fun _ _ => rfl)
set_option maxRecDepth 20000 in
theorem sL_law_36 {d : Nat} {Q : mb_O → mb_S → Prop} {σ : mb_S} {st : List Value} {ls : mb_L} {a : Nat} {j : Int32} : mb_Rn d 161 36 ls (.int j :: .ref a :: st) σ Q = mb_gi σ a j False (fun kd _ f => if kd = 0 ∨ kd = 9 then mb_Rn d 161 37 ls (.int (f j.toNatClampNeg) :: st) σ Q else False) := rn_iald rfl
set_option maxRecDepth 20000 in
theorem sL_law_37 {d : Nat} {Q : mb_O → mb_S → Prop} {σ : mb_S} {st : List Value} {ls : mb_L} : mb_Rn d 161 37 ls st σ Q = mb_Rn d 161 39 ls (.int 31 :: st) σ Q := rn_step rfl (fun _ _ => rfl)
set_option maxRecDepth 20000 in
theorem sL_law_39 {d : Nat} {Q : mb_O → mb_S → Prop} {σ : mb_S} {st : List Value} {ls : mb_L} {x z : Int32} : mb_Rn d 161 39 ls (.int z :: .int x :: st) σ Q = mb_Rn d 161 40 ls (.int (x &&& z) :: st) σ Q := rn_step rfl (fun _ _ => rfl)
set_option maxRecDepth 20000 in
theorem sL_law_40 {d : Nat} {Q : mb_O → mb_S → Prop} {σ : mb_S} {st : List Value} {ls : mb_L} {x : Int32} : mb_Rn d 161 40 ls (.int x :: st) σ Q = if x < 0 then mb_Rn d 161 1642 ls st σ Q else mb_sw (fun t => mb_Rn d 161 t ls st σ Q) [140, 184, 252, 356, 443, 499, 591, 683, 751, 807, 911, 991, 1059, 1115, 1183, 1239, 1314, 1370, 1426, 1506, 1586] 0 x (mb_Rn d 161 1642 ls st σ Q) := rn_tsw rfl (by decide)
set_option maxRecDepth 20000 in
theorem sL_law_140 {d : Nat} {Q : mb_O → mb_S → Prop} {σ : mb_S} {st : List Value} {l0 l2 l3 l4 l5 l6 : Option Value} {a : Nat} : mb_Rn d 161 140 [l0, some (.ref a), l2, l3, l4, l5, l6] st σ Q = mb_Rn d 161 141 [l0, some (.ref a), l2, l3, l4, l5, l6] (.ref a :: st) σ Q := rn_step rfl (fun _ _ => rfl)
set_option maxRecDepth 20000 in
theorem sL_law_140n {d : Nat} {Q : mb_O → mb_S → Prop} {σ : mb_S} {st : List Value} {l0 l2 l3 l4 l5 l6 : Option Value} : mb_Rn d 161 140 [l0, some (.null), l2, l3, l4, l5, l6] st σ Q = mb_Rn d 161 141 [l0, some (.null), l2, l3, l4, l5, l6] (.null :: st) σ Q := rn_step rfl (fun _ _ => rfl)
set_option maxRecDepth 20000 in
theorem sL_law_141 {d : Nat} {Q : mb_O → mb_S → Prop} {σ : mb_S} {st : List Value} {l0 l1 l2 l4 l5 l6 : Option Value} {a : Nat} : mb_Rn d 161 141 [l0, l1, l2, some (.ref a), l4, l5, l6] st σ Q = mb_Rn d 161 142 [l0, l1, l2, some (.ref a), l4, l5, l6] (.ref a :: st) σ Q := rn_step rfl (fun _ _ => rfl)
set_option maxRecDepth 20000 in
theorem sL_law_141n {d : Nat} {Q : mb_O → mb_S → Prop} {σ : mb_S} {st : List Value} {l0 l1 l2 l4 l5 l6 : Option Value} : mb_Rn d 161 141 [l0, l1, l2, some (.null), l4, l5, l6] st σ Q = mb_Rn d 161 142 [l0, l1, l2, some (.null), l4, l5, l6] (.null :: st) σ Q := rn_step rfl (fun _ _ => rfl)
set_option maxRecDepth 20000 in
theorem sL_law_142 {d : Nat} {Q : mb_O → mb_S → Prop} {σ : mb_S} {st : List Value} {ls : mb_L} {p0 : Nat} {p1 : Nat} (hd : 1 ≤ d) (h4 : st.length ≤ 4) : mb_Rn d 161 142 ls (.ref p1 :: .ref p0 :: st) σ Q = mb_Ex (d - 1) 140 [.ref p0, .ref p1] σ (mb_qk d 161 145 ls st Q) := rn_calls mb_good rfl hd rfl rfl ⟨rfl, rfl⟩ h4 ⟨Nat.le_of_ble_eq_true rfl, rfl⟩
set_option maxRecDepth 20000 in
theorem sL_law_145 {d : Nat} {Q : mb_O → mb_S → Prop} {σ : mb_S} {st : List Value} {l0 l1 l2 l3 l4 l5 l6 : Option Value} {x : Int32} : mb_Rn d 161 145 [l0, l1, l2, l3, l4, l5, l6] (.int x :: st) σ Q = mb_Rn d 161 147 [l0, l1, l2, l3, l4, some (.int x), l6] st σ Q := rn_step rfl (fun _ _ => rfl)
set_option maxRecDepth 20000 in
theorem sL_law_147 {d : Nat} {Q : mb_O → mb_S → Prop} {σ : mb_S} {st : List Value} {l0 l1 l3 l4 l5 l6 : Option Value} {a : Nat} : mb_Rn d 161 147 [l0, l1, some (.ref a), l3, l4, l5, l6] st σ Q = mb_Rn d 161 148 [l0, l1, some (.ref a), l3, l4, l5, l6] (.ref a :: st) σ Q := rn_step rfl (fun _ _ => rfl)
set_option maxRecDepth 20000 in
theorem sL_law_147n {d : Nat} {Q : mb_O → mb_S → Prop} {σ : mb_S} {st : List Value} {l0 l1 l3 l4 l5 l6 : Option Value} : mb_Rn d 161 147 [l0, l1, some (.null), l3, l4, l5, l6] st σ Q = mb_Rn d 161 148 [l0, l1, some (.null), l3, l4, l5, l6] (.null :: st) σ Q := rn_step rfl (fun _ _ => rfl)
set_option maxRecDepth 20000 in
theorem sL_law_148 {d : Nat} {Q : mb_O → mb_S → Prop} {σ : mb_S} {st : List Value} {ls : mb_L} {b : Nat} (hd : 1 ≤ d) (h4 : st.length ≤ 4) : mb_Rn d 161 148 ls (.ref b :: st) σ Q = mb_gf σ b 8 False (fun _ => mb_Ex (d - 1) 99 [.ref b] σ (mb_qx [] d 161 151 ls st Q)) := rn_callv mb_good rfl hd rfl rfl ⟨rfl, rfl⟩ h4 ⟨Nat.le_of_ble_eq_true rfl, rfl⟩
set_option maxRecDepth 20000 in
theorem sL_law_151 {d : Nat} {Q : mb_O → mb_S → Prop} {σ : mb_S} {st : List Value} {l0 l1 l2 l3 l4 l5 l6 : Option Value} {x : Int32} : mb_Rn d 161 151 [l0, l1, l2, l3, l4, l5, l6] (.int x :: st) σ Q = mb_Rn d 161 153 [l0, l1, l2, l3, l4, l5, some (.int x)] st σ Q := rn_step rfl (fun _ _ => rfl)
set_option maxRecDepth 20000 in
theorem sL_law_153 {d : Nat} {Q : mb_O → mb_S → Prop} {σ : mb_S} {st : List Value} {l0 l1 l3 l4 l5 l6 : Option Value} {a : Nat} : mb_Rn d 161 153 [l0, l1, some (.ref a), l3, l4, l5, l6] st σ Q = mb_Rn d 161 154 [l0, l1, some (.ref a), l3, l4, l5, l6] (.ref a :: st) σ Q := rn_step rfl (fun _ _ => rfl)
set_option maxRecDepth 20000 in
theorem sL_law_153n {d : Nat} {Q : mb_O → mb_S → Prop} {σ : mb_S} {st : List Value} {l0 l1 l3 l4 l5 l6 : Option Value} : mb_Rn d 161 153 [l0, l1, some (.null), l3, l4, l5, l6] st σ Q = mb_Rn d 161 154 [l0, l1, some (.null), l3, l4, l5, l6] (.null :: st) σ Q := rn_step rfl (fun _ _ => rfl)
set_option maxRecDepth 20000 in
theorem sL_law_154 {d : Nat} {Q : mb_O → mb_S → Prop} {σ : mb_S} {st : List Value} {ls : mb_L} {b : Nat} (hd : 1 ≤ d) (h4 : st.length ≤ 4) : mb_Rn d 161 154 ls (.ref b :: st) σ Q = mb_gf σ b 8 False (fun _ => mb_Ex (d - 1) 85 [.ref b] σ (mb_qx [] d 161 157 ls st Q)) := rn_callv mb_good rfl hd rfl rfl ⟨rfl, rfl⟩ h4 ⟨Nat.le_of_ble_eq_true rfl, rfl⟩
set_option maxRecDepth 20000 in
theorem sL_law_157 {d : Nat} {Q : mb_O → mb_S → Prop} {σ : mb_S} {st : List Value} {l0 l1 l2 l3 l4 l6 : Option Value} {x : Int32} : mb_Rn d 161 157 [l0, l1, l2, l3, l4, some (.int x), l6] st σ Q = mb_Rn d 161 159 [l0, l1, l2, l3, l4, some (.int x), l6] (.int x :: st) σ Q := rn_step rfl (fun _ _ => rfl)
set_option maxRecDepth 20000 in
theorem sL_law_159 {d : Nat} {Q : mb_O → mb_S → Prop} {σ : mb_S} {st : List Value} {ls : mb_L} {x z : Int32} : mb_Rn d 161 159 ls (.int z :: .int x :: st) σ Q = if x = z then mb_Rn d 161 164 ls st σ Q else mb_Rn d 161 162 ls st σ Q := rn_ifb rfl (fun _ _ => rfl) beq_iff_eq
set_option maxRecDepth 20000 in
theorem sL_law_162 {d : Nat} {Q : mb_O → mb_S → Prop} {σ : mb_S} {st : List Value} {ls : mb_L} : mb_Rn d 161 162 ls st σ Q = mb_Rn d 161 163 ls (.int 0 :: st) σ Q := rn_step rfl (fun _ _ => rfl)
set_option maxRecDepth 20000 in
theorem sL_law_163 {d : Nat} {Q : mb_O → mb_S → Prop} {σ : mb_S}  {ls : mb_L} {x : Int32} : mb_Rn d 161 163 ls [.int x] σ Q = if x = 0 ∨ x = 1 then Q (.inl (some (.int x))) σ else False := rn_zret rfl
set_option maxRecDepth 20000 in
theorem sL_law_164 {d : Nat} {Q : mb_O → mb_S → Prop} {σ : mb_S} {st : List Value} {l0 l1 l2 l3 l4 l6 : Option Value} {x : Int32} : mb_Rn d 161 164 [l0, l1, l2, l3, l4, some (.int x), l6] st σ Q = mb_Rn d 161 166 [l0, l1, l2, l3, l4, some (.int x), l6] (.int x :: st) σ Q := rn_step rfl (fun _ _ => rfl)
set_option maxRecDepth 20000 in
theorem sL_law_166 {d : Nat} {Q : mb_O → mb_S → Prop} {σ : mb_S} {st : List Value} {ls : mb_L} {x : Int32} : mb_Rn d 161 166 ls (.int x :: st) σ Q = if x = 0 then mb_Rn d 161 169 ls st σ Q else mb_Rn d 161 181 ls st σ Q := rn_ifn rfl (fun _ _ => rfl) bne_iff_ne
set_option maxRecDepth 20000 in
theorem sL_law_169 {d : Nat} {Q : mb_O → mb_S → Prop} {σ : mb_S} {st : List Value} {l0 l1 l2 l4 l5 l6 : Option Value} {a : Nat} : mb_Rn d 161 169 [l0, l1, l2, some (.ref a), l4, l5, l6] st σ Q = mb_Rn d 161 170 [l0, l1, l2, some (.ref a), l4, l5, l6] (.ref a :: st) σ Q := rn_step rfl (fun _ _ => rfl)
set_option maxRecDepth 20000 in
theorem sL_law_169n {d : Nat} {Q : mb_O → mb_S → Prop} {σ : mb_S} {st : List Value} {l0 l1 l2 l4 l5 l6 : Option Value} : mb_Rn d 161 169 [l0, l1, l2, some (.null), l4, l5, l6] st σ Q = mb_Rn d 161 170 [l0, l1, l2, some (.null), l4, l5, l6] (.null :: st) σ Q := rn_step rfl (fun _ _ => rfl)
set_option maxRecDepth 20000 in
theorem sL_law_170 {d : Nat} {Q : mb_O → mb_S → Prop} {σ : mb_S} {st : List Value} {ls : mb_L} : mb_Rn d 161 170 ls st σ Q = mb_Rn d 161 171 ls (.int 0 :: st) σ Q := rn_step rfl (fun _ _ => rfl)
set_option maxRecDepth 20000 in
theorem sL_law_171 {d : Nat} {Q : mb_O → mb_S → Prop} {σ : mb_S} {st : List Value} {ls : mb_L} {a : Nat} {j : Int32} : mb_Rn d 161 171 ls (.int j :: .ref a :: st) σ Q = mb_gj σ a j False (fun kd _ f => if kd = 1 then mb_Rn d 161 172 ls (.long (f j.toNatClampNeg) :: st) σ Q else False) := rn_lald rfl
set_option maxRecDepth 20000 in
theorem sL_law_172 {d : Nat} {Q : mb_O → mb_S → Prop} {σ : mb_S} {st : List Value} {l0 l1 l2 l3 l4 l5 : Option Value} {x : Int32} : mb_Rn d 161 172 [l0, l1, l2, l3, l4, l5, some (.int x)] st σ Q = mb_Rn d 161 174 [l0, l1, l2, l3, l4, l5, some (.int x)] (.int x :: st) σ Q := rn_step rfl (fun _ _ => rfl)
set_option maxRecDepth 20000 in
theorem sL_law_174 {d : Nat} {Q : mb_O → mb_S → Prop} {σ : mb_S} {st : List Value} {ls : mb_L} {x : Int32} : mb_Rn d 161 174 ls (.int x :: st) σ Q = mb_Rn d 161 175 ls (.long x.toInt64 :: st) σ Q := rn_step rfl (fun _ _ => rfl)
set_option maxRecDepth 20000 in
theorem sL_law_175 {d : Nat} {Q : mb_O → mb_S → Prop} {σ : mb_S} {st : List Value} {ls : mb_L} {x z : Int64} : mb_Rn d 161 175 ls (.long z :: .long x :: st) σ Q = mb_Rn d 161 176 ls (.int (lg_cmp x z) :: st) σ Q := rn_step rfl (fun _ _ => rfl)
set_option maxRecDepth 20000 in
theorem sL_law_176 {d : Nat} {Q : mb_O → mb_S → Prop} {σ : mb_S} {st : List Value} {ls : mb_L} {x : Int32} : mb_Rn d 161 176 ls (.int x :: st) σ Q = if x = 0 then mb_Rn d 161 181 ls st σ Q else mb_Rn d 161 179 ls st σ Q := rn_ifb rfl (fun _ _ => rfl) beq_iff_eq
set_option maxRecDepth 20000 in
theorem sL_law_179 {d : Nat} {Q : mb_O → mb_S → Prop} {σ : mb_S} {st : List Value} {ls : mb_L} : mb_Rn d 161 179 ls st σ Q = mb_Rn d 161 180 ls (.int 0 :: st) σ Q := rn_step rfl (fun _ _ => rfl)
set_option maxRecDepth 20000 in
theorem sL_law_180 {d : Nat} {Q : mb_O → mb_S → Prop} {σ : mb_S}  {ls : mb_L} {x : Int32} : mb_Rn d 161 180 ls [.int x] σ Q = if x = 0 ∨ x = 1 then Q (.inl (some (.int x))) σ else False := rn_zret rfl
set_option maxRecDepth 20000 in
theorem sL_law_181 {d : Nat} {Q : mb_O → mb_S → Prop} {σ : mb_S} {st : List Value} {ls : mb_L} : mb_Rn d 161 181 ls st σ Q = mb_Rn d 161 1642 ls st σ Q := rn_step rfl (fun _ _ => rfl)
set_option maxRecDepth 20000 in
theorem sL_law_184 {d : Nat} {Q : mb_O → mb_S → Prop} {σ : mb_S} {st : List Value} {l0 l2 l3 l4 l5 l6 : Option Value} {a : Nat} : mb_Rn d 161 184 [l0, some (.ref a), l2, l3, l4, l5, l6] st σ Q = mb_Rn d 161 185 [l0, some (.ref a), l2, l3, l4, l5, l6] (.ref a :: st) σ Q := rn_step rfl (fun _ _ => rfl)
set_option maxRecDepth 20000 in
theorem sL_law_184n {d : Nat} {Q : mb_O → mb_S → Prop} {σ : mb_S} {st : List Value} {l0 l2 l3 l4 l5 l6 : Option Value} : mb_Rn d 161 184 [l0, some (.null), l2, l3, l4, l5, l6] st σ Q = mb_Rn d 161 185 [l0, some (.null), l2, l3, l4, l5, l6] (.null :: st) σ Q := rn_step rfl (fun _ _ => rfl)
set_option maxRecDepth 20000 in
theorem sL_law_185 {d : Nat} {Q : mb_O → mb_S → Prop} {σ : mb_S} {st : List Value} {l1 l2 l3 l4 l5 l6 : Option Value} {a : Nat} : mb_Rn d 161 185 [some (.ref a), l1, l2, l3, l4, l5, l6] st σ Q = mb_Rn d 161 186 [some (.ref a), l1, l2, l3, l4, l5, l6] (.ref a :: st) σ Q := rn_step rfl (fun _ _ => rfl)
set_option maxRecDepth 20000 in
theorem sL_law_185n {d : Nat} {Q : mb_O → mb_S → Prop} {σ : mb_S} {st : List Value} {l1 l2 l3 l4 l5 l6 : Option Value} : mb_Rn d 161 185 [some (.null), l1, l2, l3, l4, l5, l6] st σ Q = mb_Rn d 161 186 [some (.null), l1, l2, l3, l4, l5, l6] (.null :: st) σ Q := rn_step rfl (fun _ _ => rfl)
set_option maxRecDepth 20000 in
theorem sL_law_186 {d : Nat} {Q : mb_O → mb_S → Prop} {σ : mb_S} {st : List Value} {l0 l1 l2 l3 l5 l6 : Option Value} {x : Int32} : mb_Rn d 161 186 [l0, l1, l2, l3, some (.int x), l5, l6] st σ Q = mb_Rn d 161 188 [l0, l1, l2, l3, some (.int x), l5, l6] (.int x :: st) σ Q := rn_step rfl (fun _ _ => rfl)
set_option maxRecDepth 20000 in
theorem sL_law_188 {d : Nat} {Q : mb_O → mb_S → Prop} {σ : mb_S} {st : List Value} {ls : mb_L} : mb_Rn d 161 188 ls st σ Q = mb_Rn d 161 189 ls (.int 1 :: st) σ Q := rn_step rfl (fun _ _ => rfl)
set_option maxRecDepth 20000 in
theorem sL_law_189 {d : Nat} {Q : mb_O → mb_S → Prop} {σ : mb_S} {st : List Value} {ls : mb_L} {x z : Int32} : mb_Rn d 161 189 ls (.int z :: .int x :: st) σ Q = mb_Rn d 161 190 ls (.int (x + z) :: st) σ Q := rn_step rfl (fun _ _ => rfl)
set_option maxRecDepth 20000 in
theorem sL_law_190 {d : Nat} {Q : mb_O → mb_S → Prop} {σ : mb_S} {st : List Value} {ls : mb_L} {a : Nat} {j : Int32} : mb_Rn d 161 190 ls (.int j :: .ref a :: st) σ Q = mb_gi σ a j False (fun kd _ f => if kd = 0 ∨ kd = 9 then mb_Rn d 161 191 ls (.int (f j.toNatClampNeg) :: st) σ Q else False) := rn_iald rfl
set_option maxRecDepth 20000 in
theorem sL_law_191 {d : Nat} {Q : mb_O → mb_S → Prop} {σ : mb_S} {st : List Value} {l1 l2 l3 l4 l5 l6 : Option Value} {a : Nat} : mb_Rn d 161 191 [some (.ref a), l1, l2, l3, l4, l5, l6] st σ Q = mb_Rn d 161 192 [some (.ref a), l1, l2, l3, l4, l5, l6] (.ref a :: st) σ Q := rn_step rfl (fun _ _ => rfl)
set_option maxRecDepth 20000 in
theorem sL_law_191n {d : Nat} {Q : mb_O → mb_S → Prop} {σ : mb_S} {st : List Value} {l1 l2 l3 l4 l5 l6 : Option Value} : mb_Rn d 161 191 [some (.null), l1, l2, l3, l4, l5, l6] st σ Q = mb_Rn d 161 192 [some (.null), l1, l2, l3, l4, l5, l6] (.null :: st) σ Q := rn_step rfl (fun _ _ => rfl)
set_option maxRecDepth 20000 in
theorem sL_law_192 {d : Nat} {Q : mb_O → mb_S → Prop} {σ : mb_S} {st : List Value} {l0 l1 l2 l3 l5 l6 : Option Value} {x : Int32} : mb_Rn d 161 192 [l0, l1, l2, l3, some (.int x), l5, l6] st σ Q = mb_Rn d 161 194 [l0, l1, l2, l3, some (.int x), l5, l6] (.int x :: st) σ Q := rn_step rfl (fun _ _ => rfl)
set_option maxRecDepth 20000 in
theorem sL_law_194 {d : Nat} {Q : mb_O → mb_S → Prop} {σ : mb_S} {st : List Value} {ls : mb_L} : mb_Rn d 161 194 ls st σ Q = mb_Rn d 161 195 ls (.int 2 :: st) σ Q := rn_step rfl (fun _ _ => rfl)
set_option maxRecDepth 20000 in
theorem sL_law_195 {d : Nat} {Q : mb_O → mb_S → Prop} {σ : mb_S} {st : List Value} {ls : mb_L} {x z : Int32} : mb_Rn d 161 195 ls (.int z :: .int x :: st) σ Q = mb_Rn d 161 196 ls (.int (x + z) :: st) σ Q := rn_step rfl (fun _ _ => rfl)
set_option maxRecDepth 20000 in
theorem sL_law_196 {d : Nat} {Q : mb_O → mb_S → Prop} {σ : mb_S} {st : List Value} {ls : mb_L} {a : Nat} {j : Int32} : mb_Rn d 161 196 ls (.int j :: .ref a :: st) σ Q = mb_gi σ a j False (fun kd _ f => if kd = 0 ∨ kd = 9 then mb_Rn d 161 197 ls (.int (f j.toNatClampNeg) :: st) σ Q else False) := rn_iald rfl
set_option maxRecDepth 20000 in
theorem sL_law_197 {d : Nat} {Q : mb_O → mb_S → Prop} {σ : mb_S} {st : List Value} {l0 l1 l2 l4 l5 l6 : Option Value} {a : Nat} : mb_Rn d 161 197 [l0, l1, l2, some (.ref a), l4, l5, l6] st σ Q = mb_Rn d 161 198 [l0, l1, l2, some (.ref a), l4, l5, l6] (.ref a :: st) σ Q := rn_step rfl (fun _ _ => rfl)
set_option maxRecDepth 20000 in
theorem sL_law_197n {d : Nat} {Q : mb_O → mb_S → Prop} {σ : mb_S} {st : List Value} {l0 l1 l2 l4 l5 l6 : Option Value} : mb_Rn d 161 197 [l0, l1, l2, some (.null), l4, l5, l6] st σ Q = mb_Rn d 161 198 [l0, l1, l2, some (.null), l4, l5, l6] (.null :: st) σ Q := rn_step rfl (fun _ _ => rfl)
set_option maxRecDepth 20000 in
theorem sL_law_198 {d : Nat} {Q : mb_O → mb_S → Prop} {σ : mb_S} {st : List Value} {ls : mb_L} {p0 : Nat} {p1 : Int32} {p2 : Int32} {p3 : Nat} (hd : 1 ≤ d) (h4 : st.length ≤ 4) : mb_Rn d 161 198 ls (.ref p3 :: .int p2 :: .int p1 :: .ref p0 :: st) σ Q = mb_Ex (d - 1) 141 [.ref p0, .int p1, .int p2, .ref p3] σ (mb_qk d 161 201 ls st Q) := rn_calls mb_good rfl hd rfl rfl ⟨rfl, rfl⟩ h4 ⟨Nat.le_of_ble_eq_true rfl, rfl⟩
set_option maxRecDepth 20000 in
theorem sL_law_201 {d : Nat} {Q : mb_O → mb_S → Prop} {σ : mb_S} {st : List Value} {l0 l1 l2 l3 l4 l5 l6 : Option Value} {x : Int32} : mb_Rn d 161 201 [l0, l1, l2, l3, l4, l5, l6] (.int x :: st) σ Q = mb_Rn d 161 203 [l0, l1, l2, l3, l4, some (.int x), l6] st σ Q := rn_step rfl (fun _ _ => rfl)
set_option maxRecDepth 20000 in
theorem sL_law_203 {d : Nat} {Q : mb_O → mb_S → Prop} {σ : mb_S} {st : List Value} {l0 l1 l3 l4 l5 l6 : Option Value} {a : Nat} : mb_Rn d 161 203 [l0, l1, some (.ref a), l3, l4, l5, l6] st σ Q = mb_Rn d 161 204 [l0, l1, some (.ref a), l3, l4, l5, l6] (.ref a :: st) σ Q := rn_step rfl (fun _ _ => rfl)
set_option maxRecDepth 20000 in
theorem sL_law_203n {d : Nat} {Q : mb_O → mb_S → Prop} {σ : mb_S} {st : List Value} {l0 l1 l3 l4 l5 l6 : Option Value} : mb_Rn d 161 203 [l0, l1, some (.null), l3, l4, l5, l6] st σ Q = mb_Rn d 161 204 [l0, l1, some (.null), l3, l4, l5, l6] (.null :: st) σ Q := rn_step rfl (fun _ _ => rfl)
set_option maxRecDepth 20000 in
theorem sL_law_204 {d : Nat} {Q : mb_O → mb_S → Prop} {σ : mb_S} {st : List Value} {l1 l2 l3 l4 l5 l6 : Option Value} {a : Nat} : mb_Rn d 161 204 [some (.ref a), l1, l2, l3, l4, l5, l6] st σ Q = mb_Rn d 161 205 [some (.ref a), l1, l2, l3, l4, l5, l6] (.ref a :: st) σ Q := rn_step rfl (fun _ _ => rfl)
set_option maxRecDepth 20000 in
theorem sL_law_204n {d : Nat} {Q : mb_O → mb_S → Prop} {σ : mb_S} {st : List Value} {l1 l2 l3 l4 l5 l6 : Option Value} : mb_Rn d 161 204 [some (.null), l1, l2, l3, l4, l5, l6] st σ Q = mb_Rn d 161 205 [some (.null), l1, l2, l3, l4, l5, l6] (.null :: st) σ Q := rn_step rfl (fun _ _ => rfl)
set_option maxRecDepth 20000 in
theorem sL_law_205 {d : Nat} {Q : mb_O → mb_S → Prop} {σ : mb_S} {st : List Value} {l0 l1 l2 l3 l5 l6 : Option Value} {x : Int32} : mb_Rn d 161 205 [l0, l1, l2, l3, some (.int x), l5, l6] st σ Q = mb_Rn d 161 207 [l0, l1, l2, l3, some (.int x), l5, l6] (.int x :: st) σ Q := rn_step rfl (fun _ _ => rfl)
set_option maxRecDepth 20000 in
theorem sL_law_207 {d : Nat} {Q : mb_O → mb_S → Prop} {σ : mb_S} {st : List Value} {ls : mb_L} : mb_Rn d 161 207 ls st σ Q = mb_Rn d 161 208 ls (.int 1 :: st) σ Q := rn_step rfl (fun _ _ => rfl)
set_option maxRecDepth 20000 in
theorem sL_law_208 {d : Nat} {Q : mb_O → mb_S → Prop} {σ : mb_S} {st : List Value} {ls : mb_L} {x z : Int32} : mb_Rn d 161 208 ls (.int z :: .int x :: st) σ Q = mb_Rn d 161 209 ls (.int (x + z) :: st) σ Q := rn_step rfl (fun _ _ => rfl)
set_option maxRecDepth 20000 in
theorem sL_law_209 {d : Nat} {Q : mb_O → mb_S → Prop} {σ : mb_S} {st : List Value} {ls : mb_L} {a : Nat} {j : Int32} : mb_Rn d 161 209 ls (.int j :: .ref a :: st) σ Q = mb_gi σ a j False (fun kd _ f => if kd = 0 ∨ kd = 9 then mb_Rn d 161 210 ls (.int (f j.toNatClampNeg) :: st) σ Q else False) := rn_iald rfl
set_option maxRecDepth 20000 in
theorem sL_law_210 {d : Nat} {Q : mb_O → mb_S → Prop} {σ : mb_S} {st : List Value} {l1 l2 l3 l4 l5 l6 : Option Value} {a : Nat} : mb_Rn d 161 210 [some (.ref a), l1, l2, l3, l4, l5, l6] st σ Q = mb_Rn d 161 211 [some (.ref a), l1, l2, l3, l4, l5, l6] (.ref a :: st) σ Q := rn_step rfl (fun _ _ => rfl)
set_option maxRecDepth 20000 in
theorem sL_law_210n {d : Nat} {Q : mb_O → mb_S → Prop} {σ : mb_S} {st : List Value} {l1 l2 l3 l4 l5 l6 : Option Value} : mb_Rn d 161 210 [some (.null), l1, l2, l3, l4, l5, l6] st σ Q = mb_Rn d 161 211 [some (.null), l1, l2, l3, l4, l5, l6] (.null :: st) σ Q := rn_step rfl (fun _ _ => rfl)
set_option maxRecDepth 20000 in
theorem sL_law_211 {d : Nat} {Q : mb_O → mb_S → Prop} {σ : mb_S} {st : List Value} {l0 l1 l2 l3 l5 l6 : Option Value} {x : Int32} : mb_Rn d 161 211 [l0, l1, l2, l3, some (.int x), l5, l6] st σ Q = mb_Rn d 161 213 [l0, l1, l2, l3, some (.int x), l5, l6] (.int x :: st) σ Q := rn_step rfl (fun _ _ => rfl)
set_option maxRecDepth 20000 in
theorem sL_law_213 {d : Nat} {Q : mb_O → mb_S → Prop} {σ : mb_S} {st : List Value} {ls : mb_L} : mb_Rn d 161 213 ls st σ Q = mb_Rn d 161 214 ls (.int 2 :: st) σ Q := rn_step rfl (fun _ _ => rfl)
set_option maxRecDepth 20000 in
theorem sL_law_214 {d : Nat} {Q : mb_O → mb_S → Prop} {σ : mb_S} {st : List Value} {ls : mb_L} {x z : Int32} : mb_Rn d 161 214 ls (.int z :: .int x :: st) σ Q = mb_Rn d 161 215 ls (.int (x + z) :: st) σ Q := rn_step rfl (fun _ _ => rfl)
set_option maxRecDepth 20000 in
theorem sL_law_215 {d : Nat} {Q : mb_O → mb_S → Prop} {σ : mb_S} {st : List Value} {ls : mb_L} {a : Nat} {j : Int32} : mb_Rn d 161 215 ls (.int j :: .ref a :: st) σ Q = mb_gi σ a j False (fun kd _ f => if kd = 0 ∨ kd = 9 then mb_Rn d 161 216 ls (.int (f j.toNatClampNeg) :: st) σ Q else False) := rn_iald rfl
set_option maxRecDepth 20000 in
theorem sL_law_216 {d : Nat} {Q : mb_O → mb_S → Prop} {σ : mb_S} {st : List Value} {ls : mb_L} {p0 : Int32} {p1 : Int32} {b : Nat} (hd : 1 ≤ d) (h4 : st.length ≤ 4) : mb_Rn d 161 216 ls (.int p1 :: .int p0 :: .ref b :: st) σ Q = mb_gf σ b 8 False (fun _ => mb_Ex (d - 1) 100 [.ref b, .int p0, .int p1] σ (mb_qx [] d 161 219 ls st Q)) := rn_callv mb_good rfl hd rfl rfl ⟨rfl, rfl⟩ h4 ⟨Nat.le_of_ble_eq_true rfl, rfl⟩
set_option maxRecDepth 20000 in
theorem sL_law_219 {d : Nat} {Q : mb_O → mb_S → Prop} {σ : mb_S} {st : List Value} {l0 l1 l2 l3 l4 l5 l6 : Option Value} {x : Int32} : mb_Rn d 161 219 [l0, l1, l2, l3, l4, l5, l6] (.int x :: st) σ Q = mb_Rn d 161 221 [l0, l1, l2, l3, l4, l5, some (.int x)] st σ Q := rn_step rfl (fun _ _ => rfl)
set_option maxRecDepth 20000 in
theorem sL_law_221 {d : Nat} {Q : mb_O → mb_S → Prop} {σ : mb_S} {st : List Value} {l0 l1 l3 l4 l5 l6 : Option Value} {a : Nat} : mb_Rn d 161 221 [l0, l1, some (.ref a), l3, l4, l5, l6] st σ Q = mb_Rn d 161 222 [l0, l1, some (.ref a), l3, l4, l5, l6] (.ref a :: st) σ Q := rn_step rfl (fun _ _ => rfl)
set_option maxRecDepth 20000 in
theorem sL_law_221n {d : Nat} {Q : mb_O → mb_S → Prop} {σ : mb_S} {st : List Value} {l0 l1 l3 l4 l5 l6 : Option Value} : mb_Rn d 161 221 [l0, l1, some (.null), l3, l4, l5, l6] st σ Q = mb_Rn d 161 222 [l0, l1, some (.null), l3, l4, l5, l6] (.null :: st) σ Q := rn_step rfl (fun _ _ => rfl)
set_option maxRecDepth 20000 in
theorem sL_law_222 {d : Nat} {Q : mb_O → mb_S → Prop} {σ : mb_S} {st : List Value} {ls : mb_L} {b : Nat} (hd : 1 ≤ d) (h4 : st.length ≤ 4) : mb_Rn d 161 222 ls (.ref b :: st) σ Q = mb_gf σ b 8 False (fun _ => mb_Ex (d - 1) 85 [.ref b] σ (mb_qx [] d 161 225 ls st Q)) := rn_callv mb_good rfl hd rfl rfl ⟨rfl, rfl⟩ h4 ⟨Nat.le_of_ble_eq_true rfl, rfl⟩
set_option maxRecDepth 20000 in
theorem sL_law_225 {d : Nat} {Q : mb_O → mb_S → Prop} {σ : mb_S} {st : List Value} {l0 l1 l2 l3 l4 l6 : Option Value} {x : Int32} : mb_Rn d 161 225 [l0, l1, l2, l3, l4, some (.int x), l6] st σ Q = mb_Rn d 161 227 [l0, l1, l2, l3, l4, some (.int x), l6] (.int x :: st) σ Q := rn_step rfl (fun _ _ => rfl)
set_option maxRecDepth 20000 in
theorem sL_law_227 {d : Nat} {Q : mb_O → mb_S → Prop} {σ : mb_S} {st : List Value} {ls : mb_L} {x z : Int32} : mb_Rn d 161 227 ls (.int z :: .int x :: st) σ Q = if x = z then mb_Rn d 161 232 ls st σ Q else mb_Rn d 161 230 ls st σ Q := rn_ifb rfl (fun _ _ => rfl) beq_iff_eq
set_option maxRecDepth 20000 in
theorem sL_law_230 {d : Nat} {Q : mb_O → mb_S → Prop} {σ : mb_S} {st : List Value} {ls : mb_L} : mb_Rn d 161 230 ls st σ Q = mb_Rn d 161 231 ls (.int 0 :: st) σ Q := rn_step rfl (fun _ _ => rfl)
set_option maxRecDepth 20000 in
theorem sL_law_231 {d : Nat} {Q : mb_O → mb_S → Prop} {σ : mb_S}  {ls : mb_L} {x : Int32} : mb_Rn d 161 231 ls [.int x] σ Q = if x = 0 ∨ x = 1 then Q (.inl (some (.int x))) σ else False := rn_zret rfl
set_option maxRecDepth 20000 in
theorem sL_law_232 {d : Nat} {Q : mb_O → mb_S → Prop} {σ : mb_S} {st : List Value} {l0 l1 l2 l3 l4 l6 : Option Value} {x : Int32} : mb_Rn d 161 232 [l0, l1, l2, l3, l4, some (.int x), l6] st σ Q = mb_Rn d 161 234 [l0, l1, l2, l3, l4, some (.int x), l6] (.int x :: st) σ Q := rn_step rfl (fun _ _ => rfl)
set_option maxRecDepth 20000 in
theorem sL_law_234 {d : Nat} {Q : mb_O → mb_S → Prop} {σ : mb_S} {st : List Value} {ls : mb_L} {x : Int32} : mb_Rn d 161 234 ls (.int x :: st) σ Q = if x = 0 then mb_Rn d 161 237 ls st σ Q else mb_Rn d 161 249 ls st σ Q := rn_ifn rfl (fun _ _ => rfl) bne_iff_ne
set_option maxRecDepth 20000 in
theorem sL_law_237 {d : Nat} {Q : mb_O → mb_S → Prop} {σ : mb_S} {st : List Value} {l0 l1 l2 l4 l5 l6 : Option Value} {a : Nat} : mb_Rn d 161 237 [l0, l1, l2, some (.ref a), l4, l5, l6] st σ Q = mb_Rn d 161 238 [l0, l1, l2, some (.ref a), l4, l5, l6] (.ref a :: st) σ Q := rn_step rfl (fun _ _ => rfl)
set_option maxRecDepth 20000 in
theorem sL_law_237n {d : Nat} {Q : mb_O → mb_S → Prop} {σ : mb_S} {st : List Value} {l0 l1 l2 l4 l5 l6 : Option Value} : mb_Rn d 161 237 [l0, l1, l2, some (.null), l4, l5, l6] st σ Q = mb_Rn d 161 238 [l0, l1, l2, some (.null), l4, l5, l6] (.null :: st) σ Q := rn_step rfl (fun _ _ => rfl)
set_option maxRecDepth 20000 in
theorem sL_law_238 {d : Nat} {Q : mb_O → mb_S → Prop} {σ : mb_S} {st : List Value} {ls : mb_L} : mb_Rn d 161 238 ls st σ Q = mb_Rn d 161 239 ls (.int 0 :: st) σ Q := rn_step rfl (fun _ _ => rfl)
set_option maxRecDepth 20000 in
theorem sL_law_239 {d : Nat} {Q : mb_O → mb_S → Prop} {σ : mb_S} {st : List Value} {ls : mb_L} {a : Nat} {j : Int32} : mb_Rn d 161 239 ls (.int j :: .ref a :: st) σ Q = mb_gj σ a j False (fun kd _ f => if kd = 1 then mb_Rn d 161 240 ls (.long (f j.toNatClampNeg) :: st) σ Q else False) := rn_lald rfl
set_option maxRecDepth 20000 in
theorem sL_law_240 {d : Nat} {Q : mb_O → mb_S → Prop} {σ : mb_S} {st : List Value} {l0 l1 l2 l3 l4 l5 : Option Value} {x : Int32} : mb_Rn d 161 240 [l0, l1, l2, l3, l4, l5, some (.int x)] st σ Q = mb_Rn d 161 242 [l0, l1, l2, l3, l4, l5, some (.int x)] (.int x :: st) σ Q := rn_step rfl (fun _ _ => rfl)
set_option maxRecDepth 20000 in
theorem sL_law_242 {d : Nat} {Q : mb_O → mb_S → Prop} {σ : mb_S} {st : List Value} {ls : mb_L} {x : Int32} : mb_Rn d 161 242 ls (.int x :: st) σ Q = mb_Rn d 161 243 ls (.long x.toInt64 :: st) σ Q := rn_step rfl (fun _ _ => rfl)
set_option maxRecDepth 20000 in
theorem sL_law_243 {d : Nat} {Q : mb_O → mb_S → Prop} {σ : mb_S} {st : List Value} {ls : mb_L} {x z : Int64} : mb_Rn d 161 243 ls (.long z :: .long x :: st) σ Q = mb_Rn d 161 244 ls (.int (lg_cmp x z) :: st) σ Q := rn_step rfl (fun _ _ => rfl)
set_option maxRecDepth 20000 in
theorem sL_law_244 {d : Nat} {Q : mb_O → mb_S → Prop} {σ : mb_S} {st : List Value} {ls : mb_L} {x : Int32} : mb_Rn d 161 244 ls (.int x :: st) σ Q = if x = 0 then mb_Rn d 161 249 ls st σ Q else mb_Rn d 161 247 ls st σ Q := rn_ifb rfl (fun _ _ => rfl) beq_iff_eq
set_option maxRecDepth 20000 in
theorem sL_law_247 {d : Nat} {Q : mb_O → mb_S → Prop} {σ : mb_S} {st : List Value} {ls : mb_L} : mb_Rn d 161 247 ls st σ Q = mb_Rn d 161 248 ls (.int 0 :: st) σ Q := rn_step rfl (fun _ _ => rfl)
set_option maxRecDepth 20000 in
theorem sL_law_248 {d : Nat} {Q : mb_O → mb_S → Prop} {σ : mb_S}  {ls : mb_L} {x : Int32} : mb_Rn d 161 248 ls [.int x] σ Q = if x = 0 ∨ x = 1 then Q (.inl (some (.int x))) σ else False := rn_zret rfl
set_option maxRecDepth 20000 in
theorem sL_law_249 {d : Nat} {Q : mb_O → mb_S → Prop} {σ : mb_S} {st : List Value} {ls : mb_L} : mb_Rn d 161 249 ls st σ Q = mb_Rn d 161 1642 ls st σ Q := rn_step rfl (fun _ _ => rfl)
set_option maxRecDepth 20000 in
theorem sL_law_252 {d : Nat} {Q : mb_O → mb_S → Prop} {σ : mb_S} {st : List Value} {l0 l2 l3 l4 l5 l6 : Option Value} {a : Nat} : mb_Rn d 161 252 [l0, some (.ref a), l2, l3, l4, l5, l6] st σ Q = mb_Rn d 161 253 [l0, some (.ref a), l2, l3, l4, l5, l6] (.ref a :: st) σ Q := rn_step rfl (fun _ _ => rfl)
set_option maxRecDepth 20000 in
theorem sL_law_252n {d : Nat} {Q : mb_O → mb_S → Prop} {σ : mb_S} {st : List Value} {l0 l2 l3 l4 l5 l6 : Option Value} : mb_Rn d 161 252 [l0, some (.null), l2, l3, l4, l5, l6] st σ Q = mb_Rn d 161 253 [l0, some (.null), l2, l3, l4, l5, l6] (.null :: st) σ Q := rn_step rfl (fun _ _ => rfl)
set_option maxRecDepth 20000 in
theorem sL_law_253 {d : Nat} {Q : mb_O → mb_S → Prop} {σ : mb_S} {st : List Value} {l1 l2 l3 l4 l5 l6 : Option Value} {a : Nat} : mb_Rn d 161 253 [some (.ref a), l1, l2, l3, l4, l5, l6] st σ Q = mb_Rn d 161 254 [some (.ref a), l1, l2, l3, l4, l5, l6] (.ref a :: st) σ Q := rn_step rfl (fun _ _ => rfl)
set_option maxRecDepth 20000 in
theorem sL_law_253n {d : Nat} {Q : mb_O → mb_S → Prop} {σ : mb_S} {st : List Value} {l1 l2 l3 l4 l5 l6 : Option Value} : mb_Rn d 161 253 [some (.null), l1, l2, l3, l4, l5, l6] st σ Q = mb_Rn d 161 254 [some (.null), l1, l2, l3, l4, l5, l6] (.null :: st) σ Q := rn_step rfl (fun _ _ => rfl)
set_option maxRecDepth 20000 in
theorem sL_law_254 {d : Nat} {Q : mb_O → mb_S → Prop} {σ : mb_S} {st : List Value} {l0 l1 l2 l3 l5 l6 : Option Value} {x : Int32} : mb_Rn d 161 254 [l0, l1, l2, l3, some (.int x), l5, l6] st σ Q = mb_Rn d 161 256 [l0, l1, l2, l3, some (.int x), l5, l6] (.int x :: st) σ Q := rn_step rfl (fun _ _ => rfl)
set_option maxRecDepth 20000 in
theorem sL_law_256 {d : Nat} {Q : mb_O → mb_S → Prop} {σ : mb_S} {st : List Value} {ls : mb_L} : mb_Rn d 161 256 ls st σ Q = mb_Rn d 161 257 ls (.int 1 :: st) σ Q := rn_step rfl (fun _ _ => rfl)
set_option maxRecDepth 20000 in
theorem sL_law_257 {d : Nat} {Q : mb_O → mb_S → Prop} {σ : mb_S} {st : List Value} {ls : mb_L} {x z : Int32} : mb_Rn d 161 257 ls (.int z :: .int x :: st) σ Q = mb_Rn d 161 258 ls (.int (x + z) :: st) σ Q := rn_step rfl (fun _ _ => rfl)
set_option maxRecDepth 20000 in
theorem sL_law_258 {d : Nat} {Q : mb_O → mb_S → Prop} {σ : mb_S} {st : List Value} {ls : mb_L} {a : Nat} {j : Int32} : mb_Rn d 161 258 ls (.int j :: .ref a :: st) σ Q = mb_gi σ a j False (fun kd _ f => if kd = 0 ∨ kd = 9 then mb_Rn d 161 259 ls (.int (f j.toNatClampNeg) :: st) σ Q else False) := rn_iald rfl
set_option maxRecDepth 20000 in
theorem sL_law_259 {d : Nat} {Q : mb_O → mb_S → Prop} {σ : mb_S} {st : List Value} {l1 l2 l3 l4 l5 l6 : Option Value} {a : Nat} : mb_Rn d 161 259 [some (.ref a), l1, l2, l3, l4, l5, l6] st σ Q = mb_Rn d 161 260 [some (.ref a), l1, l2, l3, l4, l5, l6] (.ref a :: st) σ Q := rn_step rfl (fun _ _ => rfl)
set_option maxRecDepth 20000 in
theorem sL_law_259n {d : Nat} {Q : mb_O → mb_S → Prop} {σ : mb_S} {st : List Value} {l1 l2 l3 l4 l5 l6 : Option Value} : mb_Rn d 161 259 [some (.null), l1, l2, l3, l4, l5, l6] st σ Q = mb_Rn d 161 260 [some (.null), l1, l2, l3, l4, l5, l6] (.null :: st) σ Q := rn_step rfl (fun _ _ => rfl)
set_option maxRecDepth 20000 in
theorem sL_law_260 {d : Nat} {Q : mb_O → mb_S → Prop} {σ : mb_S} {st : List Value} {l0 l1 l2 l3 l5 l6 : Option Value} {x : Int32} : mb_Rn d 161 260 [l0, l1, l2, l3, some (.int x), l5, l6] st σ Q = mb_Rn d 161 262 [l0, l1, l2, l3, some (.int x), l5, l6] (.int x :: st) σ Q := rn_step rfl (fun _ _ => rfl)
set_option maxRecDepth 20000 in
theorem sL_law_262 {d : Nat} {Q : mb_O → mb_S → Prop} {σ : mb_S} {st : List Value} {ls : mb_L} : mb_Rn d 161 262 ls st σ Q = mb_Rn d 161 263 ls (.int 2 :: st) σ Q := rn_step rfl (fun _ _ => rfl)
set_option maxRecDepth 20000 in
theorem sL_law_263 {d : Nat} {Q : mb_O → mb_S → Prop} {σ : mb_S} {st : List Value} {ls : mb_L} {x z : Int32} : mb_Rn d 161 263 ls (.int z :: .int x :: st) σ Q = mb_Rn d 161 264 ls (.int (x + z) :: st) σ Q := rn_step rfl (fun _ _ => rfl)
set_option maxRecDepth 20000 in
theorem sL_law_264 {d : Nat} {Q : mb_O → mb_S → Prop} {σ : mb_S} {st : List Value} {ls : mb_L} {a : Nat} {j : Int32} : mb_Rn d 161 264 ls (.int j :: .ref a :: st) σ Q = mb_gi σ a j False (fun kd _ f => if kd = 0 ∨ kd = 9 then mb_Rn d 161 265 ls (.int (f j.toNatClampNeg) :: st) σ Q else False) := rn_iald rfl
set_option maxRecDepth 20000 in
theorem sL_law_265 {d : Nat} {Q : mb_O → mb_S → Prop} {σ : mb_S} {st : List Value} {l1 l2 l3 l4 l5 l6 : Option Value} {a : Nat} : mb_Rn d 161 265 [some (.ref a), l1, l2, l3, l4, l5, l6] st σ Q = mb_Rn d 161 266 [some (.ref a), l1, l2, l3, l4, l5, l6] (.ref a :: st) σ Q := rn_step rfl (fun _ _ => rfl)
set_option maxRecDepth 20000 in
theorem sL_law_265n {d : Nat} {Q : mb_O → mb_S → Prop} {σ : mb_S} {st : List Value} {l1 l2 l3 l4 l5 l6 : Option Value} : mb_Rn d 161 265 [some (.null), l1, l2, l3, l4, l5, l6] st σ Q = mb_Rn d 161 266 [some (.null), l1, l2, l3, l4, l5, l6] (.null :: st) σ Q := rn_step rfl (fun _ _ => rfl)
set_option maxRecDepth 20000 in
theorem sL_law_266 {d : Nat} {Q : mb_O → mb_S → Prop} {σ : mb_S} {st : List Value} {l0 l1 l2 l3 l5 l6 : Option Value} {x : Int32} : mb_Rn d 161 266 [l0, l1, l2, l3, some (.int x), l5, l6] st σ Q = mb_Rn d 161 268 [l0, l1, l2, l3, some (.int x), l5, l6] (.int x :: st) σ Q := rn_step rfl (fun _ _ => rfl)
set_option maxRecDepth 20000 in
theorem sL_law_268 {d : Nat} {Q : mb_O → mb_S → Prop} {σ : mb_S} {st : List Value} {ls : mb_L} : mb_Rn d 161 268 ls st σ Q = mb_Rn d 161 269 ls (.int 3 :: st) σ Q := rn_step rfl (fun _ _ => rfl)
set_option maxRecDepth 20000 in
theorem sL_law_269 {d : Nat} {Q : mb_O → mb_S → Prop} {σ : mb_S} {st : List Value} {ls : mb_L} {x z : Int32} : mb_Rn d 161 269 ls (.int z :: .int x :: st) σ Q = mb_Rn d 161 270 ls (.int (x + z) :: st) σ Q := rn_step rfl (fun _ _ => rfl)
set_option maxRecDepth 20000 in
theorem sL_law_270 {d : Nat} {Q : mb_O → mb_S → Prop} {σ : mb_S} {st : List Value} {ls : mb_L} {a : Nat} {j : Int32} : mb_Rn d 161 270 ls (.int j :: .ref a :: st) σ Q = mb_gi σ a j False (fun kd _ f => if kd = 0 ∨ kd = 9 then mb_Rn d 161 271 ls (.int (f j.toNatClampNeg) :: st) σ Q else False) := rn_iald rfl
set_option maxRecDepth 20000 in
theorem sL_law_271 {d : Nat} {Q : mb_O → mb_S → Prop} {σ : mb_S} {st : List Value} {l1 l2 l3 l4 l5 l6 : Option Value} {a : Nat} : mb_Rn d 161 271 [some (.ref a), l1, l2, l3, l4, l5, l6] st σ Q = mb_Rn d 161 272 [some (.ref a), l1, l2, l3, l4, l5, l6] (.ref a :: st) σ Q := rn_step rfl (fun _ _ => rfl)
set_option maxRecDepth 20000 in
theorem sL_law_271n {d : Nat} {Q : mb_O → mb_S → Prop} {σ : mb_S} {st : List Value} {l1 l2 l3 l4 l5 l6 : Option Value} : mb_Rn d 161 271 [some (.null), l1, l2, l3, l4, l5, l6] st σ Q = mb_Rn d 161 272 [some (.null), l1, l2, l3, l4, l5, l6] (.null :: st) σ Q := rn_step rfl (fun _ _ => rfl)
set_option maxRecDepth 20000 in
theorem sL_law_272 {d : Nat} {Q : mb_O → mb_S → Prop} {σ : mb_S} {st : List Value} {l0 l1 l2 l3 l5 l6 : Option Value} {x : Int32} : mb_Rn d 161 272 [l0, l1, l2, l3, some (.int x), l5, l6] st σ Q = mb_Rn d 161 274 [l0, l1, l2, l3, some (.int x), l5, l6] (.int x :: st) σ Q := rn_step rfl (fun _ _ => rfl)
set_option maxRecDepth 20000 in
theorem sL_law_274 {d : Nat} {Q : mb_O → mb_S → Prop} {σ : mb_S} {st : List Value} {ls : mb_L} : mb_Rn d 161 274 ls st σ Q = mb_Rn d 161 275 ls (.int 4 :: st) σ Q := rn_step rfl (fun _ _ => rfl)
set_option maxRecDepth 20000 in
theorem sL_law_275 {d : Nat} {Q : mb_O → mb_S → Prop} {σ : mb_S} {st : List Value} {ls : mb_L} {x z : Int32} : mb_Rn d 161 275 ls (.int z :: .int x :: st) σ Q = mb_Rn d 161 276 ls (.int (x + z) :: st) σ Q := rn_step rfl (fun _ _ => rfl)
set_option maxRecDepth 20000 in
theorem sL_law_276 {d : Nat} {Q : mb_O → mb_S → Prop} {σ : mb_S} {st : List Value} {ls : mb_L} {a : Nat} {j : Int32} : mb_Rn d 161 276 ls (.int j :: .ref a :: st) σ Q = mb_gi σ a j False (fun kd _ f => if kd = 0 ∨ kd = 9 then mb_Rn d 161 277 ls (.int (f j.toNatClampNeg) :: st) σ Q else False) := rn_iald rfl
set_option maxRecDepth 20000 in
theorem sL_law_277 {d : Nat} {Q : mb_O → mb_S → Prop} {σ : mb_S} {st : List Value} {l1 l2 l3 l4 l5 l6 : Option Value} {a : Nat} : mb_Rn d 161 277 [some (.ref a), l1, l2, l3, l4, l5, l6] st σ Q = mb_Rn d 161 278 [some (.ref a), l1, l2, l3, l4, l5, l6] (.ref a :: st) σ Q := rn_step rfl (fun _ _ => rfl)
set_option maxRecDepth 20000 in
theorem sL_law_277n {d : Nat} {Q : mb_O → mb_S → Prop} {σ : mb_S} {st : List Value} {l1 l2 l3 l4 l5 l6 : Option Value} : mb_Rn d 161 277 [some (.null), l1, l2, l3, l4, l5, l6] st σ Q = mb_Rn d 161 278 [some (.null), l1, l2, l3, l4, l5, l6] (.null :: st) σ Q := rn_step rfl (fun _ _ => rfl)
set_option maxRecDepth 20000 in
theorem sL_law_278 {d : Nat} {Q : mb_O → mb_S → Prop} {σ : mb_S} {st : List Value} {l0 l1 l2 l3 l5 l6 : Option Value} {x : Int32} : mb_Rn d 161 278 [l0, l1, l2, l3, some (.int x), l5, l6] st σ Q = mb_Rn d 161 280 [l0, l1, l2, l3, some (.int x), l5, l6] (.int x :: st) σ Q := rn_step rfl (fun _ _ => rfl)
set_option maxRecDepth 20000 in
theorem sL_law_280 {d : Nat} {Q : mb_O → mb_S → Prop} {σ : mb_S} {st : List Value} {ls : mb_L} : mb_Rn d 161 280 ls st σ Q = mb_Rn d 161 281 ls (.int 5 :: st) σ Q := rn_step rfl (fun _ _ => rfl)
set_option maxRecDepth 20000 in
theorem sL_law_281 {d : Nat} {Q : mb_O → mb_S → Prop} {σ : mb_S} {st : List Value} {ls : mb_L} {x z : Int32} : mb_Rn d 161 281 ls (.int z :: .int x :: st) σ Q = mb_Rn d 161 282 ls (.int (x + z) :: st) σ Q := rn_step rfl (fun _ _ => rfl)
set_option maxRecDepth 20000 in
theorem sL_law_282 {d : Nat} {Q : mb_O → mb_S → Prop} {σ : mb_S} {st : List Value} {ls : mb_L} {a : Nat} {j : Int32} : mb_Rn d 161 282 ls (.int j :: .ref a :: st) σ Q = mb_gi σ a j False (fun kd _ f => if kd = 0 ∨ kd = 9 then mb_Rn d 161 283 ls (.int (f j.toNatClampNeg) :: st) σ Q else False) := rn_iald rfl
set_option maxRecDepth 20000 in
theorem sL_law_283 {d : Nat} {Q : mb_O → mb_S → Prop} {σ : mb_S} {st : List Value} {l0 l1 l2 l4 l5 l6 : Option Value} {a : Nat} : mb_Rn d 161 283 [l0, l1, l2, some (.ref a), l4, l5, l6] st σ Q = mb_Rn d 161 284 [l0, l1, l2, some (.ref a), l4, l5, l6] (.ref a :: st) σ Q := rn_step rfl (fun _ _ => rfl)
set_option maxRecDepth 20000 in
theorem sL_law_283n {d : Nat} {Q : mb_O → mb_S → Prop} {σ : mb_S} {st : List Value} {l0 l1 l2 l4 l5 l6 : Option Value} : mb_Rn d 161 283 [l0, l1, l2, some (.null), l4, l5, l6] st σ Q = mb_Rn d 161 284 [l0, l1, l2, some (.null), l4, l5, l6] (.null :: st) σ Q := rn_step rfl (fun _ _ => rfl)
set_option maxRecDepth 20000 in
theorem sL_law_284 {d : Nat} {Q : mb_O → mb_S → Prop} {σ : mb_S} {st : List Value} {ls : mb_L} {p0 : Nat} {p1 : Int32} {p2 : Int32} {p3 : Int32} {p4 : Int32} {p5 : Int32} {p6 : Nat} (hd : 1 ≤ d) (h4 : st.length ≤ 4) : mb_Rn d 161 284 ls (.ref p6 :: .int p5 :: .int p4 :: .int p3 :: .int p2 :: .int p1 :: .ref p0 :: st) σ Q = mb_Ex (d - 1) 142 [.ref p0, .int p1, .int p2, .int p3, .int p4, .int p5, .ref p6] σ (mb_qk d 161 287 ls st Q) := rn_calls mb_good rfl hd rfl rfl ⟨rfl, rfl⟩ h4 ⟨Nat.le_of_ble_eq_true rfl, rfl⟩
set_option maxRecDepth 20000 in
theorem sL_law_287 {d : Nat} {Q : mb_O → mb_S → Prop} {σ : mb_S} {st : List Value} {l0 l1 l2 l3 l4 l5 l6 : Option Value} {x : Int32} : mb_Rn d 161 287 [l0, l1, l2, l3, l4, l5, l6] (.int x :: st) σ Q = mb_Rn d 161 289 [l0, l1, l2, l3, l4, some (.int x), l6] st σ Q := rn_step rfl (fun _ _ => rfl)
set_option maxRecDepth 20000 in
theorem sL_law_289 {d : Nat} {Q : mb_O → mb_S → Prop} {σ : mb_S} {st : List Value} {l0 l1 l3 l4 l5 l6 : Option Value} {a : Nat} : mb_Rn d 161 289 [l0, l1, some (.ref a), l3, l4, l5, l6] st σ Q = mb_Rn d 161 290 [l0, l1, some (.ref a), l3, l4, l5, l6] (.ref a :: st) σ Q := rn_step rfl (fun _ _ => rfl)
set_option maxRecDepth 20000 in
theorem sL_law_289n {d : Nat} {Q : mb_O → mb_S → Prop} {σ : mb_S} {st : List Value} {l0 l1 l3 l4 l5 l6 : Option Value} : mb_Rn d 161 289 [l0, l1, some (.null), l3, l4, l5, l6] st σ Q = mb_Rn d 161 290 [l0, l1, some (.null), l3, l4, l5, l6] (.null :: st) σ Q := rn_step rfl (fun _ _ => rfl)
set_option maxRecDepth 20000 in
theorem sL_law_290 {d : Nat} {Q : mb_O → mb_S → Prop} {σ : mb_S} {st : List Value} {l1 l2 l3 l4 l5 l6 : Option Value} {a : Nat} : mb_Rn d 161 290 [some (.ref a), l1, l2, l3, l4, l5, l6] st σ Q = mb_Rn d 161 291 [some (.ref a), l1, l2, l3, l4, l5, l6] (.ref a :: st) σ Q := rn_step rfl (fun _ _ => rfl)
set_option maxRecDepth 20000 in
theorem sL_law_290n {d : Nat} {Q : mb_O → mb_S → Prop} {σ : mb_S} {st : List Value} {l1 l2 l3 l4 l5 l6 : Option Value} : mb_Rn d 161 290 [some (.null), l1, l2, l3, l4, l5, l6] st σ Q = mb_Rn d 161 291 [some (.null), l1, l2, l3, l4, l5, l6] (.null :: st) σ Q := rn_step rfl (fun _ _ => rfl)
set_option maxRecDepth 20000 in
theorem sL_law_291 {d : Nat} {Q : mb_O → mb_S → Prop} {σ : mb_S} {st : List Value} {l0 l1 l2 l3 l5 l6 : Option Value} {x : Int32} : mb_Rn d 161 291 [l0, l1, l2, l3, some (.int x), l5, l6] st σ Q = mb_Rn d 161 293 [l0, l1, l2, l3, some (.int x), l5, l6] (.int x :: st) σ Q := rn_step rfl (fun _ _ => rfl)
set_option maxRecDepth 20000 in
theorem sL_law_293 {d : Nat} {Q : mb_O → mb_S → Prop} {σ : mb_S} {st : List Value} {ls : mb_L} : mb_Rn d 161 293 ls st σ Q = mb_Rn d 161 294 ls (.int 1 :: st) σ Q := rn_step rfl (fun _ _ => rfl)
set_option maxRecDepth 20000 in
theorem sL_law_294 {d : Nat} {Q : mb_O → mb_S → Prop} {σ : mb_S} {st : List Value} {ls : mb_L} {x z : Int32} : mb_Rn d 161 294 ls (.int z :: .int x :: st) σ Q = mb_Rn d 161 295 ls (.int (x + z) :: st) σ Q := rn_step rfl (fun _ _ => rfl)
set_option maxRecDepth 20000 in
theorem sL_law_295 {d : Nat} {Q : mb_O → mb_S → Prop} {σ : mb_S} {st : List Value} {ls : mb_L} {a : Nat} {j : Int32} : mb_Rn d 161 295 ls (.int j :: .ref a :: st) σ Q = mb_gi σ a j False (fun kd _ f => if kd = 0 ∨ kd = 9 then mb_Rn d 161 296 ls (.int (f j.toNatClampNeg) :: st) σ Q else False) := rn_iald rfl
set_option maxRecDepth 20000 in
theorem sL_law_296 {d : Nat} {Q : mb_O → mb_S → Prop} {σ : mb_S} {st : List Value} {l1 l2 l3 l4 l5 l6 : Option Value} {a : Nat} : mb_Rn d 161 296 [some (.ref a), l1, l2, l3, l4, l5, l6] st σ Q = mb_Rn d 161 297 [some (.ref a), l1, l2, l3, l4, l5, l6] (.ref a :: st) σ Q := rn_step rfl (fun _ _ => rfl)
set_option maxRecDepth 20000 in
theorem sL_law_296n {d : Nat} {Q : mb_O → mb_S → Prop} {σ : mb_S} {st : List Value} {l1 l2 l3 l4 l5 l6 : Option Value} : mb_Rn d 161 296 [some (.null), l1, l2, l3, l4, l5, l6] st σ Q = mb_Rn d 161 297 [some (.null), l1, l2, l3, l4, l5, l6] (.null :: st) σ Q := rn_step rfl (fun _ _ => rfl)
set_option maxRecDepth 20000 in
theorem sL_law_297 {d : Nat} {Q : mb_O → mb_S → Prop} {σ : mb_S} {st : List Value} {l0 l1 l2 l3 l5 l6 : Option Value} {x : Int32} : mb_Rn d 161 297 [l0, l1, l2, l3, some (.int x), l5, l6] st σ Q = mb_Rn d 161 299 [l0, l1, l2, l3, some (.int x), l5, l6] (.int x :: st) σ Q := rn_step rfl (fun _ _ => rfl)
set_option maxRecDepth 20000 in
theorem sL_law_299 {d : Nat} {Q : mb_O → mb_S → Prop} {σ : mb_S} {st : List Value} {ls : mb_L} : mb_Rn d 161 299 ls st σ Q = mb_Rn d 161 300 ls (.int 2 :: st) σ Q := rn_step rfl (fun _ _ => rfl)
set_option maxRecDepth 20000 in
theorem sL_law_300 {d : Nat} {Q : mb_O → mb_S → Prop} {σ : mb_S} {st : List Value} {ls : mb_L} {x z : Int32} : mb_Rn d 161 300 ls (.int z :: .int x :: st) σ Q = mb_Rn d 161 301 ls (.int (x + z) :: st) σ Q := rn_step rfl (fun _ _ => rfl)
set_option maxRecDepth 20000 in
theorem sL_law_301 {d : Nat} {Q : mb_O → mb_S → Prop} {σ : mb_S} {st : List Value} {ls : mb_L} {a : Nat} {j : Int32} : mb_Rn d 161 301 ls (.int j :: .ref a :: st) σ Q = mb_gi σ a j False (fun kd _ f => if kd = 0 ∨ kd = 9 then mb_Rn d 161 302 ls (.int (f j.toNatClampNeg) :: st) σ Q else False) := rn_iald rfl
set_option maxRecDepth 20000 in
theorem sL_law_302 {d : Nat} {Q : mb_O → mb_S → Prop} {σ : mb_S} {st : List Value} {l1 l2 l3 l4 l5 l6 : Option Value} {a : Nat} : mb_Rn d 161 302 [some (.ref a), l1, l2, l3, l4, l5, l6] st σ Q = mb_Rn d 161 303 [some (.ref a), l1, l2, l3, l4, l5, l6] (.ref a :: st) σ Q := rn_step rfl (fun _ _ => rfl)
set_option maxRecDepth 20000 in
theorem sL_law_302n {d : Nat} {Q : mb_O → mb_S → Prop} {σ : mb_S} {st : List Value} {l1 l2 l3 l4 l5 l6 : Option Value} : mb_Rn d 161 302 [some (.null), l1, l2, l3, l4, l5, l6] st σ Q = mb_Rn d 161 303 [some (.null), l1, l2, l3, l4, l5, l6] (.null :: st) σ Q := rn_step rfl (fun _ _ => rfl)
set_option maxRecDepth 20000 in
theorem sL_law_303 {d : Nat} {Q : mb_O → mb_S → Prop} {σ : mb_S} {st : List Value} {l0 l1 l2 l3 l5 l6 : Option Value} {x : Int32} : mb_Rn d 161 303 [l0, l1, l2, l3, some (.int x), l5, l6] st σ Q = mb_Rn d 161 305 [l0, l1, l2, l3, some (.int x), l5, l6] (.int x :: st) σ Q := rn_step rfl (fun _ _ => rfl)
set_option maxRecDepth 20000 in
theorem sL_law_305 {d : Nat} {Q : mb_O → mb_S → Prop} {σ : mb_S} {st : List Value} {ls : mb_L} : mb_Rn d 161 305 ls st σ Q = mb_Rn d 161 306 ls (.int 3 :: st) σ Q := rn_step rfl (fun _ _ => rfl)
set_option maxRecDepth 20000 in
theorem sL_law_306 {d : Nat} {Q : mb_O → mb_S → Prop} {σ : mb_S} {st : List Value} {ls : mb_L} {x z : Int32} : mb_Rn d 161 306 ls (.int z :: .int x :: st) σ Q = mb_Rn d 161 307 ls (.int (x + z) :: st) σ Q := rn_step rfl (fun _ _ => rfl)
set_option maxRecDepth 20000 in
theorem sL_law_307 {d : Nat} {Q : mb_O → mb_S → Prop} {σ : mb_S} {st : List Value} {ls : mb_L} {a : Nat} {j : Int32} : mb_Rn d 161 307 ls (.int j :: .ref a :: st) σ Q = mb_gi σ a j False (fun kd _ f => if kd = 0 ∨ kd = 9 then mb_Rn d 161 308 ls (.int (f j.toNatClampNeg) :: st) σ Q else False) := rn_iald rfl
set_option maxRecDepth 20000 in
theorem sL_law_308 {d : Nat} {Q : mb_O → mb_S → Prop} {σ : mb_S} {st : List Value} {l1 l2 l3 l4 l5 l6 : Option Value} {a : Nat} : mb_Rn d 161 308 [some (.ref a), l1, l2, l3, l4, l5, l6] st σ Q = mb_Rn d 161 309 [some (.ref a), l1, l2, l3, l4, l5, l6] (.ref a :: st) σ Q := rn_step rfl (fun _ _ => rfl)
set_option maxRecDepth 20000 in
theorem sL_law_308n {d : Nat} {Q : mb_O → mb_S → Prop} {σ : mb_S} {st : List Value} {l1 l2 l3 l4 l5 l6 : Option Value} : mb_Rn d 161 308 [some (.null), l1, l2, l3, l4, l5, l6] st σ Q = mb_Rn d 161 309 [some (.null), l1, l2, l3, l4, l5, l6] (.null :: st) σ Q := rn_step rfl (fun _ _ => rfl)
set_option maxRecDepth 20000 in
theorem sL_law_309 {d : Nat} {Q : mb_O → mb_S → Prop} {σ : mb_S} {st : List Value} {l0 l1 l2 l3 l5 l6 : Option Value} {x : Int32} : mb_Rn d 161 309 [l0, l1, l2, l3, some (.int x), l5, l6] st σ Q = mb_Rn d 161 311 [l0, l1, l2, l3, some (.int x), l5, l6] (.int x :: st) σ Q := rn_step rfl (fun _ _ => rfl)
set_option maxRecDepth 20000 in
theorem sL_law_311 {d : Nat} {Q : mb_O → mb_S → Prop} {σ : mb_S} {st : List Value} {ls : mb_L} : mb_Rn d 161 311 ls st σ Q = mb_Rn d 161 312 ls (.int 4 :: st) σ Q := rn_step rfl (fun _ _ => rfl)
set_option maxRecDepth 20000 in
theorem sL_law_312 {d : Nat} {Q : mb_O → mb_S → Prop} {σ : mb_S} {st : List Value} {ls : mb_L} {x z : Int32} : mb_Rn d 161 312 ls (.int z :: .int x :: st) σ Q = mb_Rn d 161 313 ls (.int (x + z) :: st) σ Q := rn_step rfl (fun _ _ => rfl)
set_option maxRecDepth 20000 in
theorem sL_law_313 {d : Nat} {Q : mb_O → mb_S → Prop} {σ : mb_S} {st : List Value} {ls : mb_L} {a : Nat} {j : Int32} : mb_Rn d 161 313 ls (.int j :: .ref a :: st) σ Q = mb_gi σ a j False (fun kd _ f => if kd = 0 ∨ kd = 9 then mb_Rn d 161 314 ls (.int (f j.toNatClampNeg) :: st) σ Q else False) := rn_iald rfl
set_option maxRecDepth 20000 in
theorem sL_law_314 {d : Nat} {Q : mb_O → mb_S → Prop} {σ : mb_S} {st : List Value} {l1 l2 l3 l4 l5 l6 : Option Value} {a : Nat} : mb_Rn d 161 314 [some (.ref a), l1, l2, l3, l4, l5, l6] st σ Q = mb_Rn d 161 315 [some (.ref a), l1, l2, l3, l4, l5, l6] (.ref a :: st) σ Q := rn_step rfl (fun _ _ => rfl)
set_option maxRecDepth 20000 in
theorem sL_law_314n {d : Nat} {Q : mb_O → mb_S → Prop} {σ : mb_S} {st : List Value} {l1 l2 l3 l4 l5 l6 : Option Value} : mb_Rn d 161 314 [some (.null), l1, l2, l3, l4, l5, l6] st σ Q = mb_Rn d 161 315 [some (.null), l1, l2, l3, l4, l5, l6] (.null :: st) σ Q := rn_step rfl (fun _ _ => rfl)
set_option maxRecDepth 20000 in
theorem sL_law_315 {d : Nat} {Q : mb_O → mb_S → Prop} {σ : mb_S} {st : List Value} {l0 l1 l2 l3 l5 l6 : Option Value} {x : Int32} : mb_Rn d 161 315 [l0, l1, l2, l3, some (.int x), l5, l6] st σ Q = mb_Rn d 161 317 [l0, l1, l2, l3, some (.int x), l5, l6] (.int x :: st) σ Q := rn_step rfl (fun _ _ => rfl)
set_option maxRecDepth 20000 in
theorem sL_law_317 {d : Nat} {Q : mb_O → mb_S → Prop} {σ : mb_S} {st : List Value} {ls : mb_L} : mb_Rn d 161 317 ls st σ Q = mb_Rn d 161 318 ls (.int 5 :: st) σ Q := rn_step rfl (fun _ _ => rfl)
set_option maxRecDepth 20000 in
theorem sL_law_318 {d : Nat} {Q : mb_O → mb_S → Prop} {σ : mb_S} {st : List Value} {ls : mb_L} {x z : Int32} : mb_Rn d 161 318 ls (.int z :: .int x :: st) σ Q = mb_Rn d 161 319 ls (.int (x + z) :: st) σ Q := rn_step rfl (fun _ _ => rfl)
set_option maxRecDepth 20000 in
theorem sL_law_319 {d : Nat} {Q : mb_O → mb_S → Prop} {σ : mb_S} {st : List Value} {ls : mb_L} {a : Nat} {j : Int32} : mb_Rn d 161 319 ls (.int j :: .ref a :: st) σ Q = mb_gi σ a j False (fun kd _ f => if kd = 0 ∨ kd = 9 then mb_Rn d 161 320 ls (.int (f j.toNatClampNeg) :: st) σ Q else False) := rn_iald rfl
set_option maxRecDepth 20000 in
theorem sL_law_320 {d : Nat} {Q : mb_O → mb_S → Prop} {σ : mb_S} {st : List Value} {ls : mb_L} {p0 : Int32} {p1 : Int32} {p2 : Int32} {p3 : Int32} {p4 : Int32} {b : Nat} (hd : 1 ≤ d) (h4 : st.length ≤ 4) : mb_Rn d 161 320 ls (.int p4 :: .int p3 :: .int p2 :: .int p1 :: .int p0 :: .ref b :: st) σ Q = mb_gf σ b 8 False (fun _ => mb_Ex (d - 1) 103 [.ref b, .int p0, .int p1, .int p2, .int p3, .int p4] σ (mb_qx [] d 161 323 ls st Q)) := rn_callv mb_good rfl hd rfl rfl ⟨rfl, rfl⟩ h4 ⟨Nat.le_of_ble_eq_true rfl, rfl⟩
set_option maxRecDepth 20000 in
theorem sL_law_323 {d : Nat} {Q : mb_O → mb_S → Prop} {σ : mb_S} {st : List Value} {l0 l1 l2 l3 l4 l5 l6 : Option Value} {x : Int32} : mb_Rn d 161 323 [l0, l1, l2, l3, l4, l5, l6] (.int x :: st) σ Q = mb_Rn d 161 325 [l0, l1, l2, l3, l4, l5, some (.int x)] st σ Q := rn_step rfl (fun _ _ => rfl)
set_option maxRecDepth 20000 in
theorem sL_law_325 {d : Nat} {Q : mb_O → mb_S → Prop} {σ : mb_S} {st : List Value} {l0 l1 l3 l4 l5 l6 : Option Value} {a : Nat} : mb_Rn d 161 325 [l0, l1, some (.ref a), l3, l4, l5, l6] st σ Q = mb_Rn d 161 326 [l0, l1, some (.ref a), l3, l4, l5, l6] (.ref a :: st) σ Q := rn_step rfl (fun _ _ => rfl)
set_option maxRecDepth 20000 in
theorem sL_law_325n {d : Nat} {Q : mb_O → mb_S → Prop} {σ : mb_S} {st : List Value} {l0 l1 l3 l4 l5 l6 : Option Value} : mb_Rn d 161 325 [l0, l1, some (.null), l3, l4, l5, l6] st σ Q = mb_Rn d 161 326 [l0, l1, some (.null), l3, l4, l5, l6] (.null :: st) σ Q := rn_step rfl (fun _ _ => rfl)
set_option maxRecDepth 20000 in
theorem sL_law_326 {d : Nat} {Q : mb_O → mb_S → Prop} {σ : mb_S} {st : List Value} {ls : mb_L} {b : Nat} (hd : 1 ≤ d) (h4 : st.length ≤ 4) : mb_Rn d 161 326 ls (.ref b :: st) σ Q = mb_gf σ b 8 False (fun _ => mb_Ex (d - 1) 85 [.ref b] σ (mb_qx [] d 161 329 ls st Q)) := rn_callv mb_good rfl hd rfl rfl ⟨rfl, rfl⟩ h4 ⟨Nat.le_of_ble_eq_true rfl, rfl⟩
set_option maxRecDepth 20000 in
theorem sL_law_329 {d : Nat} {Q : mb_O → mb_S → Prop} {σ : mb_S} {st : List Value} {l0 l1 l2 l3 l4 l6 : Option Value} {x : Int32} : mb_Rn d 161 329 [l0, l1, l2, l3, l4, some (.int x), l6] st σ Q = mb_Rn d 161 331 [l0, l1, l2, l3, l4, some (.int x), l6] (.int x :: st) σ Q := rn_step rfl (fun _ _ => rfl)
set_option maxRecDepth 20000 in
theorem sL_law_331 {d : Nat} {Q : mb_O → mb_S → Prop} {σ : mb_S} {st : List Value} {ls : mb_L} {x z : Int32} : mb_Rn d 161 331 ls (.int z :: .int x :: st) σ Q = if x = z then mb_Rn d 161 336 ls st σ Q else mb_Rn d 161 334 ls st σ Q := rn_ifb rfl (fun _ _ => rfl) beq_iff_eq
set_option maxRecDepth 20000 in
theorem sL_law_334 {d : Nat} {Q : mb_O → mb_S → Prop} {σ : mb_S} {st : List Value} {ls : mb_L} : mb_Rn d 161 334 ls st σ Q = mb_Rn d 161 335 ls (.int 0 :: st) σ Q := rn_step rfl (fun _ _ => rfl)
set_option maxRecDepth 20000 in
theorem sL_law_335 {d : Nat} {Q : mb_O → mb_S → Prop} {σ : mb_S}  {ls : mb_L} {x : Int32} : mb_Rn d 161 335 ls [.int x] σ Q = if x = 0 ∨ x = 1 then Q (.inl (some (.int x))) σ else False := rn_zret rfl
set_option maxRecDepth 20000 in
theorem sL_law_336 {d : Nat} {Q : mb_O → mb_S → Prop} {σ : mb_S} {st : List Value} {l0 l1 l2 l3 l4 l6 : Option Value} {x : Int32} : mb_Rn d 161 336 [l0, l1, l2, l3, l4, some (.int x), l6] st σ Q = mb_Rn d 161 338 [l0, l1, l2, l3, l4, some (.int x), l6] (.int x :: st) σ Q := rn_step rfl (fun _ _ => rfl)
set_option maxRecDepth 20000 in
theorem sL_law_338 {d : Nat} {Q : mb_O → mb_S → Prop} {σ : mb_S} {st : List Value} {ls : mb_L} {x : Int32} : mb_Rn d 161 338 ls (.int x :: st) σ Q = if x = 0 then mb_Rn d 161 341 ls st σ Q else mb_Rn d 161 353 ls st σ Q := rn_ifn rfl (fun _ _ => rfl) bne_iff_ne
set_option maxRecDepth 20000 in
theorem sL_law_341 {d : Nat} {Q : mb_O → mb_S → Prop} {σ : mb_S} {st : List Value} {l0 l1 l2 l4 l5 l6 : Option Value} {a : Nat} : mb_Rn d 161 341 [l0, l1, l2, some (.ref a), l4, l5, l6] st σ Q = mb_Rn d 161 342 [l0, l1, l2, some (.ref a), l4, l5, l6] (.ref a :: st) σ Q := rn_step rfl (fun _ _ => rfl)
set_option maxRecDepth 20000 in
theorem sL_law_341n {d : Nat} {Q : mb_O → mb_S → Prop} {σ : mb_S} {st : List Value} {l0 l1 l2 l4 l5 l6 : Option Value} : mb_Rn d 161 341 [l0, l1, l2, some (.null), l4, l5, l6] st σ Q = mb_Rn d 161 342 [l0, l1, l2, some (.null), l4, l5, l6] (.null :: st) σ Q := rn_step rfl (fun _ _ => rfl)
set_option maxRecDepth 20000 in
theorem sL_law_342 {d : Nat} {Q : mb_O → mb_S → Prop} {σ : mb_S} {st : List Value} {ls : mb_L} : mb_Rn d 161 342 ls st σ Q = mb_Rn d 161 343 ls (.int 0 :: st) σ Q := rn_step rfl (fun _ _ => rfl)
set_option maxRecDepth 20000 in
theorem sL_law_343 {d : Nat} {Q : mb_O → mb_S → Prop} {σ : mb_S} {st : List Value} {ls : mb_L} {a : Nat} {j : Int32} : mb_Rn d 161 343 ls (.int j :: .ref a :: st) σ Q = mb_gj σ a j False (fun kd _ f => if kd = 1 then mb_Rn d 161 344 ls (.long (f j.toNatClampNeg) :: st) σ Q else False) := rn_lald rfl
set_option maxRecDepth 20000 in
theorem sL_law_344 {d : Nat} {Q : mb_O → mb_S → Prop} {σ : mb_S} {st : List Value} {l0 l1 l2 l3 l4 l5 : Option Value} {x : Int32} : mb_Rn d 161 344 [l0, l1, l2, l3, l4, l5, some (.int x)] st σ Q = mb_Rn d 161 346 [l0, l1, l2, l3, l4, l5, some (.int x)] (.int x :: st) σ Q := rn_step rfl (fun _ _ => rfl)
set_option maxRecDepth 20000 in
theorem sL_law_346 {d : Nat} {Q : mb_O → mb_S → Prop} {σ : mb_S} {st : List Value} {ls : mb_L} {x : Int32} : mb_Rn d 161 346 ls (.int x :: st) σ Q = mb_Rn d 161 347 ls (.long x.toInt64 :: st) σ Q := rn_step rfl (fun _ _ => rfl)
set_option maxRecDepth 20000 in
theorem sL_law_347 {d : Nat} {Q : mb_O → mb_S → Prop} {σ : mb_S} {st : List Value} {ls : mb_L} {x z : Int64} : mb_Rn d 161 347 ls (.long z :: .long x :: st) σ Q = mb_Rn d 161 348 ls (.int (lg_cmp x z) :: st) σ Q := rn_step rfl (fun _ _ => rfl)
set_option maxRecDepth 20000 in
theorem sL_law_348 {d : Nat} {Q : mb_O → mb_S → Prop} {σ : mb_S} {st : List Value} {ls : mb_L} {x : Int32} : mb_Rn d 161 348 ls (.int x :: st) σ Q = if x = 0 then mb_Rn d 161 353 ls st σ Q else mb_Rn d 161 351 ls st σ Q := rn_ifb rfl (fun _ _ => rfl) beq_iff_eq
set_option maxRecDepth 20000 in
theorem sL_law_351 {d : Nat} {Q : mb_O → mb_S → Prop} {σ : mb_S} {st : List Value} {ls : mb_L} : mb_Rn d 161 351 ls st σ Q = mb_Rn d 161 352 ls (.int 0 :: st) σ Q := rn_step rfl (fun _ _ => rfl)
set_option maxRecDepth 20000 in
theorem sL_law_352 {d : Nat} {Q : mb_O → mb_S → Prop} {σ : mb_S}  {ls : mb_L} {x : Int32} : mb_Rn d 161 352 ls [.int x] σ Q = if x = 0 ∨ x = 1 then Q (.inl (some (.int x))) σ else False := rn_zret rfl
set_option maxRecDepth 20000 in
theorem sL_law_353 {d : Nat} {Q : mb_O → mb_S → Prop} {σ : mb_S} {st : List Value} {ls : mb_L} : mb_Rn d 161 353 ls st σ Q = mb_Rn d 161 1642 ls st σ Q := rn_step rfl (fun _ _ => rfl)
set_option maxRecDepth 20000 in
theorem sL_law_356 {d : Nat} {Q : mb_O → mb_S → Prop} {σ : mb_S} {st : List Value} {l0 l2 l3 l4 l5 l6 : Option Value} {a : Nat} : mb_Rn d 161 356 [l0, some (.ref a), l2, l3, l4, l5, l6] st σ Q = mb_Rn d 161 357 [l0, some (.ref a), l2, l3, l4, l5, l6] (.ref a :: st) σ Q := rn_step rfl (fun _ _ => rfl)
set_option maxRecDepth 20000 in
theorem sL_law_356n {d : Nat} {Q : mb_O → mb_S → Prop} {σ : mb_S} {st : List Value} {l0 l2 l3 l4 l5 l6 : Option Value} : mb_Rn d 161 356 [l0, some (.null), l2, l3, l4, l5, l6] st σ Q = mb_Rn d 161 357 [l0, some (.null), l2, l3, l4, l5, l6] (.null :: st) σ Q := rn_step rfl (fun _ _ => rfl)
set_option maxRecDepth 20000 in
theorem sL_law_357 {d : Nat} {Q : mb_O → mb_S → Prop} {σ : mb_S} {st : List Value} {l1 l2 l3 l4 l5 l6 : Option Value} {a : Nat} : mb_Rn d 161 357 [some (.ref a), l1, l2, l3, l4, l5, l6] st σ Q = mb_Rn d 161 358 [some (.ref a), l1, l2, l3, l4, l5, l6] (.ref a :: st) σ Q := rn_step rfl (fun _ _ => rfl)
set_option maxRecDepth 20000 in
theorem sL_law_357n {d : Nat} {Q : mb_O → mb_S → Prop} {σ : mb_S} {st : List Value} {l1 l2 l3 l4 l5 l6 : Option Value} : mb_Rn d 161 357 [some (.null), l1, l2, l3, l4, l5, l6] st σ Q = mb_Rn d 161 358 [some (.null), l1, l2, l3, l4, l5, l6] (.null :: st) σ Q := rn_step rfl (fun _ _ => rfl)
set_option maxRecDepth 20000 in
theorem sL_law_358 {d : Nat} {Q : mb_O → mb_S → Prop} {σ : mb_S} {st : List Value} {l0 l1 l2 l3 l5 l6 : Option Value} {x : Int32} : mb_Rn d 161 358 [l0, l1, l2, l3, some (.int x), l5, l6] st σ Q = mb_Rn d 161 360 [l0, l1, l2, l3, some (.int x), l5, l6] (.int x :: st) σ Q := rn_step rfl (fun _ _ => rfl)
set_option maxRecDepth 20000 in
theorem sL_law_360 {d : Nat} {Q : mb_O → mb_S → Prop} {σ : mb_S} {st : List Value} {ls : mb_L} : mb_Rn d 161 360 ls st σ Q = mb_Rn d 161 361 ls (.int 1 :: st) σ Q := rn_step rfl (fun _ _ => rfl)
set_option maxRecDepth 20000 in
theorem sL_law_361 {d : Nat} {Q : mb_O → mb_S → Prop} {σ : mb_S} {st : List Value} {ls : mb_L} {x z : Int32} : mb_Rn d 161 361 ls (.int z :: .int x :: st) σ Q = mb_Rn d 161 362 ls (.int (x + z) :: st) σ Q := rn_step rfl (fun _ _ => rfl)
set_option maxRecDepth 20000 in
theorem sL_law_362 {d : Nat} {Q : mb_O → mb_S → Prop} {σ : mb_S} {st : List Value} {ls : mb_L} {a : Nat} {j : Int32} : mb_Rn d 161 362 ls (.int j :: .ref a :: st) σ Q = mb_gi σ a j False (fun kd _ f => if kd = 0 ∨ kd = 9 then mb_Rn d 161 363 ls (.int (f j.toNatClampNeg) :: st) σ Q else False) := rn_iald rfl
set_option maxRecDepth 20000 in
theorem sL_law_363 {d : Nat} {Q : mb_O → mb_S → Prop} {σ : mb_S} {st : List Value} {l1 l2 l3 l4 l5 l6 : Option Value} {a : Nat} : mb_Rn d 161 363 [some (.ref a), l1, l2, l3, l4, l5, l6] st σ Q = mb_Rn d 161 364 [some (.ref a), l1, l2, l3, l4, l5, l6] (.ref a :: st) σ Q := rn_step rfl (fun _ _ => rfl)
set_option maxRecDepth 20000 in
theorem sL_law_363n {d : Nat} {Q : mb_O → mb_S → Prop} {σ : mb_S} {st : List Value} {l1 l2 l3 l4 l5 l6 : Option Value} : mb_Rn d 161 363 [some (.null), l1, l2, l3, l4, l5, l6] st σ Q = mb_Rn d 161 364 [some (.null), l1, l2, l3, l4, l5, l6] (.null :: st) σ Q := rn_step rfl (fun _ _ => rfl)
set_option maxRecDepth 20000 in
theorem sL_law_364 {d : Nat} {Q : mb_O → mb_S → Prop} {σ : mb_S} {st : List Value} {l0 l1 l2 l3 l5 l6 : Option Value} {x : Int32} : mb_Rn d 161 364 [l0, l1, l2, l3, some (.int x), l5, l6] st σ Q = mb_Rn d 161 366 [l0, l1, l2, l3, some (.int x), l5, l6] (.int x :: st) σ Q := rn_step rfl (fun _ _ => rfl)
set_option maxRecDepth 20000 in
theorem sL_law_366 {d : Nat} {Q : mb_O → mb_S → Prop} {σ : mb_S} {st : List Value} {ls : mb_L} : mb_Rn d 161 366 ls st σ Q = mb_Rn d 161 367 ls (.int 2 :: st) σ Q := rn_step rfl (fun _ _ => rfl)
set_option maxRecDepth 20000 in
theorem sL_law_367 {d : Nat} {Q : mb_O → mb_S → Prop} {σ : mb_S} {st : List Value} {ls : mb_L} {x z : Int32} : mb_Rn d 161 367 ls (.int z :: .int x :: st) σ Q = mb_Rn d 161 368 ls (.int (x + z) :: st) σ Q := rn_step rfl (fun _ _ => rfl)
set_option maxRecDepth 20000 in
theorem sL_law_368 {d : Nat} {Q : mb_O → mb_S → Prop} {σ : mb_S} {st : List Value} {ls : mb_L} {a : Nat} {j : Int32} : mb_Rn d 161 368 ls (.int j :: .ref a :: st) σ Q = mb_gi σ a j False (fun kd _ f => if kd = 0 ∨ kd = 9 then mb_Rn d 161 369 ls (.int (f j.toNatClampNeg) :: st) σ Q else False) := rn_iald rfl
set_option maxRecDepth 20000 in
theorem sL_law_369 {d : Nat} {Q : mb_O → mb_S → Prop} {σ : mb_S} {st : List Value} {l1 l2 l3 l4 l5 l6 : Option Value} {a : Nat} : mb_Rn d 161 369 [some (.ref a), l1, l2, l3, l4, l5, l6] st σ Q = mb_Rn d 161 370 [some (.ref a), l1, l2, l3, l4, l5, l6] (.ref a :: st) σ Q := rn_step rfl (fun _ _ => rfl)
set_option maxRecDepth 20000 in
theorem sL_law_369n {d : Nat} {Q : mb_O → mb_S → Prop} {σ : mb_S} {st : List Value} {l1 l2 l3 l4 l5 l6 : Option Value} : mb_Rn d 161 369 [some (.null), l1, l2, l3, l4, l5, l6] st σ Q = mb_Rn d 161 370 [some (.null), l1, l2, l3, l4, l5, l6] (.null :: st) σ Q := rn_step rfl (fun _ _ => rfl)
set_option maxRecDepth 20000 in
theorem sL_law_370 {d : Nat} {Q : mb_O → mb_S → Prop} {σ : mb_S} {st : List Value} {l0 l1 l2 l3 l5 l6 : Option Value} {x : Int32} : mb_Rn d 161 370 [l0, l1, l2, l3, some (.int x), l5, l6] st σ Q = mb_Rn d 161 372 [l0, l1, l2, l3, some (.int x), l5, l6] (.int x :: st) σ Q := rn_step rfl (fun _ _ => rfl)
set_option maxRecDepth 20000 in
theorem sL_law_372 {d : Nat} {Q : mb_O → mb_S → Prop} {σ : mb_S} {st : List Value} {ls : mb_L} : mb_Rn d 161 372 ls st σ Q = mb_Rn d 161 373 ls (.int 3 :: st) σ Q := rn_step rfl (fun _ _ => rfl)
set_option maxRecDepth 20000 in
theorem sL_law_373 {d : Nat} {Q : mb_O → mb_S → Prop} {σ : mb_S} {st : List Value} {ls : mb_L} {x z : Int32} : mb_Rn d 161 373 ls (.int z :: .int x :: st) σ Q = mb_Rn d 161 374 ls (.int (x + z) :: st) σ Q := rn_step rfl (fun _ _ => rfl)
set_option maxRecDepth 20000 in
theorem sL_law_374 {d : Nat} {Q : mb_O → mb_S → Prop} {σ : mb_S} {st : List Value} {ls : mb_L} {a : Nat} {j : Int32} : mb_Rn d 161 374 ls (.int j :: .ref a :: st) σ Q = mb_gi σ a j False (fun kd _ f => if kd = 0 ∨ kd = 9 then mb_Rn d 161 375 ls (.int (f j.toNatClampNeg) :: st) σ Q else False) := rn_iald rfl
set_option maxRecDepth 20000 in
theorem sL_law_375 {d : Nat} {Q : mb_O → mb_S → Prop} {σ : mb_S} {st : List Value} {l0 l1 l2 l4 l5 l6 : Option Value} {a : Nat} : mb_Rn d 161 375 [l0, l1, l2, some (.ref a), l4, l5, l6] st σ Q = mb_Rn d 161 376 [l0, l1, l2, some (.ref a), l4, l5, l6] (.ref a :: st) σ Q := rn_step rfl (fun _ _ => rfl)
set_option maxRecDepth 20000 in
theorem sL_law_375n {d : Nat} {Q : mb_O → mb_S → Prop} {σ : mb_S} {st : List Value} {l0 l1 l2 l4 l5 l6 : Option Value} : mb_Rn d 161 375 [l0, l1, l2, some (.null), l4, l5, l6] st σ Q = mb_Rn d 161 376 [l0, l1, l2, some (.null), l4, l5, l6] (.null :: st) σ Q := rn_step rfl (fun _ _ => rfl)
set_option maxRecDepth 20000 in
theorem sL_law_376 {d : Nat} {Q : mb_O → mb_S → Prop} {σ : mb_S} {st : List Value} {ls : mb_L} {p0 : Nat} {p1 : Int32} {p2 : Int32} {p3 : Int32} {p4 : Nat} (hd : 1 ≤ d) (h4 : st.length ≤ 4) : mb_Rn d 161 376 ls (.ref p4 :: .int p3 :: .int p2 :: .int p1 :: .ref p0 :: st) σ Q = mb_Ex (d - 1) 143 [.ref p0, .int p1, .int p2, .int p3, .ref p4] σ (mb_qk d 161 379 ls st Q) := rn_calls mb_good rfl hd rfl rfl ⟨rfl, rfl⟩ h4 ⟨Nat.le_of_ble_eq_true rfl, rfl⟩
set_option maxRecDepth 20000 in
theorem sL_law_379 {d : Nat} {Q : mb_O → mb_S → Prop} {σ : mb_S} {st : List Value} {l0 l1 l2 l3 l4 l5 l6 : Option Value} {x : Int32} : mb_Rn d 161 379 [l0, l1, l2, l3, l4, l5, l6] (.int x :: st) σ Q = mb_Rn d 161 381 [l0, l1, l2, l3, l4, some (.int x), l6] st σ Q := rn_step rfl (fun _ _ => rfl)
set_option maxRecDepth 20000 in
theorem sL_law_381 {d : Nat} {Q : mb_O → mb_S → Prop} {σ : mb_S} {st : List Value} {l0 l1 l3 l4 l5 l6 : Option Value} {a : Nat} : mb_Rn d 161 381 [l0, l1, some (.ref a), l3, l4, l5, l6] st σ Q = mb_Rn d 161 382 [l0, l1, some (.ref a), l3, l4, l5, l6] (.ref a :: st) σ Q := rn_step rfl (fun _ _ => rfl)
set_option maxRecDepth 20000 in
theorem sL_law_381n {d : Nat} {Q : mb_O → mb_S → Prop} {σ : mb_S} {st : List Value} {l0 l1 l3 l4 l5 l6 : Option Value} : mb_Rn d 161 381 [l0, l1, some (.null), l3, l4, l5, l6] st σ Q = mb_Rn d 161 382 [l0, l1, some (.null), l3, l4, l5, l6] (.null :: st) σ Q := rn_step rfl (fun _ _ => rfl)
set_option maxRecDepth 20000 in
theorem sL_law_382 {d : Nat} {Q : mb_O → mb_S → Prop} {σ : mb_S} {st : List Value} {l1 l2 l3 l4 l5 l6 : Option Value} {a : Nat} : mb_Rn d 161 382 [some (.ref a), l1, l2, l3, l4, l5, l6] st σ Q = mb_Rn d 161 383 [some (.ref a), l1, l2, l3, l4, l5, l6] (.ref a :: st) σ Q := rn_step rfl (fun _ _ => rfl)
set_option maxRecDepth 20000 in
theorem sL_law_382n {d : Nat} {Q : mb_O → mb_S → Prop} {σ : mb_S} {st : List Value} {l1 l2 l3 l4 l5 l6 : Option Value} : mb_Rn d 161 382 [some (.null), l1, l2, l3, l4, l5, l6] st σ Q = mb_Rn d 161 383 [some (.null), l1, l2, l3, l4, l5, l6] (.null :: st) σ Q := rn_step rfl (fun _ _ => rfl)
set_option maxRecDepth 20000 in
theorem sL_law_383 {d : Nat} {Q : mb_O → mb_S → Prop} {σ : mb_S} {st : List Value} {l0 l1 l2 l3 l5 l6 : Option Value} {x : Int32} : mb_Rn d 161 383 [l0, l1, l2, l3, some (.int x), l5, l6] st σ Q = mb_Rn d 161 385 [l0, l1, l2, l3, some (.int x), l5, l6] (.int x :: st) σ Q := rn_step rfl (fun _ _ => rfl)
set_option maxRecDepth 20000 in
theorem sL_law_385 {d : Nat} {Q : mb_O → mb_S → Prop} {σ : mb_S} {st : List Value} {ls : mb_L} : mb_Rn d 161 385 ls st σ Q = mb_Rn d 161 386 ls (.int 1 :: st) σ Q := rn_step rfl (fun _ _ => rfl)
set_option maxRecDepth 20000 in
theorem sL_law_386 {d : Nat} {Q : mb_O → mb_S → Prop} {σ : mb_S} {st : List Value} {ls : mb_L} {x z : Int32} : mb_Rn d 161 386 ls (.int z :: .int x :: st) σ Q = mb_Rn d 161 387 ls (.int (x + z) :: st) σ Q := rn_step rfl (fun _ _ => rfl)
set_option maxRecDepth 20000 in
theorem sL_law_387 {d : Nat} {Q : mb_O → mb_S → Prop} {σ : mb_S} {st : List Value} {ls : mb_L} {a : Nat} {j : Int32} : mb_Rn d 161 387 ls (.int j :: .ref a :: st) σ Q = mb_gi σ a j False (fun kd _ f => if kd = 0 ∨ kd = 9 then mb_Rn d 161 388 ls (.int (f j.toNatClampNeg) :: st) σ Q else False) := rn_iald rfl
set_option maxRecDepth 20000 in
theorem sL_law_388 {d : Nat} {Q : mb_O → mb_S → Prop} {σ : mb_S} {st : List Value} {l1 l2 l3 l4 l5 l6 : Option Value} {a : Nat} : mb_Rn d 161 388 [some (.ref a), l1, l2, l3, l4, l5, l6] st σ Q = mb_Rn d 161 389 [some (.ref a), l1, l2, l3, l4, l5, l6] (.ref a :: st) σ Q := rn_step rfl (fun _ _ => rfl)
set_option maxRecDepth 20000 in
theorem sL_law_388n {d : Nat} {Q : mb_O → mb_S → Prop} {σ : mb_S} {st : List Value} {l1 l2 l3 l4 l5 l6 : Option Value} : mb_Rn d 161 388 [some (.null), l1, l2, l3, l4, l5, l6] st σ Q = mb_Rn d 161 389 [some (.null), l1, l2, l3, l4, l5, l6] (.null :: st) σ Q := rn_step rfl (fun _ _ => rfl)
set_option maxRecDepth 20000 in
theorem sL_law_389 {d : Nat} {Q : mb_O → mb_S → Prop} {σ : mb_S} {st : List Value} {l0 l1 l2 l3 l5 l6 : Option Value} {x : Int32} : mb_Rn d 161 389 [l0, l1, l2, l3, some (.int x), l5, l6] st σ Q = mb_Rn d 161 391 [l0, l1, l2, l3, some (.int x), l5, l6] (.int x :: st) σ Q := rn_step rfl (fun _ _ => rfl)
set_option maxRecDepth 20000 in
theorem sL_law_391 {d : Nat} {Q : mb_O → mb_S → Prop} {σ : mb_S} {st : List Value} {ls : mb_L} : mb_Rn d 161 391 ls st σ Q = mb_Rn d 161 392 ls (.int 2 :: st) σ Q := rn_step rfl (fun _ _ => rfl)
set_option maxRecDepth 20000 in
theorem sL_law_392 {d : Nat} {Q : mb_O → mb_S → Prop} {σ : mb_S} {st : List Value} {ls : mb_L} {x z : Int32} : mb_Rn d 161 392 ls (.int z :: .int x :: st) σ Q = mb_Rn d 161 393 ls (.int (x + z) :: st) σ Q := rn_step rfl (fun _ _ => rfl)
set_option maxRecDepth 20000 in
theorem sL_law_393 {d : Nat} {Q : mb_O → mb_S → Prop} {σ : mb_S} {st : List Value} {ls : mb_L} {a : Nat} {j : Int32} : mb_Rn d 161 393 ls (.int j :: .ref a :: st) σ Q = mb_gi σ a j False (fun kd _ f => if kd = 0 ∨ kd = 9 then mb_Rn d 161 394 ls (.int (f j.toNatClampNeg) :: st) σ Q else False) := rn_iald rfl
set_option maxRecDepth 20000 in
theorem sL_law_394 {d : Nat} {Q : mb_O → mb_S → Prop} {σ : mb_S} {st : List Value} {l1 l2 l3 l4 l5 l6 : Option Value} {a : Nat} : mb_Rn d 161 394 [some (.ref a), l1, l2, l3, l4, l5, l6] st σ Q = mb_Rn d 161 395 [some (.ref a), l1, l2, l3, l4, l5, l6] (.ref a :: st) σ Q := rn_step rfl (fun _ _ => rfl)
set_option maxRecDepth 20000 in
theorem sL_law_394n {d : Nat} {Q : mb_O → mb_S → Prop} {σ : mb_S} {st : List Value} {l1 l2 l3 l4 l5 l6 : Option Value} : mb_Rn d 161 394 [some (.null), l1, l2, l3, l4, l5, l6] st σ Q = mb_Rn d 161 395 [some (.null), l1, l2, l3, l4, l5, l6] (.null :: st) σ Q := rn_step rfl (fun _ _ => rfl)
set_option maxRecDepth 20000 in
theorem sL_law_395 {d : Nat} {Q : mb_O → mb_S → Prop} {σ : mb_S} {st : List Value} {l0 l1 l2 l3 l5 l6 : Option Value} {x : Int32} : mb_Rn d 161 395 [l0, l1, l2, l3, some (.int x), l5, l6] st σ Q = mb_Rn d 161 397 [l0, l1, l2, l3, some (.int x), l5, l6] (.int x :: st) σ Q := rn_step rfl (fun _ _ => rfl)
set_option maxRecDepth 20000 in
theorem sL_law_397 {d : Nat} {Q : mb_O → mb_S → Prop} {σ : mb_S} {st : List Value} {ls : mb_L} : mb_Rn d 161 397 ls st σ Q = mb_Rn d 161 398 ls (.int 3 :: st) σ Q := rn_step rfl (fun _ _ => rfl)
set_option maxRecDepth 20000 in
theorem sL_law_398 {d : Nat} {Q : mb_O → mb_S → Prop} {σ : mb_S} {st : List Value} {ls : mb_L} {x z : Int32} : mb_Rn d 161 398 ls (.int z :: .int x :: st) σ Q = mb_Rn d 161 399 ls (.int (x + z) :: st) σ Q := rn_step rfl (fun _ _ => rfl)
set_option maxRecDepth 20000 in
theorem sL_law_399 {d : Nat} {Q : mb_O → mb_S → Prop} {σ : mb_S} {st : List Value} {ls : mb_L} {a : Nat} {j : Int32} : mb_Rn d 161 399 ls (.int j :: .ref a :: st) σ Q = mb_gi σ a j False (fun kd _ f => if kd = 0 ∨ kd = 9 then mb_Rn d 161 400 ls (.int (f j.toNatClampNeg) :: st) σ Q else False) := rn_iald rfl
set_option maxRecDepth 20000 in
theorem sL_law_400 {d : Nat} {Q : mb_O → mb_S → Prop} {σ : mb_S} {st : List Value} {ls : mb_L} {p0 : Int32} {p1 : Int32} {p2 : Int32} {b : Nat} (hd : 1 ≤ d) (h4 : st.length ≤ 4) : mb_Rn d 161 400 ls (.int p2 :: .int p1 :: .int p0 :: .ref b :: st) σ Q = mb_gf σ b 8 False (fun _ => mb_Ex (d - 1) 104 [.ref b, .int p0, .int p1, .int p2] σ (mb_qx [] d 161 403 ls st Q)) := rn_callv mb_good rfl hd rfl rfl ⟨rfl, rfl⟩ h4 ⟨Nat.le_of_ble_eq_true rfl, rfl⟩
set_option maxRecDepth 20000 in
theorem sL_law_403 {d : Nat} {Q : mb_O → mb_S → Prop} {σ : mb_S} {st : List Value} {l0 l1 l2 l3 l4 l5 l6 : Option Value} {x : Int32} : mb_Rn d 161 403 [l0, l1, l2, l3, l4, l5, l6] (.int x :: st) σ Q = mb_Rn d 161 405 [l0, l1, l2, l3, l4, l5, some (.int x)] st σ Q := rn_step rfl (fun _ _ => rfl)
set_option maxRecDepth 20000 in
theorem sL_law_405 {d : Nat} {Q : mb_O → mb_S → Prop} {σ : mb_S} {st : List Value} {l0 l1 l3 l4 l5 l6 : Option Value} {a : Nat} : mb_Rn d 161 405 [l0, l1, some (.ref a), l3, l4, l5, l6] st σ Q = mb_Rn d 161 406 [l0, l1, some (.ref a), l3, l4, l5, l6] (.ref a :: st) σ Q := rn_step rfl (fun _ _ => rfl)
set_option maxRecDepth 20000 in
theorem sL_law_405n {d : Nat} {Q : mb_O → mb_S → Prop} {σ : mb_S} {st : List Value} {l0 l1 l3 l4 l5 l6 : Option Value} : mb_Rn d 161 405 [l0, l1, some (.null), l3, l4, l5, l6] st σ Q = mb_Rn d 161 406 [l0, l1, some (.null), l3, l4, l5, l6] (.null :: st) σ Q := rn_step rfl (fun _ _ => rfl)
set_option maxRecDepth 20000 in
theorem sL_law_406 {d : Nat} {Q : mb_O → mb_S → Prop} {σ : mb_S} {st : List Value} {ls : mb_L} {b : Nat} (hd : 1 ≤ d) (h4 : st.length ≤ 4) : mb_Rn d 161 406 ls (.ref b :: st) σ Q = mb_gf σ b 8 False (fun _ => mb_Ex (d - 1) 85 [.ref b] σ (mb_qx [] d 161 409 ls st Q)) := rn_callv mb_good rfl hd rfl rfl ⟨rfl, rfl⟩ h4 ⟨Nat.le_of_ble_eq_true rfl, rfl⟩
set_option maxRecDepth 20000 in
theorem sL_law_409 {d : Nat} {Q : mb_O → mb_S → Prop} {σ : mb_S} {st : List Value} {l0 l1 l2 l3 l4 l6 : Option Value} {x : Int32} : mb_Rn d 161 409 [l0, l1, l2, l3, l4, some (.int x), l6] st σ Q = mb_Rn d 161 411 [l0, l1, l2, l3, l4, some (.int x), l6] (.int x :: st) σ Q := rn_step rfl (fun _ _ => rfl)
set_option maxRecDepth 20000 in
theorem sL_law_411 {d : Nat} {Q : mb_O → mb_S → Prop} {σ : mb_S} {st : List Value} {ls : mb_L} {x z : Int32} : mb_Rn d 161 411 ls (.int z :: .int x :: st) σ Q = if x = z then mb_Rn d 161 416 ls st σ Q else mb_Rn d 161 414 ls st σ Q := rn_ifb rfl (fun _ _ => rfl) beq_iff_eq
set_option maxRecDepth 20000 in
theorem sL_law_414 {d : Nat} {Q : mb_O → mb_S → Prop} {σ : mb_S} {st : List Value} {ls : mb_L} : mb_Rn d 161 414 ls st σ Q = mb_Rn d 161 415 ls (.int 0 :: st) σ Q := rn_step rfl (fun _ _ => rfl)
set_option maxRecDepth 20000 in
theorem sL_law_415 {d : Nat} {Q : mb_O → mb_S → Prop} {σ : mb_S}  {ls : mb_L} {x : Int32} : mb_Rn d 161 415 ls [.int x] σ Q = if x = 0 ∨ x = 1 then Q (.inl (some (.int x))) σ else False := rn_zret rfl
set_option maxRecDepth 20000 in
theorem sL_law_416 {d : Nat} {Q : mb_O → mb_S → Prop} {σ : mb_S} {st : List Value} {l0 l1 l2 l3 l4 l6 : Option Value} {x : Int32} : mb_Rn d 161 416 [l0, l1, l2, l3, l4, some (.int x), l6] st σ Q = mb_Rn d 161 418 [l0, l1, l2, l3, l4, some (.int x), l6] (.int x :: st) σ Q := rn_step rfl (fun _ _ => rfl)
set_option maxRecDepth 20000 in
theorem sL_law_418 {d : Nat} {Q : mb_O → mb_S → Prop} {σ : mb_S} {st : List Value} {ls : mb_L} {x : Int32} : mb_Rn d 161 418 ls (.int x :: st) σ Q = if x = 0 then mb_Rn d 161 421 ls st σ Q else mb_Rn d 161 440 ls st σ Q := rn_ifn rfl (fun _ _ => rfl) bne_iff_ne
set_option maxRecDepth 20000 in
theorem sL_law_421 {d : Nat} {Q : mb_O → mb_S → Prop} {σ : mb_S} {st : List Value} {l0 l1 l2 l4 l5 l6 : Option Value} {a : Nat} : mb_Rn d 161 421 [l0, l1, l2, some (.ref a), l4, l5, l6] st σ Q = mb_Rn d 161 422 [l0, l1, l2, some (.ref a), l4, l5, l6] (.ref a :: st) σ Q := rn_step rfl (fun _ _ => rfl)
set_option maxRecDepth 20000 in
theorem sL_law_421n {d : Nat} {Q : mb_O → mb_S → Prop} {σ : mb_S} {st : List Value} {l0 l1 l2 l4 l5 l6 : Option Value} : mb_Rn d 161 421 [l0, l1, l2, some (.null), l4, l5, l6] st σ Q = mb_Rn d 161 422 [l0, l1, l2, some (.null), l4, l5, l6] (.null :: st) σ Q := rn_step rfl (fun _ _ => rfl)
set_option maxRecDepth 20000 in
theorem sL_law_422 {d : Nat} {Q : mb_O → mb_S → Prop} {σ : mb_S} {st : List Value} {ls : mb_L} : mb_Rn d 161 422 ls st σ Q = mb_Rn d 161 423 ls (.int 0 :: st) σ Q := rn_step rfl (fun _ _ => rfl)
set_option maxRecDepth 20000 in
theorem sL_law_423 {d : Nat} {Q : mb_O → mb_S → Prop} {σ : mb_S} {st : List Value} {ls : mb_L} {a : Nat} {j : Int32} : mb_Rn d 161 423 ls (.int j :: .ref a :: st) σ Q = mb_gj σ a j False (fun kd _ f => if kd = 1 then mb_Rn d 161 424 ls (.long (f j.toNatClampNeg) :: st) σ Q else False) := rn_lald rfl
set_option maxRecDepth 20000 in
theorem sL_law_424 {d : Nat} {Q : mb_O → mb_S → Prop} {σ : mb_S} {st : List Value} {l0 l1 l2 l3 l4 l5 : Option Value} {x : Int32} : mb_Rn d 161 424 [l0, l1, l2, l3, l4, l5, some (.int x)] st σ Q = mb_Rn d 161 426 [l0, l1, l2, l3, l4, l5, some (.int x)] (.int x :: st) σ Q := rn_step rfl (fun _ _ => rfl)
set_option maxRecDepth 20000 in
theorem sL_law_426 {d : Nat} {Q : mb_O → mb_S → Prop} {σ : mb_S} {st : List Value} {ls : mb_L} {x : Int32} : mb_Rn d 161 426 ls (.int x :: st) σ Q = if x = 0 then mb_Rn d 161 433 ls st σ Q else mb_Rn d 161 429 ls st σ Q := rn_ifb rfl (fun _ _ => rfl) beq_iff_eq
set_option maxRecDepth 20000 in
theorem sL_law_429 {d : Nat} {Q : mb_O → mb_S → Prop} {σ : mb_S} {st : List Value} {ls : mb_L} : mb_Rn d 161 429 ls st σ Q = mb_Rn d 161 430 ls (.long 1 :: st) σ Q := rn_step rfl (fun _ _ => rfl)
set_option maxRecDepth 20000 in
theorem sL_law_430 {d : Nat} {Q : mb_O → mb_S → Prop} {σ : mb_S} {st : List Value} {ls : mb_L} : mb_Rn d 161 430 ls st σ Q = mb_Rn d 161 434 ls st σ Q := rn_step rfl (fun _ _ => rfl)
set_option maxRecDepth 20000 in
theorem sL_law_433 {d : Nat} {Q : mb_O → mb_S → Prop} {σ : mb_S} {st : List Value} {ls : mb_L} : mb_Rn d 161 433 ls st σ Q = mb_Rn d 161 434 ls (.long 0 :: st) σ Q := rn_step rfl (fun _ _ => rfl)
set_option maxRecDepth 20000 in
theorem sL_law_434 {d : Nat} {Q : mb_O → mb_S → Prop} {σ : mb_S} {st : List Value} {ls : mb_L} {x z : Int64} : mb_Rn d 161 434 ls (.long z :: .long x :: st) σ Q = mb_Rn d 161 435 ls (.int (lg_cmp x z) :: st) σ Q := rn_step rfl (fun _ _ => rfl)
set_option maxRecDepth 20000 in
theorem sL_law_435 {d : Nat} {Q : mb_O → mb_S → Prop} {σ : mb_S} {st : List Value} {ls : mb_L} {x : Int32} : mb_Rn d 161 435 ls (.int x :: st) σ Q = if x = 0 then mb_Rn d 161 440 ls st σ Q else mb_Rn d 161 438 ls st σ Q := rn_ifb rfl (fun _ _ => rfl) beq_iff_eq
set_option maxRecDepth 20000 in
theorem sL_law_438 {d : Nat} {Q : mb_O → mb_S → Prop} {σ : mb_S} {st : List Value} {ls : mb_L} : mb_Rn d 161 438 ls st σ Q = mb_Rn d 161 439 ls (.int 0 :: st) σ Q := rn_step rfl (fun _ _ => rfl)
set_option maxRecDepth 20000 in
theorem sL_law_439 {d : Nat} {Q : mb_O → mb_S → Prop} {σ : mb_S}  {ls : mb_L} {x : Int32} : mb_Rn d 161 439 ls [.int x] σ Q = if x = 0 ∨ x = 1 then Q (.inl (some (.int x))) σ else False := rn_zret rfl
set_option maxRecDepth 20000 in
theorem sL_law_440 {d : Nat} {Q : mb_O → mb_S → Prop} {σ : mb_S} {st : List Value} {ls : mb_L} : mb_Rn d 161 440 ls st σ Q = mb_Rn d 161 1642 ls st σ Q := rn_step rfl (fun _ _ => rfl)
set_option maxRecDepth 20000 in
theorem sL_law_443 {d : Nat} {Q : mb_O → mb_S → Prop} {σ : mb_S} {st : List Value} {l0 l2 l3 l4 l5 l6 : Option Value} {a : Nat} : mb_Rn d 161 443 [l0, some (.ref a), l2, l3, l4, l5, l6] st σ Q = mb_Rn d 161 444 [l0, some (.ref a), l2, l3, l4, l5, l6] (.ref a :: st) σ Q := rn_step rfl (fun _ _ => rfl)
set_option maxRecDepth 20000 in
theorem sL_law_443n {d : Nat} {Q : mb_O → mb_S → Prop} {σ : mb_S} {st : List Value} {l0 l2 l3 l4 l5 l6 : Option Value} : mb_Rn d 161 443 [l0, some (.null), l2, l3, l4, l5, l6] st σ Q = mb_Rn d 161 444 [l0, some (.null), l2, l3, l4, l5, l6] (.null :: st) σ Q := rn_step rfl (fun _ _ => rfl)
set_option maxRecDepth 20000 in
theorem sL_law_444 {d : Nat} {Q : mb_O → mb_S → Prop} {σ : mb_S} {st : List Value} {l1 l2 l3 l4 l5 l6 : Option Value} {a : Nat} : mb_Rn d 161 444 [some (.ref a), l1, l2, l3, l4, l5, l6] st σ Q = mb_Rn d 161 445 [some (.ref a), l1, l2, l3, l4, l5, l6] (.ref a :: st) σ Q := rn_step rfl (fun _ _ => rfl)
set_option maxRecDepth 20000 in
theorem sL_law_444n {d : Nat} {Q : mb_O → mb_S → Prop} {σ : mb_S} {st : List Value} {l1 l2 l3 l4 l5 l6 : Option Value} : mb_Rn d 161 444 [some (.null), l1, l2, l3, l4, l5, l6] st σ Q = mb_Rn d 161 445 [some (.null), l1, l2, l3, l4, l5, l6] (.null :: st) σ Q := rn_step rfl (fun _ _ => rfl)
set_option maxRecDepth 20000 in
theorem sL_law_445 {d : Nat} {Q : mb_O → mb_S → Prop} {σ : mb_S} {st : List Value} {l0 l1 l2 l3 l5 l6 : Option Value} {x : Int32} : mb_Rn d 161 445 [l0, l1, l2, l3, some (.int x), l5, l6] st σ Q = mb_Rn d 161 447 [l0, l1, l2, l3, some (.int x), l5, l6] (.int x :: st) σ Q := rn_step rfl (fun _ _ => rfl)
set_option maxRecDepth 20000 in
theorem sL_law_447 {d : Nat} {Q : mb_O → mb_S → Prop} {σ : mb_S} {st : List Value} {ls : mb_L} : mb_Rn d 161 447 ls st σ Q = mb_Rn d 161 448 ls (.int 1 :: st) σ Q := rn_step rfl (fun _ _ => rfl)
set_option maxRecDepth 20000 in
theorem sL_law_448 {d : Nat} {Q : mb_O → mb_S → Prop} {σ : mb_S} {st : List Value} {ls : mb_L} {x z : Int32} : mb_Rn d 161 448 ls (.int z :: .int x :: st) σ Q = mb_Rn d 161 449 ls (.int (x + z) :: st) σ Q := rn_step rfl (fun _ _ => rfl)
set_option maxRecDepth 20000 in
theorem sL_law_449 {d : Nat} {Q : mb_O → mb_S → Prop} {σ : mb_S} {st : List Value} {ls : mb_L} {a : Nat} {j : Int32} : mb_Rn d 161 449 ls (.int j :: .ref a :: st) σ Q = mb_gi σ a j False (fun kd _ f => if kd = 0 ∨ kd = 9 then mb_Rn d 161 450 ls (.int (f j.toNatClampNeg) :: st) σ Q else False) := rn_iald rfl
set_option maxRecDepth 20000 in
theorem sL_law_450 {d : Nat} {Q : mb_O → mb_S → Prop} {σ : mb_S} {st : List Value} {l0 l1 l2 l4 l5 l6 : Option Value} {a : Nat} : mb_Rn d 161 450 [l0, l1, l2, some (.ref a), l4, l5, l6] st σ Q = mb_Rn d 161 451 [l0, l1, l2, some (.ref a), l4, l5, l6] (.ref a :: st) σ Q := rn_step rfl (fun _ _ => rfl)
set_option maxRecDepth 20000 in
theorem sL_law_450n {d : Nat} {Q : mb_O → mb_S → Prop} {σ : mb_S} {st : List Value} {l0 l1 l2 l4 l5 l6 : Option Value} : mb_Rn d 161 450 [l0, l1, l2, some (.null), l4, l5, l6] st σ Q = mb_Rn d 161 451 [l0, l1, l2, some (.null), l4, l5, l6] (.null :: st) σ Q := rn_step rfl (fun _ _ => rfl)
set_option maxRecDepth 20000 in
theorem sL_law_451 {d : Nat} {Q : mb_O → mb_S → Prop} {σ : mb_S} {st : List Value} {ls : mb_L} {p0 : Nat} {p1 : Int32} {p2 : Nat} (hd : 1 ≤ d) (h4 : st.length ≤ 4) : mb_Rn d 161 451 ls (.ref p2 :: .int p1 :: .ref p0 :: st) σ Q = mb_Ex (d - 1) 144 [.ref p0, .int p1, .ref p2] σ (mb_qk d 161 454 ls st Q) := rn_calls mb_good rfl hd rfl rfl ⟨rfl, rfl⟩ h4 ⟨Nat.le_of_ble_eq_true rfl, rfl⟩
set_option maxRecDepth 20000 in
theorem sL_law_454 {d : Nat} {Q : mb_O → mb_S → Prop} {σ : mb_S} {st : List Value} {l0 l1 l2 l3 l4 l5 l6 : Option Value} {x : Int32} : mb_Rn d 161 454 [l0, l1, l2, l3, l4, l5, l6] (.int x :: st) σ Q = mb_Rn d 161 456 [l0, l1, l2, l3, l4, some (.int x), l6] st σ Q := rn_step rfl (fun _ _ => rfl)
set_option maxRecDepth 20000 in
theorem sL_law_456 {d : Nat} {Q : mb_O → mb_S → Prop} {σ : mb_S} {st : List Value} {l0 l1 l3 l4 l5 l6 : Option Value} {a : Nat} : mb_Rn d 161 456 [l0, l1, some (.ref a), l3, l4, l5, l6] st σ Q = mb_Rn d 161 457 [l0, l1, some (.ref a), l3, l4, l5, l6] (.ref a :: st) σ Q := rn_step rfl (fun _ _ => rfl)
set_option maxRecDepth 20000 in
theorem sL_law_456n {d : Nat} {Q : mb_O → mb_S → Prop} {σ : mb_S} {st : List Value} {l0 l1 l3 l4 l5 l6 : Option Value} : mb_Rn d 161 456 [l0, l1, some (.null), l3, l4, l5, l6] st σ Q = mb_Rn d 161 457 [l0, l1, some (.null), l3, l4, l5, l6] (.null :: st) σ Q := rn_step rfl (fun _ _ => rfl)
set_option maxRecDepth 20000 in
theorem sL_law_457 {d : Nat} {Q : mb_O → mb_S → Prop} {σ : mb_S} {st : List Value} {l1 l2 l3 l4 l5 l6 : Option Value} {a : Nat} : mb_Rn d 161 457 [some (.ref a), l1, l2, l3, l4, l5, l6] st σ Q = mb_Rn d 161 458 [some (.ref a), l1, l2, l3, l4, l5, l6] (.ref a :: st) σ Q := rn_step rfl (fun _ _ => rfl)
set_option maxRecDepth 20000 in
theorem sL_law_457n {d : Nat} {Q : mb_O → mb_S → Prop} {σ : mb_S} {st : List Value} {l1 l2 l3 l4 l5 l6 : Option Value} : mb_Rn d 161 457 [some (.null), l1, l2, l3, l4, l5, l6] st σ Q = mb_Rn d 161 458 [some (.null), l1, l2, l3, l4, l5, l6] (.null :: st) σ Q := rn_step rfl (fun _ _ => rfl)
set_option maxRecDepth 20000 in
theorem sL_law_458 {d : Nat} {Q : mb_O → mb_S → Prop} {σ : mb_S} {st : List Value} {l0 l1 l2 l3 l5 l6 : Option Value} {x : Int32} : mb_Rn d 161 458 [l0, l1, l2, l3, some (.int x), l5, l6] st σ Q = mb_Rn d 161 460 [l0, l1, l2, l3, some (.int x), l5, l6] (.int x :: st) σ Q := rn_step rfl (fun _ _ => rfl)
set_option maxRecDepth 20000 in
theorem sL_law_460 {d : Nat} {Q : mb_O → mb_S → Prop} {σ : mb_S} {st : List Value} {ls : mb_L} : mb_Rn d 161 460 ls st σ Q = mb_Rn d 161 461 ls (.int 1 :: st) σ Q := rn_step rfl (fun _ _ => rfl)
set_option maxRecDepth 20000 in
theorem sL_law_461 {d : Nat} {Q : mb_O → mb_S → Prop} {σ : mb_S} {st : List Value} {ls : mb_L} {x z : Int32} : mb_Rn d 161 461 ls (.int z :: .int x :: st) σ Q = mb_Rn d 161 462 ls (.int (x + z) :: st) σ Q := rn_step rfl (fun _ _ => rfl)
set_option maxRecDepth 20000 in
theorem sL_law_462 {d : Nat} {Q : mb_O → mb_S → Prop} {σ : mb_S} {st : List Value} {ls : mb_L} {a : Nat} {j : Int32} : mb_Rn d 161 462 ls (.int j :: .ref a :: st) σ Q = mb_gi σ a j False (fun kd _ f => if kd = 0 ∨ kd = 9 then mb_Rn d 161 463 ls (.int (f j.toNatClampNeg) :: st) σ Q else False) := rn_iald rfl
set_option maxRecDepth 20000 in
theorem sL_law_463 {d : Nat} {Q : mb_O → mb_S → Prop} {σ : mb_S} {st : List Value} {ls : mb_L} {p0 : Int32} {b : Nat} (hd : 1 ≤ d) (h4 : st.length ≤ 4) : mb_Rn d 161 463 ls (.int p0 :: .ref b :: st) σ Q = mb_gf σ b 8 False (fun _ => mb_Ex (d - 1) 105 [.ref b, .int p0] σ (mb_qx [] d 161 466 ls st Q)) := rn_callv mb_good rfl hd rfl rfl ⟨rfl, rfl⟩ h4 ⟨Nat.le_of_ble_eq_true rfl, rfl⟩
set_option maxRecDepth 20000 in
theorem sL_law_466 {d : Nat} {Q : mb_O → mb_S → Prop} {σ : mb_S} {st : List Value} {l0 l1 l2 l3 l4 l5 l6 : Option Value} {x : Int32} : mb_Rn d 161 466 [l0, l1, l2, l3, l4, l5, l6] (.int x :: st) σ Q = mb_Rn d 161 468 [l0, l1, l2, l3, l4, l5, some (.int x)] st σ Q := rn_step rfl (fun _ _ => rfl)
set_option maxRecDepth 20000 in
theorem sL_law_468 {d : Nat} {Q : mb_O → mb_S → Prop} {σ : mb_S} {st : List Value} {l0 l1 l3 l4 l5 l6 : Option Value} {a : Nat} : mb_Rn d 161 468 [l0, l1, some (.ref a), l3, l4, l5, l6] st σ Q = mb_Rn d 161 469 [l0, l1, some (.ref a), l3, l4, l5, l6] (.ref a :: st) σ Q := rn_step rfl (fun _ _ => rfl)
set_option maxRecDepth 20000 in
theorem sL_law_468n {d : Nat} {Q : mb_O → mb_S → Prop} {σ : mb_S} {st : List Value} {l0 l1 l3 l4 l5 l6 : Option Value} : mb_Rn d 161 468 [l0, l1, some (.null), l3, l4, l5, l6] st σ Q = mb_Rn d 161 469 [l0, l1, some (.null), l3, l4, l5, l6] (.null :: st) σ Q := rn_step rfl (fun _ _ => rfl)
set_option maxRecDepth 20000 in
theorem sL_law_469 {d : Nat} {Q : mb_O → mb_S → Prop} {σ : mb_S} {st : List Value} {ls : mb_L} {b : Nat} (hd : 1 ≤ d) (h4 : st.length ≤ 4) : mb_Rn d 161 469 ls (.ref b :: st) σ Q = mb_gf σ b 8 False (fun _ => mb_Ex (d - 1) 85 [.ref b] σ (mb_qx [] d 161 472 ls st Q)) := rn_callv mb_good rfl hd rfl rfl ⟨rfl, rfl⟩ h4 ⟨Nat.le_of_ble_eq_true rfl, rfl⟩
set_option maxRecDepth 20000 in
theorem sL_law_472 {d : Nat} {Q : mb_O → mb_S → Prop} {σ : mb_S} {st : List Value} {l0 l1 l2 l3 l4 l6 : Option Value} {x : Int32} : mb_Rn d 161 472 [l0, l1, l2, l3, l4, some (.int x), l6] st σ Q = mb_Rn d 161 474 [l0, l1, l2, l3, l4, some (.int x), l6] (.int x :: st) σ Q := rn_step rfl (fun _ _ => rfl)
set_option maxRecDepth 20000 in
theorem sL_law_474 {d : Nat} {Q : mb_O → mb_S → Prop} {σ : mb_S} {st : List Value} {ls : mb_L} {x z : Int32} : mb_Rn d 161 474 ls (.int z :: .int x :: st) σ Q = if x = z then mb_Rn d 161 479 ls st σ Q else mb_Rn d 161 477 ls st σ Q := rn_ifb rfl (fun _ _ => rfl) beq_iff_eq
set_option maxRecDepth 20000 in
theorem sL_law_477 {d : Nat} {Q : mb_O → mb_S → Prop} {σ : mb_S} {st : List Value} {ls : mb_L} : mb_Rn d 161 477 ls st σ Q = mb_Rn d 161 478 ls (.int 0 :: st) σ Q := rn_step rfl (fun _ _ => rfl)
set_option maxRecDepth 20000 in
theorem sL_law_478 {d : Nat} {Q : mb_O → mb_S → Prop} {σ : mb_S}  {ls : mb_L} {x : Int32} : mb_Rn d 161 478 ls [.int x] σ Q = if x = 0 ∨ x = 1 then Q (.inl (some (.int x))) σ else False := rn_zret rfl
set_option maxRecDepth 20000 in
theorem sL_law_479 {d : Nat} {Q : mb_O → mb_S → Prop} {σ : mb_S} {st : List Value} {l0 l1 l2 l3 l4 l6 : Option Value} {x : Int32} : mb_Rn d 161 479 [l0, l1, l2, l3, l4, some (.int x), l6] st σ Q = mb_Rn d 161 481 [l0, l1, l2, l3, l4, some (.int x), l6] (.int x :: st) σ Q := rn_step rfl (fun _ _ => rfl)
set_option maxRecDepth 20000 in
theorem sL_law_481 {d : Nat} {Q : mb_O → mb_S → Prop} {σ : mb_S} {st : List Value} {ls : mb_L} {x : Int32} : mb_Rn d 161 481 ls (.int x :: st) σ Q = if x = 0 then mb_Rn d 161 484 ls st σ Q else mb_Rn d 161 496 ls st σ Q := rn_ifn rfl (fun _ _ => rfl) bne_iff_ne
set_option maxRecDepth 20000 in
theorem sL_law_484 {d : Nat} {Q : mb_O → mb_S → Prop} {σ : mb_S} {st : List Value} {l0 l1 l2 l4 l5 l6 : Option Value} {a : Nat} : mb_Rn d 161 484 [l0, l1, l2, some (.ref a), l4, l5, l6] st σ Q = mb_Rn d 161 485 [l0, l1, l2, some (.ref a), l4, l5, l6] (.ref a :: st) σ Q := rn_step rfl (fun _ _ => rfl)
set_option maxRecDepth 20000 in
theorem sL_law_484n {d : Nat} {Q : mb_O → mb_S → Prop} {σ : mb_S} {st : List Value} {l0 l1 l2 l4 l5 l6 : Option Value} : mb_Rn d 161 484 [l0, l1, l2, some (.null), l4, l5, l6] st σ Q = mb_Rn d 161 485 [l0, l1, l2, some (.null), l4, l5, l6] (.null :: st) σ Q := rn_step rfl (fun _ _ => rfl)
set_option maxRecDepth 20000 in
theorem sL_law_485 {d : Nat} {Q : mb_O → mb_S → Prop} {σ : mb_S} {st : List Value} {ls : mb_L} : mb_Rn d 161 485 ls st σ Q = mb_Rn d 161 486 ls (.int 0 :: st) σ Q := rn_step rfl (fun _ _ => rfl)
set_option maxRecDepth 20000 in
theorem sL_law_486 {d : Nat} {Q : mb_O → mb_S → Prop} {σ : mb_S} {st : List Value} {ls : mb_L} {a : Nat} {j : Int32} : mb_Rn d 161 486 ls (.int j :: .ref a :: st) σ Q = mb_gj σ a j False (fun kd _ f => if kd = 1 then mb_Rn d 161 487 ls (.long (f j.toNatClampNeg) :: st) σ Q else False) := rn_lald rfl
set_option maxRecDepth 20000 in
theorem sL_law_487 {d : Nat} {Q : mb_O → mb_S → Prop} {σ : mb_S} {st : List Value} {l0 l1 l2 l3 l4 l5 : Option Value} {x : Int32} : mb_Rn d 161 487 [l0, l1, l2, l3, l4, l5, some (.int x)] st σ Q = mb_Rn d 161 489 [l0, l1, l2, l3, l4, l5, some (.int x)] (.int x :: st) σ Q := rn_step rfl (fun _ _ => rfl)
set_option maxRecDepth 20000 in
theorem sL_law_489 {d : Nat} {Q : mb_O → mb_S → Prop} {σ : mb_S} {st : List Value} {ls : mb_L} {x : Int32} : mb_Rn d 161 489 ls (.int x :: st) σ Q = mb_Rn d 161 490 ls (.long x.toInt64 :: st) σ Q := rn_step rfl (fun _ _ => rfl)
set_option maxRecDepth 20000 in
theorem sL_law_490 {d : Nat} {Q : mb_O → mb_S → Prop} {σ : mb_S} {st : List Value} {ls : mb_L} {x z : Int64} : mb_Rn d 161 490 ls (.long z :: .long x :: st) σ Q = mb_Rn d 161 491 ls (.int (lg_cmp x z) :: st) σ Q := rn_step rfl (fun _ _ => rfl)
set_option maxRecDepth 20000 in
theorem sL_law_491 {d : Nat} {Q : mb_O → mb_S → Prop} {σ : mb_S} {st : List Value} {ls : mb_L} {x : Int32} : mb_Rn d 161 491 ls (.int x :: st) σ Q = if x = 0 then mb_Rn d 161 496 ls st σ Q else mb_Rn d 161 494 ls st σ Q := rn_ifb rfl (fun _ _ => rfl) beq_iff_eq
set_option maxRecDepth 20000 in
theorem sL_law_494 {d : Nat} {Q : mb_O → mb_S → Prop} {σ : mb_S} {st : List Value} {ls : mb_L} : mb_Rn d 161 494 ls st σ Q = mb_Rn d 161 495 ls (.int 0 :: st) σ Q := rn_step rfl (fun _ _ => rfl)
set_option maxRecDepth 20000 in
theorem sL_law_495 {d : Nat} {Q : mb_O → mb_S → Prop} {σ : mb_S}  {ls : mb_L} {x : Int32} : mb_Rn d 161 495 ls [.int x] σ Q = if x = 0 ∨ x = 1 then Q (.inl (some (.int x))) σ else False := rn_zret rfl
set_option maxRecDepth 20000 in
theorem sL_law_496 {d : Nat} {Q : mb_O → mb_S → Prop} {σ : mb_S} {st : List Value} {ls : mb_L} : mb_Rn d 161 496 ls st σ Q = mb_Rn d 161 1642 ls st σ Q := rn_step rfl (fun _ _ => rfl)
set_option maxRecDepth 20000 in
theorem sL_law_499 {d : Nat} {Q : mb_O → mb_S → Prop} {σ : mb_S} {st : List Value} {l0 l2 l3 l4 l5 l6 : Option Value} {a : Nat} : mb_Rn d 161 499 [l0, some (.ref a), l2, l3, l4, l5, l6] st σ Q = mb_Rn d 161 500 [l0, some (.ref a), l2, l3, l4, l5, l6] (.ref a :: st) σ Q := rn_step rfl (fun _ _ => rfl)
set_option maxRecDepth 20000 in
theorem sL_law_499n {d : Nat} {Q : mb_O → mb_S → Prop} {σ : mb_S} {st : List Value} {l0 l2 l3 l4 l5 l6 : Option Value} : mb_Rn d 161 499 [l0, some (.null), l2, l3, l4, l5, l6] st σ Q = mb_Rn d 161 500 [l0, some (.null), l2, l3, l4, l5, l6] (.null :: st) σ Q := rn_step rfl (fun _ _ => rfl)
set_option maxRecDepth 20000 in
theorem sL_law_500 {d : Nat} {Q : mb_O → mb_S → Prop} {σ : mb_S} {st : List Value} {l1 l2 l3 l4 l5 l6 : Option Value} {a : Nat} : mb_Rn d 161 500 [some (.ref a), l1, l2, l3, l4, l5, l6] st σ Q = mb_Rn d 161 501 [some (.ref a), l1, l2, l3, l4, l5, l6] (.ref a :: st) σ Q := rn_step rfl (fun _ _ => rfl)
set_option maxRecDepth 20000 in
theorem sL_law_500n {d : Nat} {Q : mb_O → mb_S → Prop} {σ : mb_S} {st : List Value} {l1 l2 l3 l4 l5 l6 : Option Value} : mb_Rn d 161 500 [some (.null), l1, l2, l3, l4, l5, l6] st σ Q = mb_Rn d 161 501 [some (.null), l1, l2, l3, l4, l5, l6] (.null :: st) σ Q := rn_step rfl (fun _ _ => rfl)
set_option maxRecDepth 20000 in
theorem sL_law_501 {d : Nat} {Q : mb_O → mb_S → Prop} {σ : mb_S} {st : List Value} {l0 l1 l2 l3 l5 l6 : Option Value} {x : Int32} : mb_Rn d 161 501 [l0, l1, l2, l3, some (.int x), l5, l6] st σ Q = mb_Rn d 161 503 [l0, l1, l2, l3, some (.int x), l5, l6] (.int x :: st) σ Q := rn_step rfl (fun _ _ => rfl)
set_option maxRecDepth 20000 in
theorem sL_law_503 {d : Nat} {Q : mb_O → mb_S → Prop} {σ : mb_S} {st : List Value} {ls : mb_L} : mb_Rn d 161 503 ls st σ Q = mb_Rn d 161 504 ls (.int 1 :: st) σ Q := rn_step rfl (fun _ _ => rfl)
set_option maxRecDepth 20000 in
theorem sL_law_504 {d : Nat} {Q : mb_O → mb_S → Prop} {σ : mb_S} {st : List Value} {ls : mb_L} {x z : Int32} : mb_Rn d 161 504 ls (.int z :: .int x :: st) σ Q = mb_Rn d 161 505 ls (.int (x + z) :: st) σ Q := rn_step rfl (fun _ _ => rfl)
set_option maxRecDepth 20000 in
theorem sL_law_505 {d : Nat} {Q : mb_O → mb_S → Prop} {σ : mb_S} {st : List Value} {ls : mb_L} {a : Nat} {j : Int32} : mb_Rn d 161 505 ls (.int j :: .ref a :: st) σ Q = mb_gi σ a j False (fun kd _ f => if kd = 0 ∨ kd = 9 then mb_Rn d 161 506 ls (.int (f j.toNatClampNeg) :: st) σ Q else False) := rn_iald rfl
set_option maxRecDepth 20000 in
theorem sL_law_506 {d : Nat} {Q : mb_O → mb_S → Prop} {σ : mb_S} {st : List Value} {l1 l2 l3 l4 l5 l6 : Option Value} {a : Nat} : mb_Rn d 161 506 [some (.ref a), l1, l2, l3, l4, l5, l6] st σ Q = mb_Rn d 161 507 [some (.ref a), l1, l2, l3, l4, l5, l6] (.ref a :: st) σ Q := rn_step rfl (fun _ _ => rfl)
set_option maxRecDepth 20000 in
theorem sL_law_506n {d : Nat} {Q : mb_O → mb_S → Prop} {σ : mb_S} {st : List Value} {l1 l2 l3 l4 l5 l6 : Option Value} : mb_Rn d 161 506 [some (.null), l1, l2, l3, l4, l5, l6] st σ Q = mb_Rn d 161 507 [some (.null), l1, l2, l3, l4, l5, l6] (.null :: st) σ Q := rn_step rfl (fun _ _ => rfl)
set_option maxRecDepth 20000 in
theorem sL_law_507 {d : Nat} {Q : mb_O → mb_S → Prop} {σ : mb_S} {st : List Value} {l0 l1 l2 l3 l5 l6 : Option Value} {x : Int32} : mb_Rn d 161 507 [l0, l1, l2, l3, some (.int x), l5, l6] st σ Q = mb_Rn d 161 509 [l0, l1, l2, l3, some (.int x), l5, l6] (.int x :: st) σ Q := rn_step rfl (fun _ _ => rfl)
set_option maxRecDepth 20000 in
theorem sL_law_509 {d : Nat} {Q : mb_O → mb_S → Prop} {σ : mb_S} {st : List Value} {ls : mb_L} : mb_Rn d 161 509 ls st σ Q = mb_Rn d 161 510 ls (.int 2 :: st) σ Q := rn_step rfl (fun _ _ => rfl)
set_option maxRecDepth 20000 in
theorem sL_law_510 {d : Nat} {Q : mb_O → mb_S → Prop} {σ : mb_S} {st : List Value} {ls : mb_L} {x z : Int32} : mb_Rn d 161 510 ls (.int z :: .int x :: st) σ Q = mb_Rn d 161 511 ls (.int (x + z) :: st) σ Q := rn_step rfl (fun _ _ => rfl)
set_option maxRecDepth 20000 in
theorem sL_law_511 {d : Nat} {Q : mb_O → mb_S → Prop} {σ : mb_S} {st : List Value} {ls : mb_L} {a : Nat} {j : Int32} : mb_Rn d 161 511 ls (.int j :: .ref a :: st) σ Q = mb_gi σ a j False (fun kd _ f => if kd = 0 ∨ kd = 9 then mb_Rn d 161 512 ls (.int (f j.toNatClampNeg) :: st) σ Q else False) := rn_iald rfl
set_option maxRecDepth 20000 in
theorem sL_law_512 {d : Nat} {Q : mb_O → mb_S → Prop} {σ : mb_S} {st : List Value} {l1 l2 l3 l4 l5 l6 : Option Value} {a : Nat} : mb_Rn d 161 512 [some (.ref a), l1, l2, l3, l4, l5, l6] st σ Q = mb_Rn d 161 513 [some (.ref a), l1, l2, l3, l4, l5, l6] (.ref a :: st) σ Q := rn_step rfl (fun _ _ => rfl)
set_option maxRecDepth 20000 in
theorem sL_law_512n {d : Nat} {Q : mb_O → mb_S → Prop} {σ : mb_S} {st : List Value} {l1 l2 l3 l4 l5 l6 : Option Value} : mb_Rn d 161 512 [some (.null), l1, l2, l3, l4, l5, l6] st σ Q = mb_Rn d 161 513 [some (.null), l1, l2, l3, l4, l5, l6] (.null :: st) σ Q := rn_step rfl (fun _ _ => rfl)
set_option maxRecDepth 20000 in
theorem sL_law_513 {d : Nat} {Q : mb_O → mb_S → Prop} {σ : mb_S} {st : List Value} {l0 l1 l2 l3 l5 l6 : Option Value} {x : Int32} : mb_Rn d 161 513 [l0, l1, l2, l3, some (.int x), l5, l6] st σ Q = mb_Rn d 161 515 [l0, l1, l2, l3, some (.int x), l5, l6] (.int x :: st) σ Q := rn_step rfl (fun _ _ => rfl)
set_option maxRecDepth 20000 in
theorem sL_law_515 {d : Nat} {Q : mb_O → mb_S → Prop} {σ : mb_S} {st : List Value} {ls : mb_L} : mb_Rn d 161 515 ls st σ Q = mb_Rn d 161 516 ls (.int 3 :: st) σ Q := rn_step rfl (fun _ _ => rfl)
set_option maxRecDepth 20000 in
theorem sL_law_516 {d : Nat} {Q : mb_O → mb_S → Prop} {σ : mb_S} {st : List Value} {ls : mb_L} {x z : Int32} : mb_Rn d 161 516 ls (.int z :: .int x :: st) σ Q = mb_Rn d 161 517 ls (.int (x + z) :: st) σ Q := rn_step rfl (fun _ _ => rfl)
set_option maxRecDepth 20000 in
theorem sL_law_517 {d : Nat} {Q : mb_O → mb_S → Prop} {σ : mb_S} {st : List Value} {ls : mb_L} {a : Nat} {j : Int32} : mb_Rn d 161 517 ls (.int j :: .ref a :: st) σ Q = mb_gi σ a j False (fun kd _ f => if kd = 0 ∨ kd = 9 then mb_Rn d 161 518 ls (.int (f j.toNatClampNeg) :: st) σ Q else False) := rn_iald rfl
set_option maxRecDepth 20000 in
theorem sL_law_518 {d : Nat} {Q : mb_O → mb_S → Prop} {σ : mb_S} {st : List Value} {l1 l2 l3 l4 l5 l6 : Option Value} {a : Nat} : mb_Rn d 161 518 [some (.ref a), l1, l2, l3, l4, l5, l6] st σ Q = mb_Rn d 161 519 [some (.ref a), l1, l2, l3, l4, l5, l6] (.ref a :: st) σ Q := rn_step rfl (fun _ _ => rfl)
set_option maxRecDepth 20000 in
theorem sL_law_518n {d : Nat} {Q : mb_O → mb_S → Prop} {σ : mb_S} {st : List Value} {l1 l2 l3 l4 l5 l6 : Option Value} : mb_Rn d 161 518 [some (.null), l1, l2, l3, l4, l5, l6] st σ Q = mb_Rn d 161 519 [some (.null), l1, l2, l3, l4, l5, l6] (.null :: st) σ Q := rn_step rfl (fun _ _ => rfl)
set_option maxRecDepth 20000 in
theorem sL_law_519 {d : Nat} {Q : mb_O → mb_S → Prop} {σ : mb_S} {st : List Value} {l0 l1 l2 l3 l5 l6 : Option Value} {x : Int32} : mb_Rn d 161 519 [l0, l1, l2, l3, some (.int x), l5, l6] st σ Q = mb_Rn d 161 521 [l0, l1, l2, l3, some (.int x), l5, l6] (.int x :: st) σ Q := rn_step rfl (fun _ _ => rfl)
set_option maxRecDepth 20000 in
theorem sL_law_521 {d : Nat} {Q : mb_O → mb_S → Prop} {σ : mb_S} {st : List Value} {ls : mb_L} : mb_Rn d 161 521 ls st σ Q = mb_Rn d 161 522 ls (.int 4 :: st) σ Q := rn_step rfl (fun _ _ => rfl)
set_option maxRecDepth 20000 in
theorem sL_law_522 {d : Nat} {Q : mb_O → mb_S → Prop} {σ : mb_S} {st : List Value} {ls : mb_L} {x z : Int32} : mb_Rn d 161 522 ls (.int z :: .int x :: st) σ Q = mb_Rn d 161 523 ls (.int (x + z) :: st) σ Q := rn_step rfl (fun _ _ => rfl)
set_option maxRecDepth 20000 in
theorem sL_law_523 {d : Nat} {Q : mb_O → mb_S → Prop} {σ : mb_S} {st : List Value} {ls : mb_L} {a : Nat} {j : Int32} : mb_Rn d 161 523 ls (.int j :: .ref a :: st) σ Q = mb_gi σ a j False (fun kd _ f => if kd = 0 ∨ kd = 9 then mb_Rn d 161 524 ls (.int (f j.toNatClampNeg) :: st) σ Q else False) := rn_iald rfl
set_option maxRecDepth 20000 in
theorem sL_law_524 {d : Nat} {Q : mb_O → mb_S → Prop} {σ : mb_S} {st : List Value} {l0 l1 l2 l4 l5 l6 : Option Value} {a : Nat} : mb_Rn d 161 524 [l0, l1, l2, some (.ref a), l4, l5, l6] st σ Q = mb_Rn d 161 525 [l0, l1, l2, some (.ref a), l4, l5, l6] (.ref a :: st) σ Q := rn_step rfl (fun _ _ => rfl)
set_option maxRecDepth 20000 in
theorem sL_law_524n {d : Nat} {Q : mb_O → mb_S → Prop} {σ : mb_S} {st : List Value} {l0 l1 l2 l4 l5 l6 : Option Value} : mb_Rn d 161 524 [l0, l1, l2, some (.null), l4, l5, l6] st σ Q = mb_Rn d 161 525 [l0, l1, l2, some (.null), l4, l5, l6] (.null :: st) σ Q := rn_step rfl (fun _ _ => rfl)
set_option maxRecDepth 20000 in
theorem sL_law_525 {d : Nat} {Q : mb_O → mb_S → Prop} {σ : mb_S} {st : List Value} {ls : mb_L} {p0 : Nat} {p1 : Int32} {p2 : Int32} {p3 : Int32} {p4 : Int32} {p5 : Nat} (hd : 1 ≤ d) (h4 : st.length ≤ 4) : mb_Rn d 161 525 ls (.ref p5 :: .int p4 :: .int p3 :: .int p2 :: .int p1 :: .ref p0 :: st) σ Q = mb_Ex (d - 1) 145 [.ref p0, .int p1, .int p2, .int p3, .int p4, .ref p5] σ (mb_qk d 161 528 ls st Q) := rn_calls mb_good rfl hd rfl rfl ⟨rfl, rfl⟩ h4 ⟨Nat.le_of_ble_eq_true rfl, rfl⟩
set_option maxRecDepth 20000 in
theorem sL_law_528 {d : Nat} {Q : mb_O → mb_S → Prop} {σ : mb_S} {st : List Value} {l0 l1 l2 l3 l4 l5 l6 : Option Value} {x : Int32} : mb_Rn d 161 528 [l0, l1, l2, l3, l4, l5, l6] (.int x :: st) σ Q = mb_Rn d 161 530 [l0, l1, l2, l3, l4, some (.int x), l6] st σ Q := rn_step rfl (fun _ _ => rfl)
set_option maxRecDepth 20000 in
theorem sL_law_530 {d : Nat} {Q : mb_O → mb_S → Prop} {σ : mb_S} {st : List Value} {l0 l1 l3 l4 l5 l6 : Option Value} {a : Nat} : mb_Rn d 161 530 [l0, l1, some (.ref a), l3, l4, l5, l6] st σ Q = mb_Rn d 161 531 [l0, l1, some (.ref a), l3, l4, l5, l6] (.ref a :: st) σ Q := rn_step rfl (fun _ _ => rfl)
set_option maxRecDepth 20000 in
theorem sL_law_530n {d : Nat} {Q : mb_O → mb_S → Prop} {σ : mb_S} {st : List Value} {l0 l1 l3 l4 l5 l6 : Option Value} : mb_Rn d 161 530 [l0, l1, some (.null), l3, l4, l5, l6] st σ Q = mb_Rn d 161 531 [l0, l1, some (.null), l3, l4, l5, l6] (.null :: st) σ Q := rn_step rfl (fun _ _ => rfl)
set_option maxRecDepth 20000 in
theorem sL_law_531 {d : Nat} {Q : mb_O → mb_S → Prop} {σ : mb_S} {st : List Value} {l1 l2 l3 l4 l5 l6 : Option Value} {a : Nat} : mb_Rn d 161 531 [some (.ref a), l1, l2, l3, l4, l5, l6] st σ Q = mb_Rn d 161 532 [some (.ref a), l1, l2, l3, l4, l5, l6] (.ref a :: st) σ Q := rn_step rfl (fun _ _ => rfl)
set_option maxRecDepth 20000 in
theorem sL_law_531n {d : Nat} {Q : mb_O → mb_S → Prop} {σ : mb_S} {st : List Value} {l1 l2 l3 l4 l5 l6 : Option Value} : mb_Rn d 161 531 [some (.null), l1, l2, l3, l4, l5, l6] st σ Q = mb_Rn d 161 532 [some (.null), l1, l2, l3, l4, l5, l6] (.null :: st) σ Q := rn_step rfl (fun _ _ => rfl)
set_option maxRecDepth 20000 in
theorem sL_law_532 {d : Nat} {Q : mb_O → mb_S → Prop} {σ : mb_S} {st : List Value} {l0 l1 l2 l3 l5 l6 : Option Value} {x : Int32} : mb_Rn d 161 532 [l0, l1, l2, l3, some (.int x), l5, l6] st σ Q = mb_Rn d 161 534 [l0, l1, l2, l3, some (.int x), l5, l6] (.int x :: st) σ Q := rn_step rfl (fun _ _ => rfl)
set_option maxRecDepth 20000 in
theorem sL_law_534 {d : Nat} {Q : mb_O → mb_S → Prop} {σ : mb_S} {st : List Value} {ls : mb_L} : mb_Rn d 161 534 ls st σ Q = mb_Rn d 161 535 ls (.int 1 :: st) σ Q := rn_step rfl (fun _ _ => rfl)
set_option maxRecDepth 20000 in
theorem sL_law_535 {d : Nat} {Q : mb_O → mb_S → Prop} {σ : mb_S} {st : List Value} {ls : mb_L} {x z : Int32} : mb_Rn d 161 535 ls (.int z :: .int x :: st) σ Q = mb_Rn d 161 536 ls (.int (x + z) :: st) σ Q := rn_step rfl (fun _ _ => rfl)
set_option maxRecDepth 20000 in
theorem sL_law_536 {d : Nat} {Q : mb_O → mb_S → Prop} {σ : mb_S} {st : List Value} {ls : mb_L} {a : Nat} {j : Int32} : mb_Rn d 161 536 ls (.int j :: .ref a :: st) σ Q = mb_gi σ a j False (fun kd _ f => if kd = 0 ∨ kd = 9 then mb_Rn d 161 537 ls (.int (f j.toNatClampNeg) :: st) σ Q else False) := rn_iald rfl
set_option maxRecDepth 20000 in
theorem sL_law_537 {d : Nat} {Q : mb_O → mb_S → Prop} {σ : mb_S} {st : List Value} {l1 l2 l3 l4 l5 l6 : Option Value} {a : Nat} : mb_Rn d 161 537 [some (.ref a), l1, l2, l3, l4, l5, l6] st σ Q = mb_Rn d 161 538 [some (.ref a), l1, l2, l3, l4, l5, l6] (.ref a :: st) σ Q := rn_step rfl (fun _ _ => rfl)
set_option maxRecDepth 20000 in
theorem sL_law_537n {d : Nat} {Q : mb_O → mb_S → Prop} {σ : mb_S} {st : List Value} {l1 l2 l3 l4 l5 l6 : Option Value} : mb_Rn d 161 537 [some (.null), l1, l2, l3, l4, l5, l6] st σ Q = mb_Rn d 161 538 [some (.null), l1, l2, l3, l4, l5, l6] (.null :: st) σ Q := rn_step rfl (fun _ _ => rfl)
set_option maxRecDepth 20000 in
theorem sL_law_538 {d : Nat} {Q : mb_O → mb_S → Prop} {σ : mb_S} {st : List Value} {l0 l1 l2 l3 l5 l6 : Option Value} {x : Int32} : mb_Rn d 161 538 [l0, l1, l2, l3, some (.int x), l5, l6] st σ Q = mb_Rn d 161 540 [l0, l1, l2, l3, some (.int x), l5, l6] (.int x :: st) σ Q := rn_step rfl (fun _ _ => rfl)
set_option maxRecDepth 20000 in
theorem sL_law_540 {d : Nat} {Q : mb_O → mb_S → Prop} {σ : mb_S} {st : List Value} {ls : mb_L} : mb_Rn d 161 540 ls st σ Q = mb_Rn d 161 541 ls (.int 2 :: st) σ Q := rn_step rfl (fun _ _ => rfl)
set_option maxRecDepth 20000 in
theorem sL_law_541 {d : Nat} {Q : mb_O → mb_S → Prop} {σ : mb_S} {st : List Value} {ls : mb_L} {x z : Int32} : mb_Rn d 161 541 ls (.int z :: .int x :: st) σ Q = mb_Rn d 161 542 ls (.int (x + z) :: st) σ Q := rn_step rfl (fun _ _ => rfl)
set_option maxRecDepth 20000 in
theorem sL_law_542 {d : Nat} {Q : mb_O → mb_S → Prop} {σ : mb_S} {st : List Value} {ls : mb_L} {a : Nat} {j : Int32} : mb_Rn d 161 542 ls (.int j :: .ref a :: st) σ Q = mb_gi σ a j False (fun kd _ f => if kd = 0 ∨ kd = 9 then mb_Rn d 161 543 ls (.int (f j.toNatClampNeg) :: st) σ Q else False) := rn_iald rfl
set_option maxRecDepth 20000 in
theorem sL_law_543 {d : Nat} {Q : mb_O → mb_S → Prop} {σ : mb_S} {st : List Value} {l1 l2 l3 l4 l5 l6 : Option Value} {a : Nat} : mb_Rn d 161 543 [some (.ref a), l1, l2, l3, l4, l5, l6] st σ Q = mb_Rn d 161 544 [some (.ref a), l1, l2, l3, l4, l5, l6] (.ref a :: st) σ Q := rn_step rfl (fun _ _ => rfl)
set_option maxRecDepth 20000 in
theorem sL_law_543n {d : Nat} {Q : mb_O → mb_S → Prop} {σ : mb_S} {st : List Value} {l1 l2 l3 l4 l5 l6 : Option Value} : mb_Rn d 161 543 [some (.null), l1, l2, l3, l4, l5, l6] st σ Q = mb_Rn d 161 544 [some (.null), l1, l2, l3, l4, l5, l6] (.null :: st) σ Q := rn_step rfl (fun _ _ => rfl)
set_option maxRecDepth 20000 in
theorem sL_law_544 {d : Nat} {Q : mb_O → mb_S → Prop} {σ : mb_S} {st : List Value} {l0 l1 l2 l3 l5 l6 : Option Value} {x : Int32} : mb_Rn d 161 544 [l0, l1, l2, l3, some (.int x), l5, l6] st σ Q = mb_Rn d 161 546 [l0, l1, l2, l3, some (.int x), l5, l6] (.int x :: st) σ Q := rn_step rfl (fun _ _ => rfl)
set_option maxRecDepth 20000 in
theorem sL_law_546 {d : Nat} {Q : mb_O → mb_S → Prop} {σ : mb_S} {st : List Value} {ls : mb_L} : mb_Rn d 161 546 ls st σ Q = mb_Rn d 161 547 ls (.int 3 :: st) σ Q := rn_step rfl (fun _ _ => rfl)
set_option maxRecDepth 20000 in
theorem sL_law_547 {d : Nat} {Q : mb_O → mb_S → Prop} {σ : mb_S} {st : List Value} {ls : mb_L} {x z : Int32} : mb_Rn d 161 547 ls (.int z :: .int x :: st) σ Q = mb_Rn d 161 548 ls (.int (x + z) :: st) σ Q := rn_step rfl (fun _ _ => rfl)
set_option maxRecDepth 20000 in
theorem sL_law_548 {d : Nat} {Q : mb_O → mb_S → Prop} {σ : mb_S} {st : List Value} {ls : mb_L} {a : Nat} {j : Int32} : mb_Rn d 161 548 ls (.int j :: .ref a :: st) σ Q = mb_gi σ a j False (fun kd _ f => if kd = 0 ∨ kd = 9 then mb_Rn d 161 549 ls (.int (f j.toNatClampNeg) :: st) σ Q else False) := rn_iald rfl
set_option maxRecDepth 20000 in
theorem sL_law_549 {d : Nat} {Q : mb_O → mb_S → Prop} {σ : mb_S} {st : List Value} {l1 l2 l3 l4 l5 l6 : Option Value} {a : Nat} : mb_Rn d 161 549 [some (.ref a), l1, l2, l3, l4, l5, l6] st σ Q = mb_Rn d 161 550 [some (.ref a), l1, l2, l3, l4, l5, l6] (.ref a :: st) σ Q := rn_step rfl (fun _ _ => rfl)
set_option maxRecDepth 20000 in
theorem sL_law_549n {d : Nat} {Q : mb_O → mb_S → Prop} {σ : mb_S} {st : List Value} {l1 l2 l3 l4 l5 l6 : Option Value} : mb_Rn d 161 549 [some (.null), l1, l2, l3, l4, l5, l6] st σ Q = mb_Rn d 161 550 [some (.null), l1, l2, l3, l4, l5, l6] (.null :: st) σ Q := rn_step rfl (fun _ _ => rfl)
set_option maxRecDepth 20000 in
theorem sL_law_550 {d : Nat} {Q : mb_O → mb_S → Prop} {σ : mb_S} {st : List Value} {l0 l1 l2 l3 l5 l6 : Option Value} {x : Int32} : mb_Rn d 161 550 [l0, l1, l2, l3, some (.int x), l5, l6] st σ Q = mb_Rn d 161 552 [l0, l1, l2, l3, some (.int x), l5, l6] (.int x :: st) σ Q := rn_step rfl (fun _ _ => rfl)
set_option maxRecDepth 20000 in
theorem sL_law_552 {d : Nat} {Q : mb_O → mb_S → Prop} {σ : mb_S} {st : List Value} {ls : mb_L} : mb_Rn d 161 552 ls st σ Q = mb_Rn d 161 553 ls (.int 4 :: st) σ Q := rn_step rfl (fun _ _ => rfl)
set_option maxRecDepth 20000 in
theorem sL_law_553 {d : Nat} {Q : mb_O → mb_S → Prop} {σ : mb_S} {st : List Value} {ls : mb_L} {x z : Int32} : mb_Rn d 161 553 ls (.int z :: .int x :: st) σ Q = mb_Rn d 161 554 ls (.int (x + z) :: st) σ Q := rn_step rfl (fun _ _ => rfl)
set_option maxRecDepth 20000 in
theorem sL_law_554 {d : Nat} {Q : mb_O → mb_S → Prop} {σ : mb_S} {st : List Value} {ls : mb_L} {a : Nat} {j : Int32} : mb_Rn d 161 554 ls (.int j :: .ref a :: st) σ Q = mb_gi σ a j False (fun kd _ f => if kd = 0 ∨ kd = 9 then mb_Rn d 161 555 ls (.int (f j.toNatClampNeg) :: st) σ Q else False) := rn_iald rfl
set_option maxRecDepth 20000 in
theorem sL_law_555 {d : Nat} {Q : mb_O → mb_S → Prop} {σ : mb_S} {st : List Value} {ls : mb_L} {p0 : Int32} {p1 : Int32} {p2 : Int32} {p3 : Int32} {b : Nat} (hd : 1 ≤ d) (h4 : st.length ≤ 4) : mb_Rn d 161 555 ls (.int p3 :: .int p2 :: .int p1 :: .int p0 :: .ref b :: st) σ Q = mb_gf σ b 8 False (fun _ => mb_Ex (d - 1) 107 [.ref b, .int p0, .int p1, .int p2, .int p3] σ (mb_qx [] d 161 558 ls st Q)) := rn_callv mb_good rfl hd rfl rfl ⟨rfl, rfl⟩ h4 ⟨Nat.le_of_ble_eq_true rfl, rfl⟩
set_option maxRecDepth 20000 in
theorem sL_law_558 {d : Nat} {Q : mb_O → mb_S → Prop} {σ : mb_S} {st : List Value} {l0 l1 l2 l3 l4 l5 l6 : Option Value} {x : Int32} : mb_Rn d 161 558 [l0, l1, l2, l3, l4, l5, l6] (.int x :: st) σ Q = mb_Rn d 161 560 [l0, l1, l2, l3, l4, l5, some (.int x)] st σ Q := rn_step rfl (fun _ _ => rfl)
set_option maxRecDepth 20000 in
theorem sL_law_560 {d : Nat} {Q : mb_O → mb_S → Prop} {σ : mb_S} {st : List Value} {l0 l1 l3 l4 l5 l6 : Option Value} {a : Nat} : mb_Rn d 161 560 [l0, l1, some (.ref a), l3, l4, l5, l6] st σ Q = mb_Rn d 161 561 [l0, l1, some (.ref a), l3, l4, l5, l6] (.ref a :: st) σ Q := rn_step rfl (fun _ _ => rfl)
set_option maxRecDepth 20000 in
theorem sL_law_560n {d : Nat} {Q : mb_O → mb_S → Prop} {σ : mb_S} {st : List Value} {l0 l1 l3 l4 l5 l6 : Option Value} : mb_Rn d 161 560 [l0, l1, some (.null), l3, l4, l5, l6] st σ Q = mb_Rn d 161 561 [l0, l1, some (.null), l3, l4, l5, l6] (.null :: st) σ Q := rn_step rfl (fun _ _ => rfl)
set_option maxRecDepth 20000 in
theorem sL_law_561 {d : Nat} {Q : mb_O → mb_S → Prop} {σ : mb_S} {st : List Value} {ls : mb_L} {b : Nat} (hd : 1 ≤ d) (h4 : st.length ≤ 4) : mb_Rn d 161 561 ls (.ref b :: st) σ Q = mb_gf σ b 8 False (fun _ => mb_Ex (d - 1) 85 [.ref b] σ (mb_qx [] d 161 564 ls st Q)) := rn_callv mb_good rfl hd rfl rfl ⟨rfl, rfl⟩ h4 ⟨Nat.le_of_ble_eq_true rfl, rfl⟩
set_option maxRecDepth 20000 in
theorem sL_law_564 {d : Nat} {Q : mb_O → mb_S → Prop} {σ : mb_S} {st : List Value} {l0 l1 l2 l3 l4 l6 : Option Value} {x : Int32} : mb_Rn d 161 564 [l0, l1, l2, l3, l4, some (.int x), l6] st σ Q = mb_Rn d 161 566 [l0, l1, l2, l3, l4, some (.int x), l6] (.int x :: st) σ Q := rn_step rfl (fun _ _ => rfl)
set_option maxRecDepth 20000 in
theorem sL_law_566 {d : Nat} {Q : mb_O → mb_S → Prop} {σ : mb_S} {st : List Value} {ls : mb_L} {x z : Int32} : mb_Rn d 161 566 ls (.int z :: .int x :: st) σ Q = if x = z then mb_Rn d 161 571 ls st σ Q else mb_Rn d 161 569 ls st σ Q := rn_ifb rfl (fun _ _ => rfl) beq_iff_eq
set_option maxRecDepth 20000 in
theorem sL_law_569 {d : Nat} {Q : mb_O → mb_S → Prop} {σ : mb_S} {st : List Value} {ls : mb_L} : mb_Rn d 161 569 ls st σ Q = mb_Rn d 161 570 ls (.int 0 :: st) σ Q := rn_step rfl (fun _ _ => rfl)
set_option maxRecDepth 20000 in
theorem sL_law_570 {d : Nat} {Q : mb_O → mb_S → Prop} {σ : mb_S}  {ls : mb_L} {x : Int32} : mb_Rn d 161 570 ls [.int x] σ Q = if x = 0 ∨ x = 1 then Q (.inl (some (.int x))) σ else False := rn_zret rfl
set_option maxRecDepth 20000 in
theorem sL_law_571 {d : Nat} {Q : mb_O → mb_S → Prop} {σ : mb_S} {st : List Value} {l0 l1 l2 l3 l4 l6 : Option Value} {x : Int32} : mb_Rn d 161 571 [l0, l1, l2, l3, l4, some (.int x), l6] st σ Q = mb_Rn d 161 573 [l0, l1, l2, l3, l4, some (.int x), l6] (.int x :: st) σ Q := rn_step rfl (fun _ _ => rfl)
set_option maxRecDepth 20000 in
theorem sL_law_573 {d : Nat} {Q : mb_O → mb_S → Prop} {σ : mb_S} {st : List Value} {ls : mb_L} {x : Int32} : mb_Rn d 161 573 ls (.int x :: st) σ Q = if x = 0 then mb_Rn d 161 576 ls st σ Q else mb_Rn d 161 588 ls st σ Q := rn_ifn rfl (fun _ _ => rfl) bne_iff_ne
set_option maxRecDepth 20000 in
theorem sL_law_576 {d : Nat} {Q : mb_O → mb_S → Prop} {σ : mb_S} {st : List Value} {l0 l1 l2 l4 l5 l6 : Option Value} {a : Nat} : mb_Rn d 161 576 [l0, l1, l2, some (.ref a), l4, l5, l6] st σ Q = mb_Rn d 161 577 [l0, l1, l2, some (.ref a), l4, l5, l6] (.ref a :: st) σ Q := rn_step rfl (fun _ _ => rfl)
set_option maxRecDepth 20000 in
theorem sL_law_576n {d : Nat} {Q : mb_O → mb_S → Prop} {σ : mb_S} {st : List Value} {l0 l1 l2 l4 l5 l6 : Option Value} : mb_Rn d 161 576 [l0, l1, l2, some (.null), l4, l5, l6] st σ Q = mb_Rn d 161 577 [l0, l1, l2, some (.null), l4, l5, l6] (.null :: st) σ Q := rn_step rfl (fun _ _ => rfl)
set_option maxRecDepth 20000 in
theorem sL_law_577 {d : Nat} {Q : mb_O → mb_S → Prop} {σ : mb_S} {st : List Value} {ls : mb_L} : mb_Rn d 161 577 ls st σ Q = mb_Rn d 161 578 ls (.int 0 :: st) σ Q := rn_step rfl (fun _ _ => rfl)
set_option maxRecDepth 20000 in
theorem sL_law_578 {d : Nat} {Q : mb_O → mb_S → Prop} {σ : mb_S} {st : List Value} {ls : mb_L} {a : Nat} {j : Int32} : mb_Rn d 161 578 ls (.int j :: .ref a :: st) σ Q = mb_gj σ a j False (fun kd _ f => if kd = 1 then mb_Rn d 161 579 ls (.long (f j.toNatClampNeg) :: st) σ Q else False) := rn_lald rfl
set_option maxRecDepth 20000 in
theorem sL_law_579 {d : Nat} {Q : mb_O → mb_S → Prop} {σ : mb_S} {st : List Value} {l0 l1 l2 l3 l4 l5 : Option Value} {x : Int32} : mb_Rn d 161 579 [l0, l1, l2, l3, l4, l5, some (.int x)] st σ Q = mb_Rn d 161 581 [l0, l1, l2, l3, l4, l5, some (.int x)] (.int x :: st) σ Q := rn_step rfl (fun _ _ => rfl)
set_option maxRecDepth 20000 in
theorem sL_law_581 {d : Nat} {Q : mb_O → mb_S → Prop} {σ : mb_S} {st : List Value} {ls : mb_L} {x : Int32} : mb_Rn d 161 581 ls (.int x :: st) σ Q = mb_Rn d 161 582 ls (.long x.toInt64 :: st) σ Q := rn_step rfl (fun _ _ => rfl)
set_option maxRecDepth 20000 in
theorem sL_law_582 {d : Nat} {Q : mb_O → mb_S → Prop} {σ : mb_S} {st : List Value} {ls : mb_L} {x z : Int64} : mb_Rn d 161 582 ls (.long z :: .long x :: st) σ Q = mb_Rn d 161 583 ls (.int (lg_cmp x z) :: st) σ Q := rn_step rfl (fun _ _ => rfl)
set_option maxRecDepth 20000 in
theorem sL_law_583 {d : Nat} {Q : mb_O → mb_S → Prop} {σ : mb_S} {st : List Value} {ls : mb_L} {x : Int32} : mb_Rn d 161 583 ls (.int x :: st) σ Q = if x = 0 then mb_Rn d 161 588 ls st σ Q else mb_Rn d 161 586 ls st σ Q := rn_ifb rfl (fun _ _ => rfl) beq_iff_eq
set_option maxRecDepth 20000 in
theorem sL_law_586 {d : Nat} {Q : mb_O → mb_S → Prop} {σ : mb_S} {st : List Value} {ls : mb_L} : mb_Rn d 161 586 ls st σ Q = mb_Rn d 161 587 ls (.int 0 :: st) σ Q := rn_step rfl (fun _ _ => rfl)
set_option maxRecDepth 20000 in
theorem sL_law_587 {d : Nat} {Q : mb_O → mb_S → Prop} {σ : mb_S}  {ls : mb_L} {x : Int32} : mb_Rn d 161 587 ls [.int x] σ Q = if x = 0 ∨ x = 1 then Q (.inl (some (.int x))) σ else False := rn_zret rfl
set_option maxRecDepth 20000 in
theorem sL_law_588 {d : Nat} {Q : mb_O → mb_S → Prop} {σ : mb_S} {st : List Value} {ls : mb_L} : mb_Rn d 161 588 ls st σ Q = mb_Rn d 161 1642 ls st σ Q := rn_step rfl (fun _ _ => rfl)
set_option maxRecDepth 20000 in
theorem sL_law_591 {d : Nat} {Q : mb_O → mb_S → Prop} {σ : mb_S} {st : List Value} {l0 l2 l3 l4 l5 l6 : Option Value} {a : Nat} : mb_Rn d 161 591 [l0, some (.ref a), l2, l3, l4, l5, l6] st σ Q = mb_Rn d 161 592 [l0, some (.ref a), l2, l3, l4, l5, l6] (.ref a :: st) σ Q := rn_step rfl (fun _ _ => rfl)
set_option maxRecDepth 20000 in
theorem sL_law_591n {d : Nat} {Q : mb_O → mb_S → Prop} {σ : mb_S} {st : List Value} {l0 l2 l3 l4 l5 l6 : Option Value} : mb_Rn d 161 591 [l0, some (.null), l2, l3, l4, l5, l6] st σ Q = mb_Rn d 161 592 [l0, some (.null), l2, l3, l4, l5, l6] (.null :: st) σ Q := rn_step rfl (fun _ _ => rfl)
set_option maxRecDepth 20000 in
theorem sL_law_592 {d : Nat} {Q : mb_O → mb_S → Prop} {σ : mb_S} {st : List Value} {l1 l2 l3 l4 l5 l6 : Option Value} {a : Nat} : mb_Rn d 161 592 [some (.ref a), l1, l2, l3, l4, l5, l6] st σ Q = mb_Rn d 161 593 [some (.ref a), l1, l2, l3, l4, l5, l6] (.ref a :: st) σ Q := rn_step rfl (fun _ _ => rfl)
set_option maxRecDepth 20000 in
theorem sL_law_592n {d : Nat} {Q : mb_O → mb_S → Prop} {σ : mb_S} {st : List Value} {l1 l2 l3 l4 l5 l6 : Option Value} : mb_Rn d 161 592 [some (.null), l1, l2, l3, l4, l5, l6] st σ Q = mb_Rn d 161 593 [some (.null), l1, l2, l3, l4, l5, l6] (.null :: st) σ Q := rn_step rfl (fun _ _ => rfl)
set_option maxRecDepth 20000 in
theorem sL_law_593 {d : Nat} {Q : mb_O → mb_S → Prop} {σ : mb_S} {st : List Value} {l0 l1 l2 l3 l5 l6 : Option Value} {x : Int32} : mb_Rn d 161 593 [l0, l1, l2, l3, some (.int x), l5, l6] st σ Q = mb_Rn d 161 595 [l0, l1, l2, l3, some (.int x), l5, l6] (.int x :: st) σ Q := rn_step rfl (fun _ _ => rfl)
set_option maxRecDepth 20000 in
theorem sL_law_595 {d : Nat} {Q : mb_O → mb_S → Prop} {σ : mb_S} {st : List Value} {ls : mb_L} : mb_Rn d 161 595 ls st σ Q = mb_Rn d 161 596 ls (.int 1 :: st) σ Q := rn_step rfl (fun _ _ => rfl)
set_option maxRecDepth 20000 in
theorem sL_law_596 {d : Nat} {Q : mb_O → mb_S → Prop} {σ : mb_S} {st : List Value} {ls : mb_L} {x z : Int32} : mb_Rn d 161 596 ls (.int z :: .int x :: st) σ Q = mb_Rn d 161 597 ls (.int (x + z) :: st) σ Q := rn_step rfl (fun _ _ => rfl)
set_option maxRecDepth 20000 in
theorem sL_law_597 {d : Nat} {Q : mb_O → mb_S → Prop} {σ : mb_S} {st : List Value} {ls : mb_L} {a : Nat} {j : Int32} : mb_Rn d 161 597 ls (.int j :: .ref a :: st) σ Q = mb_gi σ a j False (fun kd _ f => if kd = 0 ∨ kd = 9 then mb_Rn d 161 598 ls (.int (f j.toNatClampNeg) :: st) σ Q else False) := rn_iald rfl
set_option maxRecDepth 20000 in
theorem sL_law_598 {d : Nat} {Q : mb_O → mb_S → Prop} {σ : mb_S} {st : List Value} {l1 l2 l3 l4 l5 l6 : Option Value} {a : Nat} : mb_Rn d 161 598 [some (.ref a), l1, l2, l3, l4, l5, l6] st σ Q = mb_Rn d 161 599 [some (.ref a), l1, l2, l3, l4, l5, l6] (.ref a :: st) σ Q := rn_step rfl (fun _ _ => rfl)
set_option maxRecDepth 20000 in
theorem sL_law_598n {d : Nat} {Q : mb_O → mb_S → Prop} {σ : mb_S} {st : List Value} {l1 l2 l3 l4 l5 l6 : Option Value} : mb_Rn d 161 598 [some (.null), l1, l2, l3, l4, l5, l6] st σ Q = mb_Rn d 161 599 [some (.null), l1, l2, l3, l4, l5, l6] (.null :: st) σ Q := rn_step rfl (fun _ _ => rfl)
set_option maxRecDepth 20000 in
theorem sL_law_599 {d : Nat} {Q : mb_O → mb_S → Prop} {σ : mb_S} {st : List Value} {l0 l1 l2 l3 l5 l6 : Option Value} {x : Int32} : mb_Rn d 161 599 [l0, l1, l2, l3, some (.int x), l5, l6] st σ Q = mb_Rn d 161 601 [l0, l1, l2, l3, some (.int x), l5, l6] (.int x :: st) σ Q := rn_step rfl (fun _ _ => rfl)
set_option maxRecDepth 20000 in
theorem sL_law_601 {d : Nat} {Q : mb_O → mb_S → Prop} {σ : mb_S} {st : List Value} {ls : mb_L} : mb_Rn d 161 601 ls st σ Q = mb_Rn d 161 602 ls (.int 2 :: st) σ Q := rn_step rfl (fun _ _ => rfl)
set_option maxRecDepth 20000 in
theorem sL_law_602 {d : Nat} {Q : mb_O → mb_S → Prop} {σ : mb_S} {st : List Value} {ls : mb_L} {x z : Int32} : mb_Rn d 161 602 ls (.int z :: .int x :: st) σ Q = mb_Rn d 161 603 ls (.int (x + z) :: st) σ Q := rn_step rfl (fun _ _ => rfl)
set_option maxRecDepth 20000 in
theorem sL_law_603 {d : Nat} {Q : mb_O → mb_S → Prop} {σ : mb_S} {st : List Value} {ls : mb_L} {a : Nat} {j : Int32} : mb_Rn d 161 603 ls (.int j :: .ref a :: st) σ Q = mb_gi σ a j False (fun kd _ f => if kd = 0 ∨ kd = 9 then mb_Rn d 161 604 ls (.int (f j.toNatClampNeg) :: st) σ Q else False) := rn_iald rfl
set_option maxRecDepth 20000 in
theorem sL_law_604 {d : Nat} {Q : mb_O → mb_S → Prop} {σ : mb_S} {st : List Value} {l1 l2 l3 l4 l5 l6 : Option Value} {a : Nat} : mb_Rn d 161 604 [some (.ref a), l1, l2, l3, l4, l5, l6] st σ Q = mb_Rn d 161 605 [some (.ref a), l1, l2, l3, l4, l5, l6] (.ref a :: st) σ Q := rn_step rfl (fun _ _ => rfl)
set_option maxRecDepth 20000 in
theorem sL_law_604n {d : Nat} {Q : mb_O → mb_S → Prop} {σ : mb_S} {st : List Value} {l1 l2 l3 l4 l5 l6 : Option Value} : mb_Rn d 161 604 [some (.null), l1, l2, l3, l4, l5, l6] st σ Q = mb_Rn d 161 605 [some (.null), l1, l2, l3, l4, l5, l6] (.null :: st) σ Q := rn_step rfl (fun _ _ => rfl)
set_option maxRecDepth 20000 in
theorem sL_law_605 {d : Nat} {Q : mb_O → mb_S → Prop} {σ : mb_S} {st : List Value} {l0 l1 l2 l3 l5 l6 : Option Value} {x : Int32} : mb_Rn d 161 605 [l0, l1, l2, l3, some (.int x), l5, l6] st σ Q = mb_Rn d 161 607 [l0, l1, l2, l3, some (.int x), l5, l6] (.int x :: st) σ Q := rn_step rfl (fun _ _ => rfl)
set_option maxRecDepth 20000 in
theorem sL_law_607 {d : Nat} {Q : mb_O → mb_S → Prop} {σ : mb_S} {st : List Value} {ls : mb_L} : mb_Rn d 161 607 ls st σ Q = mb_Rn d 161 608 ls (.int 3 :: st) σ Q := rn_step rfl (fun _ _ => rfl)
set_option maxRecDepth 20000 in
theorem sL_law_608 {d : Nat} {Q : mb_O → mb_S → Prop} {σ : mb_S} {st : List Value} {ls : mb_L} {x z : Int32} : mb_Rn d 161 608 ls (.int z :: .int x :: st) σ Q = mb_Rn d 161 609 ls (.int (x + z) :: st) σ Q := rn_step rfl (fun _ _ => rfl)
set_option maxRecDepth 20000 in
theorem sL_law_609 {d : Nat} {Q : mb_O → mb_S → Prop} {σ : mb_S} {st : List Value} {ls : mb_L} {a : Nat} {j : Int32} : mb_Rn d 161 609 ls (.int j :: .ref a :: st) σ Q = mb_gi σ a j False (fun kd _ f => if kd = 0 ∨ kd = 9 then mb_Rn d 161 610 ls (.int (f j.toNatClampNeg) :: st) σ Q else False) := rn_iald rfl
set_option maxRecDepth 20000 in
theorem sL_law_610 {d : Nat} {Q : mb_O → mb_S → Prop} {σ : mb_S} {st : List Value} {l1 l2 l3 l4 l5 l6 : Option Value} {a : Nat} : mb_Rn d 161 610 [some (.ref a), l1, l2, l3, l4, l5, l6] st σ Q = mb_Rn d 161 611 [some (.ref a), l1, l2, l3, l4, l5, l6] (.ref a :: st) σ Q := rn_step rfl (fun _ _ => rfl)
set_option maxRecDepth 20000 in
theorem sL_law_610n {d : Nat} {Q : mb_O → mb_S → Prop} {σ : mb_S} {st : List Value} {l1 l2 l3 l4 l5 l6 : Option Value} : mb_Rn d 161 610 [some (.null), l1, l2, l3, l4, l5, l6] st σ Q = mb_Rn d 161 611 [some (.null), l1, l2, l3, l4, l5, l6] (.null :: st) σ Q := rn_step rfl (fun _ _ => rfl)
set_option maxRecDepth 20000 in
theorem sL_law_611 {d : Nat} {Q : mb_O → mb_S → Prop} {σ : mb_S} {st : List Value} {l0 l1 l2 l3 l5 l6 : Option Value} {x : Int32} : mb_Rn d 161 611 [l0, l1, l2, l3, some (.int x), l5, l6] st σ Q = mb_Rn d 161 613 [l0, l1, l2, l3, some (.int x), l5, l6] (.int x :: st) σ Q := rn_step rfl (fun _ _ => rfl)
set_option maxRecDepth 20000 in
theorem sL_law_613 {d : Nat} {Q : mb_O → mb_S → Prop} {σ : mb_S} {st : List Value} {ls : mb_L} : mb_Rn d 161 613 ls st σ Q = mb_Rn d 161 614 ls (.int 4 :: st) σ Q := rn_step rfl (fun _ _ => rfl)
set_option maxRecDepth 20000 in
theorem sL_law_614 {d : Nat} {Q : mb_O → mb_S → Prop} {σ : mb_S} {st : List Value} {ls : mb_L} {x z : Int32} : mb_Rn d 161 614 ls (.int z :: .int x :: st) σ Q = mb_Rn d 161 615 ls (.int (x + z) :: st) σ Q := rn_step rfl (fun _ _ => rfl)
set_option maxRecDepth 20000 in
theorem sL_law_615 {d : Nat} {Q : mb_O → mb_S → Prop} {σ : mb_S} {st : List Value} {ls : mb_L} {a : Nat} {j : Int32} : mb_Rn d 161 615 ls (.int j :: .ref a :: st) σ Q = mb_gi σ a j False (fun kd _ f => if kd = 0 ∨ kd = 9 then mb_Rn d 161 616 ls (.int (f j.toNatClampNeg) :: st) σ Q else False) := rn_iald rfl
set_option maxRecDepth 20000 in
theorem sL_law_616 {d : Nat} {Q : mb_O → mb_S → Prop} {σ : mb_S} {st : List Value} {l0 l1 l2 l4 l5 l6 : Option Value} {a : Nat} : mb_Rn d 161 616 [l0, l1, l2, some (.ref a), l4, l5, l6] st σ Q = mb_Rn d 161 617 [l0, l1, l2, some (.ref a), l4, l5, l6] (.ref a :: st) σ Q := rn_step rfl (fun _ _ => rfl)
set_option maxRecDepth 20000 in
theorem sL_law_616n {d : Nat} {Q : mb_O → mb_S → Prop} {σ : mb_S} {st : List Value} {l0 l1 l2 l4 l5 l6 : Option Value} : mb_Rn d 161 616 [l0, l1, l2, some (.null), l4, l5, l6] st σ Q = mb_Rn d 161 617 [l0, l1, l2, some (.null), l4, l5, l6] (.null :: st) σ Q := rn_step rfl (fun _ _ => rfl)
set_option maxRecDepth 20000 in
theorem sL_law_617 {d : Nat} {Q : mb_O → mb_S → Prop} {σ : mb_S} {st : List Value} {ls : mb_L} {p0 : Nat} {p1 : Int32} {p2 : Int32} {p3 : Int32} {p4 : Int32} {p5 : Nat} (hd : 1 ≤ d) (h4 : st.length ≤ 4) : mb_Rn d 161 617 ls (.ref p5 :: .int p4 :: .int p3 :: .int p2 :: .int p1 :: .ref p0 :: st) σ Q = mb_Ex (d - 1) 146 [.ref p0, .int p1, .int p2, .int p3, .int p4, .ref p5] σ (mb_qk d 161 620 ls st Q) := rn_calls mb_good rfl hd rfl rfl ⟨rfl, rfl⟩ h4 ⟨Nat.le_of_ble_eq_true rfl, rfl⟩
set_option maxRecDepth 20000 in
theorem sL_law_620 {d : Nat} {Q : mb_O → mb_S → Prop} {σ : mb_S} {st : List Value} {l0 l1 l2 l3 l4 l5 l6 : Option Value} {x : Int32} : mb_Rn d 161 620 [l0, l1, l2, l3, l4, l5, l6] (.int x :: st) σ Q = mb_Rn d 161 622 [l0, l1, l2, l3, l4, some (.int x), l6] st σ Q := rn_step rfl (fun _ _ => rfl)
set_option maxRecDepth 20000 in
theorem sL_law_622 {d : Nat} {Q : mb_O → mb_S → Prop} {σ : mb_S} {st : List Value} {l0 l1 l3 l4 l5 l6 : Option Value} {a : Nat} : mb_Rn d 161 622 [l0, l1, some (.ref a), l3, l4, l5, l6] st σ Q = mb_Rn d 161 623 [l0, l1, some (.ref a), l3, l4, l5, l6] (.ref a :: st) σ Q := rn_step rfl (fun _ _ => rfl)
set_option maxRecDepth 20000 in
theorem sL_law_622n {d : Nat} {Q : mb_O → mb_S → Prop} {σ : mb_S} {st : List Value} {l0 l1 l3 l4 l5 l6 : Option Value} : mb_Rn d 161 622 [l0, l1, some (.null), l3, l4, l5, l6] st σ Q = mb_Rn d 161 623 [l0, l1, some (.null), l3, l4, l5, l6] (.null :: st) σ Q := rn_step rfl (fun _ _ => rfl)
set_option maxRecDepth 20000 in
theorem sL_law_623 {d : Nat} {Q : mb_O → mb_S → Prop} {σ : mb_S} {st : List Value} {l1 l2 l3 l4 l5 l6 : Option Value} {a : Nat} : mb_Rn d 161 623 [some (.ref a), l1, l2, l3, l4, l5, l6] st σ Q = mb_Rn d 161 624 [some (.ref a), l1, l2, l3, l4, l5, l6] (.ref a :: st) σ Q := rn_step rfl (fun _ _ => rfl)
set_option maxRecDepth 20000 in
theorem sL_law_623n {d : Nat} {Q : mb_O → mb_S → Prop} {σ : mb_S} {st : List Value} {l1 l2 l3 l4 l5 l6 : Option Value} : mb_Rn d 161 623 [some (.null), l1, l2, l3, l4, l5, l6] st σ Q = mb_Rn d 161 624 [some (.null), l1, l2, l3, l4, l5, l6] (.null :: st) σ Q := rn_step rfl (fun _ _ => rfl)
set_option maxRecDepth 20000 in
theorem sL_law_624 {d : Nat} {Q : mb_O → mb_S → Prop} {σ : mb_S} {st : List Value} {l0 l1 l2 l3 l5 l6 : Option Value} {x : Int32} : mb_Rn d 161 624 [l0, l1, l2, l3, some (.int x), l5, l6] st σ Q = mb_Rn d 161 626 [l0, l1, l2, l3, some (.int x), l5, l6] (.int x :: st) σ Q := rn_step rfl (fun _ _ => rfl)
set_option maxRecDepth 20000 in
theorem sL_law_626 {d : Nat} {Q : mb_O → mb_S → Prop} {σ : mb_S} {st : List Value} {ls : mb_L} : mb_Rn d 161 626 ls st σ Q = mb_Rn d 161 627 ls (.int 1 :: st) σ Q := rn_step rfl (fun _ _ => rfl)
set_option maxRecDepth 20000 in
theorem sL_law_627 {d : Nat} {Q : mb_O → mb_S → Prop} {σ : mb_S} {st : List Value} {ls : mb_L} {x z : Int32} : mb_Rn d 161 627 ls (.int z :: .int x :: st) σ Q = mb_Rn d 161 628 ls (.int (x + z) :: st) σ Q := rn_step rfl (fun _ _ => rfl)
set_option maxRecDepth 20000 in
theorem sL_law_628 {d : Nat} {Q : mb_O → mb_S → Prop} {σ : mb_S} {st : List Value} {ls : mb_L} {a : Nat} {j : Int32} : mb_Rn d 161 628 ls (.int j :: .ref a :: st) σ Q = mb_gi σ a j False (fun kd _ f => if kd = 0 ∨ kd = 9 then mb_Rn d 161 629 ls (.int (f j.toNatClampNeg) :: st) σ Q else False) := rn_iald rfl
set_option maxRecDepth 20000 in
theorem sL_law_629 {d : Nat} {Q : mb_O → mb_S → Prop} {σ : mb_S} {st : List Value} {l1 l2 l3 l4 l5 l6 : Option Value} {a : Nat} : mb_Rn d 161 629 [some (.ref a), l1, l2, l3, l4, l5, l6] st σ Q = mb_Rn d 161 630 [some (.ref a), l1, l2, l3, l4, l5, l6] (.ref a :: st) σ Q := rn_step rfl (fun _ _ => rfl)
set_option maxRecDepth 20000 in
theorem sL_law_629n {d : Nat} {Q : mb_O → mb_S → Prop} {σ : mb_S} {st : List Value} {l1 l2 l3 l4 l5 l6 : Option Value} : mb_Rn d 161 629 [some (.null), l1, l2, l3, l4, l5, l6] st σ Q = mb_Rn d 161 630 [some (.null), l1, l2, l3, l4, l5, l6] (.null :: st) σ Q := rn_step rfl (fun _ _ => rfl)
set_option maxRecDepth 20000 in
theorem sL_law_630 {d : Nat} {Q : mb_O → mb_S → Prop} {σ : mb_S} {st : List Value} {l0 l1 l2 l3 l5 l6 : Option Value} {x : Int32} : mb_Rn d 161 630 [l0, l1, l2, l3, some (.int x), l5, l6] st σ Q = mb_Rn d 161 632 [l0, l1, l2, l3, some (.int x), l5, l6] (.int x :: st) σ Q := rn_step rfl (fun _ _ => rfl)
set_option maxRecDepth 20000 in
theorem sL_law_632 {d : Nat} {Q : mb_O → mb_S → Prop} {σ : mb_S} {st : List Value} {ls : mb_L} : mb_Rn d 161 632 ls st σ Q = mb_Rn d 161 633 ls (.int 2 :: st) σ Q := rn_step rfl (fun _ _ => rfl)
set_option maxRecDepth 20000 in
theorem sL_law_633 {d : Nat} {Q : mb_O → mb_S → Prop} {σ : mb_S} {st : List Value} {ls : mb_L} {x z : Int32} : mb_Rn d 161 633 ls (.int z :: .int x :: st) σ Q = mb_Rn d 161 634 ls (.int (x + z) :: st) σ Q := rn_step rfl (fun _ _ => rfl)
set_option maxRecDepth 20000 in
theorem sL_law_634 {d : Nat} {Q : mb_O → mb_S → Prop} {σ : mb_S} {st : List Value} {ls : mb_L} {a : Nat} {j : Int32} : mb_Rn d 161 634 ls (.int j :: .ref a :: st) σ Q = mb_gi σ a j False (fun kd _ f => if kd = 0 ∨ kd = 9 then mb_Rn d 161 635 ls (.int (f j.toNatClampNeg) :: st) σ Q else False) := rn_iald rfl
set_option maxRecDepth 20000 in
theorem sL_law_635 {d : Nat} {Q : mb_O → mb_S → Prop} {σ : mb_S} {st : List Value} {l1 l2 l3 l4 l5 l6 : Option Value} {a : Nat} : mb_Rn d 161 635 [some (.ref a), l1, l2, l3, l4, l5, l6] st σ Q = mb_Rn d 161 636 [some (.ref a), l1, l2, l3, l4, l5, l6] (.ref a :: st) σ Q := rn_step rfl (fun _ _ => rfl)
set_option maxRecDepth 20000 in
theorem sL_law_635n {d : Nat} {Q : mb_O → mb_S → Prop} {σ : mb_S} {st : List Value} {l1 l2 l3 l4 l5 l6 : Option Value} : mb_Rn d 161 635 [some (.null), l1, l2, l3, l4, l5, l6] st σ Q = mb_Rn d 161 636 [some (.null), l1, l2, l3, l4, l5, l6] (.null :: st) σ Q := rn_step rfl (fun _ _ => rfl)
set_option maxRecDepth 20000 in
theorem sL_law_636 {d : Nat} {Q : mb_O → mb_S → Prop} {σ : mb_S} {st : List Value} {l0 l1 l2 l3 l5 l6 : Option Value} {x : Int32} : mb_Rn d 161 636 [l0, l1, l2, l3, some (.int x), l5, l6] st σ Q = mb_Rn d 161 638 [l0, l1, l2, l3, some (.int x), l5, l6] (.int x :: st) σ Q := rn_step rfl (fun _ _ => rfl)
set_option maxRecDepth 20000 in
theorem sL_law_638 {d : Nat} {Q : mb_O → mb_S → Prop} {σ : mb_S} {st : List Value} {ls : mb_L} : mb_Rn d 161 638 ls st σ Q = mb_Rn d 161 639 ls (.int 3 :: st) σ Q := rn_step rfl (fun _ _ => rfl)
set_option maxRecDepth 20000 in
theorem sL_law_639 {d : Nat} {Q : mb_O → mb_S → Prop} {σ : mb_S} {st : List Value} {ls : mb_L} {x z : Int32} : mb_Rn d 161 639 ls (.int z :: .int x :: st) σ Q = mb_Rn d 161 640 ls (.int (x + z) :: st) σ Q := rn_step rfl (fun _ _ => rfl)
set_option maxRecDepth 20000 in
theorem sL_law_640 {d : Nat} {Q : mb_O → mb_S → Prop} {σ : mb_S} {st : List Value} {ls : mb_L} {a : Nat} {j : Int32} : mb_Rn d 161 640 ls (.int j :: .ref a :: st) σ Q = mb_gi σ a j False (fun kd _ f => if kd = 0 ∨ kd = 9 then mb_Rn d 161 641 ls (.int (f j.toNatClampNeg) :: st) σ Q else False) := rn_iald rfl
set_option maxRecDepth 20000 in
theorem sL_law_641 {d : Nat} {Q : mb_O → mb_S → Prop} {σ : mb_S} {st : List Value} {l1 l2 l3 l4 l5 l6 : Option Value} {a : Nat} : mb_Rn d 161 641 [some (.ref a), l1, l2, l3, l4, l5, l6] st σ Q = mb_Rn d 161 642 [some (.ref a), l1, l2, l3, l4, l5, l6] (.ref a :: st) σ Q := rn_step rfl (fun _ _ => rfl)
set_option maxRecDepth 20000 in
theorem sL_law_641n {d : Nat} {Q : mb_O → mb_S → Prop} {σ : mb_S} {st : List Value} {l1 l2 l3 l4 l5 l6 : Option Value} : mb_Rn d 161 641 [some (.null), l1, l2, l3, l4, l5, l6] st σ Q = mb_Rn d 161 642 [some (.null), l1, l2, l3, l4, l5, l6] (.null :: st) σ Q := rn_step rfl (fun _ _ => rfl)
set_option maxRecDepth 20000 in
theorem sL_law_642 {d : Nat} {Q : mb_O → mb_S → Prop} {σ : mb_S} {st : List Value} {l0 l1 l2 l3 l5 l6 : Option Value} {x : Int32} : mb_Rn d 161 642 [l0, l1, l2, l3, some (.int x), l5, l6] st σ Q = mb_Rn d 161 644 [l0, l1, l2, l3, some (.int x), l5, l6] (.int x :: st) σ Q := rn_step rfl (fun _ _ => rfl)
set_option maxRecDepth 20000 in
theorem sL_law_644 {d : Nat} {Q : mb_O → mb_S → Prop} {σ : mb_S} {st : List Value} {ls : mb_L} : mb_Rn d 161 644 ls st σ Q = mb_Rn d 161 645 ls (.int 4 :: st) σ Q := rn_step rfl (fun _ _ => rfl)
set_option maxRecDepth 20000 in
theorem sL_law_645 {d : Nat} {Q : mb_O → mb_S → Prop} {σ : mb_S} {st : List Value} {ls : mb_L} {x z : Int32} : mb_Rn d 161 645 ls (.int z :: .int x :: st) σ Q = mb_Rn d 161 646 ls (.int (x + z) :: st) σ Q := rn_step rfl (fun _ _ => rfl)
set_option maxRecDepth 20000 in
theorem sL_law_646 {d : Nat} {Q : mb_O → mb_S → Prop} {σ : mb_S} {st : List Value} {ls : mb_L} {a : Nat} {j : Int32} : mb_Rn d 161 646 ls (.int j :: .ref a :: st) σ Q = mb_gi σ a j False (fun kd _ f => if kd = 0 ∨ kd = 9 then mb_Rn d 161 647 ls (.int (f j.toNatClampNeg) :: st) σ Q else False) := rn_iald rfl
set_option maxRecDepth 20000 in
theorem sL_law_647 {d : Nat} {Q : mb_O → mb_S → Prop} {σ : mb_S} {st : List Value} {ls : mb_L} {p0 : Int32} {p1 : Int32} {p2 : Int32} {p3 : Int32} {b : Nat} (hd : 1 ≤ d) (h4 : st.length ≤ 4) : mb_Rn d 161 647 ls (.int p3 :: .int p2 :: .int p1 :: .int p0 :: .ref b :: st) σ Q = mb_gf σ b 8 False (fun _ => mb_Ex (d - 1) 108 [.ref b, .int p0, .int p1, .int p2, .int p3] σ (mb_qx [] d 161 650 ls st Q)) := rn_callv mb_good rfl hd rfl rfl ⟨rfl, rfl⟩ h4 ⟨Nat.le_of_ble_eq_true rfl, rfl⟩
set_option maxRecDepth 20000 in
theorem sL_law_650 {d : Nat} {Q : mb_O → mb_S → Prop} {σ : mb_S} {st : List Value} {l0 l1 l2 l3 l4 l5 l6 : Option Value} {x : Int32} : mb_Rn d 161 650 [l0, l1, l2, l3, l4, l5, l6] (.int x :: st) σ Q = mb_Rn d 161 652 [l0, l1, l2, l3, l4, l5, some (.int x)] st σ Q := rn_step rfl (fun _ _ => rfl)
set_option maxRecDepth 20000 in
theorem sL_law_652 {d : Nat} {Q : mb_O → mb_S → Prop} {σ : mb_S} {st : List Value} {l0 l1 l3 l4 l5 l6 : Option Value} {a : Nat} : mb_Rn d 161 652 [l0, l1, some (.ref a), l3, l4, l5, l6] st σ Q = mb_Rn d 161 653 [l0, l1, some (.ref a), l3, l4, l5, l6] (.ref a :: st) σ Q := rn_step rfl (fun _ _ => rfl)
set_option maxRecDepth 20000 in
theorem sL_law_652n {d : Nat} {Q : mb_O → mb_S → Prop} {σ : mb_S} {st : List Value} {l0 l1 l3 l4 l5 l6 : Option Value} : mb_Rn d 161 652 [l0, l1, some (.null), l3, l4, l5, l6] st σ Q = mb_Rn d 161 653 [l0, l1, some (.null), l3, l4, l5, l6] (.null :: st) σ Q := rn_step rfl (fun _ _ => rfl)
set_option maxRecDepth 20000 in
theorem sL_law_653 {d : Nat} {Q : mb_O → mb_S → Prop} {σ : mb_S} {st : List Value} {ls : mb_L} {b : Nat} (hd : 1 ≤ d) (h4 : st.length ≤ 4) : mb_Rn d 161 653 ls (.ref b :: st) σ Q = mb_gf σ b 8 False (fun _ => mb_Ex (d - 1) 85 [.ref b] σ (mb_qx [] d 161 656 ls st Q)) := rn_callv mb_good rfl hd rfl rfl ⟨rfl, rfl⟩ h4 ⟨Nat.le_of_ble_eq_true rfl, rfl⟩
set_option maxRecDepth 20000 in
theorem sL_law_656 {d : Nat} {Q : mb_O → mb_S → Prop} {σ : mb_S} {st : List Value} {l0 l1 l2 l3 l4 l6 : Option Value} {x : Int32} : mb_Rn d 161 656 [l0, l1, l2, l3, l4, some (.int x), l6] st σ Q = mb_Rn d 161 658 [l0, l1, l2, l3, l4, some (.int x), l6] (.int x :: st) σ Q := rn_step rfl (fun _ _ => rfl)
set_option maxRecDepth 20000 in
theorem sL_law_658 {d : Nat} {Q : mb_O → mb_S → Prop} {σ : mb_S} {st : List Value} {ls : mb_L} {x z : Int32} : mb_Rn d 161 658 ls (.int z :: .int x :: st) σ Q = if x = z then mb_Rn d 161 663 ls st σ Q else mb_Rn d 161 661 ls st σ Q := rn_ifb rfl (fun _ _ => rfl) beq_iff_eq
set_option maxRecDepth 20000 in
theorem sL_law_661 {d : Nat} {Q : mb_O → mb_S → Prop} {σ : mb_S} {st : List Value} {ls : mb_L} : mb_Rn d 161 661 ls st σ Q = mb_Rn d 161 662 ls (.int 0 :: st) σ Q := rn_step rfl (fun _ _ => rfl)
set_option maxRecDepth 20000 in
theorem sL_law_662 {d : Nat} {Q : mb_O → mb_S → Prop} {σ : mb_S}  {ls : mb_L} {x : Int32} : mb_Rn d 161 662 ls [.int x] σ Q = if x = 0 ∨ x = 1 then Q (.inl (some (.int x))) σ else False := rn_zret rfl
set_option maxRecDepth 20000 in
theorem sL_law_663 {d : Nat} {Q : mb_O → mb_S → Prop} {σ : mb_S} {st : List Value} {l0 l1 l2 l3 l4 l6 : Option Value} {x : Int32} : mb_Rn d 161 663 [l0, l1, l2, l3, l4, some (.int x), l6] st σ Q = mb_Rn d 161 665 [l0, l1, l2, l3, l4, some (.int x), l6] (.int x :: st) σ Q := rn_step rfl (fun _ _ => rfl)
set_option maxRecDepth 20000 in
theorem sL_law_665 {d : Nat} {Q : mb_O → mb_S → Prop} {σ : mb_S} {st : List Value} {ls : mb_L} {x : Int32} : mb_Rn d 161 665 ls (.int x :: st) σ Q = if x = 0 then mb_Rn d 161 668 ls st σ Q else mb_Rn d 161 680 ls st σ Q := rn_ifn rfl (fun _ _ => rfl) bne_iff_ne
set_option maxRecDepth 20000 in
theorem sL_law_668 {d : Nat} {Q : mb_O → mb_S → Prop} {σ : mb_S} {st : List Value} {l0 l1 l2 l4 l5 l6 : Option Value} {a : Nat} : mb_Rn d 161 668 [l0, l1, l2, some (.ref a), l4, l5, l6] st σ Q = mb_Rn d 161 669 [l0, l1, l2, some (.ref a), l4, l5, l6] (.ref a :: st) σ Q := rn_step rfl (fun _ _ => rfl)
set_option maxRecDepth 20000 in
theorem sL_law_668n {d : Nat} {Q : mb_O → mb_S → Prop} {σ : mb_S} {st : List Value} {l0 l1 l2 l4 l5 l6 : Option Value} : mb_Rn d 161 668 [l0, l1, l2, some (.null), l4, l5, l6] st σ Q = mb_Rn d 161 669 [l0, l1, l2, some (.null), l4, l5, l6] (.null :: st) σ Q := rn_step rfl (fun _ _ => rfl)
set_option maxRecDepth 20000 in
theorem sL_law_669 {d : Nat} {Q : mb_O → mb_S → Prop} {σ : mb_S} {st : List Value} {ls : mb_L} : mb_Rn d 161 669 ls st σ Q = mb_Rn d 161 670 ls (.int 0 :: st) σ Q := rn_step rfl (fun _ _ => rfl)
set_option maxRecDepth 20000 in
theorem sL_law_670 {d : Nat} {Q : mb_O → mb_S → Prop} {σ : mb_S} {st : List Value} {ls : mb_L} {a : Nat} {j : Int32} : mb_Rn d 161 670 ls (.int j :: .ref a :: st) σ Q = mb_gj σ a j False (fun kd _ f => if kd = 1 then mb_Rn d 161 671 ls (.long (f j.toNatClampNeg) :: st) σ Q else False) := rn_lald rfl
set_option maxRecDepth 20000 in
theorem sL_law_671 {d : Nat} {Q : mb_O → mb_S → Prop} {σ : mb_S} {st : List Value} {l0 l1 l2 l3 l4 l5 : Option Value} {x : Int32} : mb_Rn d 161 671 [l0, l1, l2, l3, l4, l5, some (.int x)] st σ Q = mb_Rn d 161 673 [l0, l1, l2, l3, l4, l5, some (.int x)] (.int x :: st) σ Q := rn_step rfl (fun _ _ => rfl)
set_option maxRecDepth 20000 in
theorem sL_law_673 {d : Nat} {Q : mb_O → mb_S → Prop} {σ : mb_S} {st : List Value} {ls : mb_L} {x : Int32} : mb_Rn d 161 673 ls (.int x :: st) σ Q = mb_Rn d 161 674 ls (.long x.toInt64 :: st) σ Q := rn_step rfl (fun _ _ => rfl)
set_option maxRecDepth 20000 in
theorem sL_law_674 {d : Nat} {Q : mb_O → mb_S → Prop} {σ : mb_S} {st : List Value} {ls : mb_L} {x z : Int64} : mb_Rn d 161 674 ls (.long z :: .long x :: st) σ Q = mb_Rn d 161 675 ls (.int (lg_cmp x z) :: st) σ Q := rn_step rfl (fun _ _ => rfl)
set_option maxRecDepth 20000 in
theorem sL_law_675 {d : Nat} {Q : mb_O → mb_S → Prop} {σ : mb_S} {st : List Value} {ls : mb_L} {x : Int32} : mb_Rn d 161 675 ls (.int x :: st) σ Q = if x = 0 then mb_Rn d 161 680 ls st σ Q else mb_Rn d 161 678 ls st σ Q := rn_ifb rfl (fun _ _ => rfl) beq_iff_eq
set_option maxRecDepth 20000 in
theorem sL_law_678 {d : Nat} {Q : mb_O → mb_S → Prop} {σ : mb_S} {st : List Value} {ls : mb_L} : mb_Rn d 161 678 ls st σ Q = mb_Rn d 161 679 ls (.int 0 :: st) σ Q := rn_step rfl (fun _ _ => rfl)
set_option maxRecDepth 20000 in
theorem sL_law_679 {d : Nat} {Q : mb_O → mb_S → Prop} {σ : mb_S}  {ls : mb_L} {x : Int32} : mb_Rn d 161 679 ls [.int x] σ Q = if x = 0 ∨ x = 1 then Q (.inl (some (.int x))) σ else False := rn_zret rfl
set_option maxRecDepth 20000 in
theorem sL_law_680 {d : Nat} {Q : mb_O → mb_S → Prop} {σ : mb_S} {st : List Value} {ls : mb_L} : mb_Rn d 161 680 ls st σ Q = mb_Rn d 161 1642 ls st σ Q := rn_step rfl (fun _ _ => rfl)
set_option maxRecDepth 20000 in
theorem sL_law_683 {d : Nat} {Q : mb_O → mb_S → Prop} {σ : mb_S} {st : List Value} {l0 l2 l3 l4 l5 l6 : Option Value} {a : Nat} : mb_Rn d 161 683 [l0, some (.ref a), l2, l3, l4, l5, l6] st σ Q = mb_Rn d 161 684 [l0, some (.ref a), l2, l3, l4, l5, l6] (.ref a :: st) σ Q := rn_step rfl (fun _ _ => rfl)
set_option maxRecDepth 20000 in
theorem sL_law_683n {d : Nat} {Q : mb_O → mb_S → Prop} {σ : mb_S} {st : List Value} {l0 l2 l3 l4 l5 l6 : Option Value} : mb_Rn d 161 683 [l0, some (.null), l2, l3, l4, l5, l6] st σ Q = mb_Rn d 161 684 [l0, some (.null), l2, l3, l4, l5, l6] (.null :: st) σ Q := rn_step rfl (fun _ _ => rfl)
set_option maxRecDepth 20000 in
theorem sL_law_684 {d : Nat} {Q : mb_O → mb_S → Prop} {σ : mb_S} {st : List Value} {l1 l2 l3 l4 l5 l6 : Option Value} {a : Nat} : mb_Rn d 161 684 [some (.ref a), l1, l2, l3, l4, l5, l6] st σ Q = mb_Rn d 161 685 [some (.ref a), l1, l2, l3, l4, l5, l6] (.ref a :: st) σ Q := rn_step rfl (fun _ _ => rfl)
set_option maxRecDepth 20000 in
theorem sL_law_684n {d : Nat} {Q : mb_O → mb_S → Prop} {σ : mb_S} {st : List Value} {l1 l2 l3 l4 l5 l6 : Option Value} : mb_Rn d 161 684 [some (.null), l1, l2, l3, l4, l5, l6] st σ Q = mb_Rn d 161 685 [some (.null), l1, l2, l3, l4, l5, l6] (.null :: st) σ Q := rn_step rfl (fun _ _ => rfl)
set_option maxRecDepth 20000 in
theorem sL_law_685 {d : Nat} {Q : mb_O → mb_S → Prop} {σ : mb_S} {st : List Value} {l0 l1 l2 l3 l5 l6 : Option Value} {x : Int32} : mb_Rn d 161 685 [l0, l1, l2, l3, some (.int x), l5, l6] st σ Q = mb_Rn d 161 687 [l0, l1, l2, l3, some (.int x), l5, l6] (.int x :: st) σ Q := rn_step rfl (fun _ _ => rfl)
set_option maxRecDepth 20000 in
theorem sL_law_687 {d : Nat} {Q : mb_O → mb_S → Prop} {σ : mb_S} {st : List Value} {ls : mb_L} : mb_Rn d 161 687 ls st σ Q = mb_Rn d 161 688 ls (.int 1 :: st) σ Q := rn_step rfl (fun _ _ => rfl)
set_option maxRecDepth 20000 in
theorem sL_law_688 {d : Nat} {Q : mb_O → mb_S → Prop} {σ : mb_S} {st : List Value} {ls : mb_L} {x z : Int32} : mb_Rn d 161 688 ls (.int z :: .int x :: st) σ Q = mb_Rn d 161 689 ls (.int (x + z) :: st) σ Q := rn_step rfl (fun _ _ => rfl)
set_option maxRecDepth 20000 in
theorem sL_law_689 {d : Nat} {Q : mb_O → mb_S → Prop} {σ : mb_S} {st : List Value} {ls : mb_L} {a : Nat} {j : Int32} : mb_Rn d 161 689 ls (.int j :: .ref a :: st) σ Q = mb_gi σ a j False (fun kd _ f => if kd = 0 ∨ kd = 9 then mb_Rn d 161 690 ls (.int (f j.toNatClampNeg) :: st) σ Q else False) := rn_iald rfl
set_option maxRecDepth 20000 in
theorem sL_law_690 {d : Nat} {Q : mb_O → mb_S → Prop} {σ : mb_S} {st : List Value} {l1 l2 l3 l4 l5 l6 : Option Value} {a : Nat} : mb_Rn d 161 690 [some (.ref a), l1, l2, l3, l4, l5, l6] st σ Q = mb_Rn d 161 691 [some (.ref a), l1, l2, l3, l4, l5, l6] (.ref a :: st) σ Q := rn_step rfl (fun _ _ => rfl)
set_option maxRecDepth 20000 in
theorem sL_law_690n {d : Nat} {Q : mb_O → mb_S → Prop} {σ : mb_S} {st : List Value} {l1 l2 l3 l4 l5 l6 : Option Value} : mb_Rn d 161 690 [some (.null), l1, l2, l3, l4, l5, l6] st σ Q = mb_Rn d 161 691 [some (.null), l1, l2, l3, l4, l5, l6] (.null :: st) σ Q := rn_step rfl (fun _ _ => rfl)
set_option maxRecDepth 20000 in
theorem sL_law_691 {d : Nat} {Q : mb_O → mb_S → Prop} {σ : mb_S} {st : List Value} {l0 l1 l2 l3 l5 l6 : Option Value} {x : Int32} : mb_Rn d 161 691 [l0, l1, l2, l3, some (.int x), l5, l6] st σ Q = mb_Rn d 161 693 [l0, l1, l2, l3, some (.int x), l5, l6] (.int x :: st) σ Q := rn_step rfl (fun _ _ => rfl)
set_option maxRecDepth 20000 in
theorem sL_law_693 {d : Nat} {Q : mb_O → mb_S → Prop} {σ : mb_S} {st : List Value} {ls : mb_L} : mb_Rn d 161 693 ls st σ Q = mb_Rn d 161 694 ls (.int 2 :: st) σ Q := rn_step rfl (fun _ _ => rfl)
set_option maxRecDepth 20000 in
theorem sL_law_694 {d : Nat} {Q : mb_O → mb_S → Prop} {σ : mb_S} {st : List Value} {ls : mb_L} {x z : Int32} : mb_Rn d 161 694 ls (.int z :: .int x :: st) σ Q = mb_Rn d 161 695 ls (.int (x + z) :: st) σ Q := rn_step rfl (fun _ _ => rfl)
set_option maxRecDepth 20000 in
theorem sL_law_695 {d : Nat} {Q : mb_O → mb_S → Prop} {σ : mb_S} {st : List Value} {ls : mb_L} {a : Nat} {j : Int32} : mb_Rn d 161 695 ls (.int j :: .ref a :: st) σ Q = mb_gi σ a j False (fun kd _ f => if kd = 0 ∨ kd = 9 then mb_Rn d 161 696 ls (.int (f j.toNatClampNeg) :: st) σ Q else False) := rn_iald rfl
set_option maxRecDepth 20000 in
theorem sL_law_696 {d : Nat} {Q : mb_O → mb_S → Prop} {σ : mb_S} {st : List Value} {l0 l1 l2 l4 l5 l6 : Option Value} {a : Nat} : mb_Rn d 161 696 [l0, l1, l2, some (.ref a), l4, l5, l6] st σ Q = mb_Rn d 161 697 [l0, l1, l2, some (.ref a), l4, l5, l6] (.ref a :: st) σ Q := rn_step rfl (fun _ _ => rfl)
set_option maxRecDepth 20000 in
theorem sL_law_696n {d : Nat} {Q : mb_O → mb_S → Prop} {σ : mb_S} {st : List Value} {l0 l1 l2 l4 l5 l6 : Option Value} : mb_Rn d 161 696 [l0, l1, l2, some (.null), l4, l5, l6] st σ Q = mb_Rn d 161 697 [l0, l1, l2, some (.null), l4, l5, l6] (.null :: st) σ Q := rn_step rfl (fun _ _ => rfl)
set_option maxRecDepth 20000 in
theorem sL_law_697 {d : Nat} {Q : mb_O → mb_S → Prop} {σ : mb_S} {st : List Value} {ls : mb_L} {p0 : Nat} {p1 : Int32} {p2 : Int32} {p3 : Nat} (hd : 1 ≤ d) (h4 : st.length ≤ 4) : mb_Rn d 161 697 ls (.ref p3 :: .int p2 :: .int p1 :: .ref p0 :: st) σ Q = mb_Ex (d - 1) 147 [.ref p0, .int p1, .int p2, .ref p3] σ (mb_qk d 161 700 ls st Q) := rn_calls mb_good rfl hd rfl rfl ⟨rfl, rfl⟩ h4 ⟨Nat.le_of_ble_eq_true rfl, rfl⟩
set_option maxRecDepth 20000 in
theorem sL_law_700 {d : Nat} {Q : mb_O → mb_S → Prop} {σ : mb_S} {st : List Value} {l0 l1 l2 l3 l4 l5 l6 : Option Value} {x : Int32} : mb_Rn d 161 700 [l0, l1, l2, l3, l4, l5, l6] (.int x :: st) σ Q = mb_Rn d 161 702 [l0, l1, l2, l3, l4, some (.int x), l6] st σ Q := rn_step rfl (fun _ _ => rfl)
set_option maxRecDepth 20000 in
theorem sL_law_702 {d : Nat} {Q : mb_O → mb_S → Prop} {σ : mb_S} {st : List Value} {l0 l1 l3 l4 l5 l6 : Option Value} {a : Nat} : mb_Rn d 161 702 [l0, l1, some (.ref a), l3, l4, l5, l6] st σ Q = mb_Rn d 161 703 [l0, l1, some (.ref a), l3, l4, l5, l6] (.ref a :: st) σ Q := rn_step rfl (fun _ _ => rfl)
set_option maxRecDepth 20000 in
theorem sL_law_702n {d : Nat} {Q : mb_O → mb_S → Prop} {σ : mb_S} {st : List Value} {l0 l1 l3 l4 l5 l6 : Option Value} : mb_Rn d 161 702 [l0, l1, some (.null), l3, l4, l5, l6] st σ Q = mb_Rn d 161 703 [l0, l1, some (.null), l3, l4, l5, l6] (.null :: st) σ Q := rn_step rfl (fun _ _ => rfl)
set_option maxRecDepth 20000 in
theorem sL_law_703 {d : Nat} {Q : mb_O → mb_S → Prop} {σ : mb_S} {st : List Value} {l1 l2 l3 l4 l5 l6 : Option Value} {a : Nat} : mb_Rn d 161 703 [some (.ref a), l1, l2, l3, l4, l5, l6] st σ Q = mb_Rn d 161 704 [some (.ref a), l1, l2, l3, l4, l5, l6] (.ref a :: st) σ Q := rn_step rfl (fun _ _ => rfl)
set_option maxRecDepth 20000 in
theorem sL_law_703n {d : Nat} {Q : mb_O → mb_S → Prop} {σ : mb_S} {st : List Value} {l1 l2 l3 l4 l5 l6 : Option Value} : mb_Rn d 161 703 [some (.null), l1, l2, l3, l4, l5, l6] st σ Q = mb_Rn d 161 704 [some (.null), l1, l2, l3, l4, l5, l6] (.null :: st) σ Q := rn_step rfl (fun _ _ => rfl)
set_option maxRecDepth 20000 in
theorem sL_law_704 {d : Nat} {Q : mb_O → mb_S → Prop} {σ : mb_S} {st : List Value} {l0 l1 l2 l3 l5 l6 : Option Value} {x : Int32} : mb_Rn d 161 704 [l0, l1, l2, l3, some (.int x), l5, l6] st σ Q = mb_Rn d 161 706 [l0, l1, l2, l3, some (.int x), l5, l6] (.int x :: st) σ Q := rn_step rfl (fun _ _ => rfl)
set_option maxRecDepth 20000 in
theorem sL_law_706 {d : Nat} {Q : mb_O → mb_S → Prop} {σ : mb_S} {st : List Value} {ls : mb_L} : mb_Rn d 161 706 ls st σ Q = mb_Rn d 161 707 ls (.int 1 :: st) σ Q := rn_step rfl (fun _ _ => rfl)
set_option maxRecDepth 20000 in
theorem sL_law_707 {d : Nat} {Q : mb_O → mb_S → Prop} {σ : mb_S} {st : List Value} {ls : mb_L} {x z : Int32} : mb_Rn d 161 707 ls (.int z :: .int x :: st) σ Q = mb_Rn d 161 708 ls (.int (x + z) :: st) σ Q := rn_step rfl (fun _ _ => rfl)
set_option maxRecDepth 20000 in
theorem sL_law_708 {d : Nat} {Q : mb_O → mb_S → Prop} {σ : mb_S} {st : List Value} {ls : mb_L} {a : Nat} {j : Int32} : mb_Rn d 161 708 ls (.int j :: .ref a :: st) σ Q = mb_gi σ a j False (fun kd _ f => if kd = 0 ∨ kd = 9 then mb_Rn d 161 709 ls (.int (f j.toNatClampNeg) :: st) σ Q else False) := rn_iald rfl
set_option maxRecDepth 20000 in
theorem sL_law_709 {d : Nat} {Q : mb_O → mb_S → Prop} {σ : mb_S} {st : List Value} {l1 l2 l3 l4 l5 l6 : Option Value} {a : Nat} : mb_Rn d 161 709 [some (.ref a), l1, l2, l3, l4, l5, l6] st σ Q = mb_Rn d 161 710 [some (.ref a), l1, l2, l3, l4, l5, l6] (.ref a :: st) σ Q := rn_step rfl (fun _ _ => rfl)
set_option maxRecDepth 20000 in
theorem sL_law_709n {d : Nat} {Q : mb_O → mb_S → Prop} {σ : mb_S} {st : List Value} {l1 l2 l3 l4 l5 l6 : Option Value} : mb_Rn d 161 709 [some (.null), l1, l2, l3, l4, l5, l6] st σ Q = mb_Rn d 161 710 [some (.null), l1, l2, l3, l4, l5, l6] (.null :: st) σ Q := rn_step rfl (fun _ _ => rfl)
set_option maxRecDepth 20000 in
theorem sL_law_710 {d : Nat} {Q : mb_O → mb_S → Prop} {σ : mb_S} {st : List Value} {l0 l1 l2 l3 l5 l6 : Option Value} {x : Int32} : mb_Rn d 161 710 [l0, l1, l2, l3, some (.int x), l5, l6] st σ Q = mb_Rn d 161 712 [l0, l1, l2, l3, some (.int x), l5, l6] (.int x :: st) σ Q := rn_step rfl (fun _ _ => rfl)
set_option maxRecDepth 20000 in
theorem sL_law_712 {d : Nat} {Q : mb_O → mb_S → Prop} {σ : mb_S} {st : List Value} {ls : mb_L} : mb_Rn d 161 712 ls st σ Q = mb_Rn d 161 713 ls (.int 2 :: st) σ Q := rn_step rfl (fun _ _ => rfl)
set_option maxRecDepth 20000 in
theorem sL_law_713 {d : Nat} {Q : mb_O → mb_S → Prop} {σ : mb_S} {st : List Value} {ls : mb_L} {x z : Int32} : mb_Rn d 161 713 ls (.int z :: .int x :: st) σ Q = mb_Rn d 161 714 ls (.int (x + z) :: st) σ Q := rn_step rfl (fun _ _ => rfl)
set_option maxRecDepth 20000 in
theorem sL_law_714 {d : Nat} {Q : mb_O → mb_S → Prop} {σ : mb_S} {st : List Value} {ls : mb_L} {a : Nat} {j : Int32} : mb_Rn d 161 714 ls (.int j :: .ref a :: st) σ Q = mb_gi σ a j False (fun kd _ f => if kd = 0 ∨ kd = 9 then mb_Rn d 161 715 ls (.int (f j.toNatClampNeg) :: st) σ Q else False) := rn_iald rfl
set_option maxRecDepth 20000 in
theorem sL_law_715 {d : Nat} {Q : mb_O → mb_S → Prop} {σ : mb_S} {st : List Value} {ls : mb_L} {p0 : Int32} {p1 : Int32} {b : Nat} (hd : 1 ≤ d) (h4 : st.length ≤ 4) : mb_Rn d 161 715 ls (.int p1 :: .int p0 :: .ref b :: st) σ Q = mb_gf σ b 8 False (fun _ => mb_Ex (d - 1) 110 [.ref b, .int p0, .int p1] σ (mb_qx [] d 161 718 ls st Q)) := rn_callv mb_good rfl hd rfl rfl ⟨rfl, rfl⟩ h4 ⟨Nat.le_of_ble_eq_true rfl, rfl⟩
set_option maxRecDepth 20000 in
theorem sL_law_718 {d : Nat} {Q : mb_O → mb_S → Prop} {σ : mb_S} {st : List Value} {l0 l1 l2 l3 l4 l5 l6 : Option Value} {x : Int32} : mb_Rn d 161 718 [l0, l1, l2, l3, l4, l5, l6] (.int x :: st) σ Q = mb_Rn d 161 720 [l0, l1, l2, l3, l4, l5, some (.int x)] st σ Q := rn_step rfl (fun _ _ => rfl)
set_option maxRecDepth 20000 in
theorem sL_law_720 {d : Nat} {Q : mb_O → mb_S → Prop} {σ : mb_S} {st : List Value} {l0 l1 l3 l4 l5 l6 : Option Value} {a : Nat} : mb_Rn d 161 720 [l0, l1, some (.ref a), l3, l4, l5, l6] st σ Q = mb_Rn d 161 721 [l0, l1, some (.ref a), l3, l4, l5, l6] (.ref a :: st) σ Q := rn_step rfl (fun _ _ => rfl)
set_option maxRecDepth 20000 in
theorem sL_law_720n {d : Nat} {Q : mb_O → mb_S → Prop} {σ : mb_S} {st : List Value} {l0 l1 l3 l4 l5 l6 : Option Value} : mb_Rn d 161 720 [l0, l1, some (.null), l3, l4, l5, l6] st σ Q = mb_Rn d 161 721 [l0, l1, some (.null), l3, l4, l5, l6] (.null :: st) σ Q := rn_step rfl (fun _ _ => rfl)
set_option maxRecDepth 20000 in
theorem sL_law_721 {d : Nat} {Q : mb_O → mb_S → Prop} {σ : mb_S} {st : List Value} {ls : mb_L} {b : Nat} (hd : 1 ≤ d) (h4 : st.length ≤ 4) : mb_Rn d 161 721 ls (.ref b :: st) σ Q = mb_gf σ b 8 False (fun _ => mb_Ex (d - 1) 85 [.ref b] σ (mb_qx [] d 161 724 ls st Q)) := rn_callv mb_good rfl hd rfl rfl ⟨rfl, rfl⟩ h4 ⟨Nat.le_of_ble_eq_true rfl, rfl⟩
set_option maxRecDepth 20000 in
theorem sL_law_724 {d : Nat} {Q : mb_O → mb_S → Prop} {σ : mb_S} {st : List Value} {l0 l1 l2 l3 l4 l6 : Option Value} {x : Int32} : mb_Rn d 161 724 [l0, l1, l2, l3, l4, some (.int x), l6] st σ Q = mb_Rn d 161 726 [l0, l1, l2, l3, l4, some (.int x), l6] (.int x :: st) σ Q := rn_step rfl (fun _ _ => rfl)
set_option maxRecDepth 20000 in
theorem sL_law_726 {d : Nat} {Q : mb_O → mb_S → Prop} {σ : mb_S} {st : List Value} {ls : mb_L} {x z : Int32} : mb_Rn d 161 726 ls (.int z :: .int x :: st) σ Q = if x = z then mb_Rn d 161 731 ls st σ Q else mb_Rn d 161 729 ls st σ Q := rn_ifb rfl (fun _ _ => rfl) beq_iff_eq
set_option maxRecDepth 20000 in
theorem sL_law_729 {d : Nat} {Q : mb_O → mb_S → Prop} {σ : mb_S} {st : List Value} {ls : mb_L} : mb_Rn d 161 729 ls st σ Q = mb_Rn d 161 730 ls (.int 0 :: st) σ Q := rn_step rfl (fun _ _ => rfl)
set_option maxRecDepth 20000 in
theorem sL_law_730 {d : Nat} {Q : mb_O → mb_S → Prop} {σ : mb_S}  {ls : mb_L} {x : Int32} : mb_Rn d 161 730 ls [.int x] σ Q = if x = 0 ∨ x = 1 then Q (.inl (some (.int x))) σ else False := rn_zret rfl
set_option maxRecDepth 20000 in
theorem sL_law_731 {d : Nat} {Q : mb_O → mb_S → Prop} {σ : mb_S} {st : List Value} {l0 l1 l2 l3 l4 l6 : Option Value} {x : Int32} : mb_Rn d 161 731 [l0, l1, l2, l3, l4, some (.int x), l6] st σ Q = mb_Rn d 161 733 [l0, l1, l2, l3, l4, some (.int x), l6] (.int x :: st) σ Q := rn_step rfl (fun _ _ => rfl)
set_option maxRecDepth 20000 in
theorem sL_law_733 {d : Nat} {Q : mb_O → mb_S → Prop} {σ : mb_S} {st : List Value} {ls : mb_L} {x : Int32} : mb_Rn d 161 733 ls (.int x :: st) σ Q = if x = 0 then mb_Rn d 161 736 ls st σ Q else mb_Rn d 161 748 ls st σ Q := rn_ifn rfl (fun _ _ => rfl) bne_iff_ne
set_option maxRecDepth 20000 in
theorem sL_law_736 {d : Nat} {Q : mb_O → mb_S → Prop} {σ : mb_S} {st : List Value} {l0 l1 l2 l4 l5 l6 : Option Value} {a : Nat} : mb_Rn d 161 736 [l0, l1, l2, some (.ref a), l4, l5, l6] st σ Q = mb_Rn d 161 737 [l0, l1, l2, some (.ref a), l4, l5, l6] (.ref a :: st) σ Q := rn_step rfl (fun _ _ => rfl)
set_option maxRecDepth 20000 in
theorem sL_law_736n {d : Nat} {Q : mb_O → mb_S → Prop} {σ : mb_S} {st : List Value} {l0 l1 l2 l4 l5 l6 : Option Value} : mb_Rn d 161 736 [l0, l1, l2, some (.null), l4, l5, l6] st σ Q = mb_Rn d 161 737 [l0, l1, l2, some (.null), l4, l5, l6] (.null :: st) σ Q := rn_step rfl (fun _ _ => rfl)
set_option maxRecDepth 20000 in
theorem sL_law_737 {d : Nat} {Q : mb_O → mb_S → Prop} {σ : mb_S} {st : List Value} {ls : mb_L} : mb_Rn d 161 737 ls st σ Q = mb_Rn d 161 738 ls (.int 0 :: st) σ Q := rn_step rfl (fun _ _ => rfl)
set_option maxRecDepth 20000 in
theorem sL_law_738 {d : Nat} {Q : mb_O → mb_S → Prop} {σ : mb_S} {st : List Value} {ls : mb_L} {a : Nat} {j : Int32} : mb_Rn d 161 738 ls (.int j :: .ref a :: st) σ Q = mb_gj σ a j False (fun kd _ f => if kd = 1 then mb_Rn d 161 739 ls (.long (f j.toNatClampNeg) :: st) σ Q else False) := rn_lald rfl
set_option maxRecDepth 20000 in
theorem sL_law_739 {d : Nat} {Q : mb_O → mb_S → Prop} {σ : mb_S} {st : List Value} {l0 l1 l2 l3 l4 l5 : Option Value} {x : Int32} : mb_Rn d 161 739 [l0, l1, l2, l3, l4, l5, some (.int x)] st σ Q = mb_Rn d 161 741 [l0, l1, l2, l3, l4, l5, some (.int x)] (.int x :: st) σ Q := rn_step rfl (fun _ _ => rfl)
set_option maxRecDepth 20000 in
theorem sL_law_741 {d : Nat} {Q : mb_O → mb_S → Prop} {σ : mb_S} {st : List Value} {ls : mb_L} {x : Int32} : mb_Rn d 161 741 ls (.int x :: st) σ Q = mb_Rn d 161 742 ls (.long x.toInt64 :: st) σ Q := rn_step rfl (fun _ _ => rfl)
set_option maxRecDepth 20000 in
theorem sL_law_742 {d : Nat} {Q : mb_O → mb_S → Prop} {σ : mb_S} {st : List Value} {ls : mb_L} {x z : Int64} : mb_Rn d 161 742 ls (.long z :: .long x :: st) σ Q = mb_Rn d 161 743 ls (.int (lg_cmp x z) :: st) σ Q := rn_step rfl (fun _ _ => rfl)
set_option maxRecDepth 20000 in
theorem sL_law_743 {d : Nat} {Q : mb_O → mb_S → Prop} {σ : mb_S} {st : List Value} {ls : mb_L} {x : Int32} : mb_Rn d 161 743 ls (.int x :: st) σ Q = if x = 0 then mb_Rn d 161 748 ls st σ Q else mb_Rn d 161 746 ls st σ Q := rn_ifb rfl (fun _ _ => rfl) beq_iff_eq
set_option maxRecDepth 20000 in
theorem sL_law_746 {d : Nat} {Q : mb_O → mb_S → Prop} {σ : mb_S} {st : List Value} {ls : mb_L} : mb_Rn d 161 746 ls st σ Q = mb_Rn d 161 747 ls (.int 0 :: st) σ Q := rn_step rfl (fun _ _ => rfl)
set_option maxRecDepth 20000 in
theorem sL_law_747 {d : Nat} {Q : mb_O → mb_S → Prop} {σ : mb_S}  {ls : mb_L} {x : Int32} : mb_Rn d 161 747 ls [.int x] σ Q = if x = 0 ∨ x = 1 then Q (.inl (some (.int x))) σ else False := rn_zret rfl
set_option maxRecDepth 20000 in
theorem sL_law_748 {d : Nat} {Q : mb_O → mb_S → Prop} {σ : mb_S} {st : List Value} {ls : mb_L} : mb_Rn d 161 748 ls st σ Q = mb_Rn d 161 1642 ls st σ Q := rn_step rfl (fun _ _ => rfl)
set_option maxRecDepth 20000 in
theorem sL_law_751 {d : Nat} {Q : mb_O → mb_S → Prop} {σ : mb_S} {st : List Value} {l0 l2 l3 l4 l5 l6 : Option Value} {a : Nat} : mb_Rn d 161 751 [l0, some (.ref a), l2, l3, l4, l5, l6] st σ Q = mb_Rn d 161 752 [l0, some (.ref a), l2, l3, l4, l5, l6] (.ref a :: st) σ Q := rn_step rfl (fun _ _ => rfl)
set_option maxRecDepth 20000 in
theorem sL_law_751n {d : Nat} {Q : mb_O → mb_S → Prop} {σ : mb_S} {st : List Value} {l0 l2 l3 l4 l5 l6 : Option Value} : mb_Rn d 161 751 [l0, some (.null), l2, l3, l4, l5, l6] st σ Q = mb_Rn d 161 752 [l0, some (.null), l2, l3, l4, l5, l6] (.null :: st) σ Q := rn_step rfl (fun _ _ => rfl)
set_option maxRecDepth 20000 in
theorem sL_law_752 {d : Nat} {Q : mb_O → mb_S → Prop} {σ : mb_S} {st : List Value} {l1 l2 l3 l4 l5 l6 : Option Value} {a : Nat} : mb_Rn d 161 752 [some (.ref a), l1, l2, l3, l4, l5, l6] st σ Q = mb_Rn d 161 753 [some (.ref a), l1, l2, l3, l4, l5, l6] (.ref a :: st) σ Q := rn_step rfl (fun _ _ => rfl)
set_option maxRecDepth 20000 in
theorem sL_law_752n {d : Nat} {Q : mb_O → mb_S → Prop} {σ : mb_S} {st : List Value} {l1 l2 l3 l4 l5 l6 : Option Value} : mb_Rn d 161 752 [some (.null), l1, l2, l3, l4, l5, l6] st σ Q = mb_Rn d 161 753 [some (.null), l1, l2, l3, l4, l5, l6] (.null :: st) σ Q := rn_step rfl (fun _ _ => rfl)
set_option maxRecDepth 20000 in
theorem sL_law_753 {d : Nat} {Q : mb_O → mb_S → Prop} {σ : mb_S} {st : List Value} {l0 l1 l2 l3 l5 l6 : Option Value} {x : Int32} : mb_Rn d 161 753 [l0, l1, l2, l3, some (.int x), l5, l6] st σ Q = mb_Rn d 161 755 [l0, l1, l2, l3, some (.int x), l5, l6] (.int x :: st) σ Q := rn_step rfl (fun _ _ => rfl)
set_option maxRecDepth 20000 in
theorem sL_law_755 {d : Nat} {Q : mb_O → mb_S → Prop} {σ : mb_S} {st : List Value} {ls : mb_L} : mb_Rn d 161 755 ls st σ Q = mb_Rn d 161 756 ls (.int 1 :: st) σ Q := rn_step rfl (fun _ _ => rfl)
set_option maxRecDepth 20000 in
theorem sL_law_756 {d : Nat} {Q : mb_O → mb_S → Prop} {σ : mb_S} {st : List Value} {ls : mb_L} {x z : Int32} : mb_Rn d 161 756 ls (.int z :: .int x :: st) σ Q = mb_Rn d 161 757 ls (.int (x + z) :: st) σ Q := rn_step rfl (fun _ _ => rfl)
set_option maxRecDepth 20000 in
theorem sL_law_757 {d : Nat} {Q : mb_O → mb_S → Prop} {σ : mb_S} {st : List Value} {ls : mb_L} {a : Nat} {j : Int32} : mb_Rn d 161 757 ls (.int j :: .ref a :: st) σ Q = mb_gi σ a j False (fun kd _ f => if kd = 0 ∨ kd = 9 then mb_Rn d 161 758 ls (.int (f j.toNatClampNeg) :: st) σ Q else False) := rn_iald rfl
set_option maxRecDepth 20000 in
theorem sL_law_758 {d : Nat} {Q : mb_O → mb_S → Prop} {σ : mb_S} {st : List Value} {l0 l1 l2 l4 l5 l6 : Option Value} {a : Nat} : mb_Rn d 161 758 [l0, l1, l2, some (.ref a), l4, l5, l6] st σ Q = mb_Rn d 161 759 [l0, l1, l2, some (.ref a), l4, l5, l6] (.ref a :: st) σ Q := rn_step rfl (fun _ _ => rfl)
set_option maxRecDepth 20000 in
theorem sL_law_758n {d : Nat} {Q : mb_O → mb_S → Prop} {σ : mb_S} {st : List Value} {l0 l1 l2 l4 l5 l6 : Option Value} : mb_Rn d 161 758 [l0, l1, l2, some (.null), l4, l5, l6] st σ Q = mb_Rn d 161 759 [l0, l1, l2, some (.null), l4, l5, l6] (.null :: st) σ Q := rn_step rfl (fun _ _ => rfl)
set_option maxRecDepth 20000 in
theorem sL_law_759 {d : Nat} {Q : mb_O → mb_S → Prop} {σ : mb_S} {st : List Value} {ls : mb_L} {p0 : Nat} {p1 : Int32} {p2 : Nat} (hd : 1 ≤ d) (h4 : st.length ≤ 4) : mb_Rn d 161 759 ls (.ref p2 :: .int p1 :: .ref p0 :: st) σ Q = mb_Ex (d - 1) 148 [.ref p0, .int p1, .ref p2] σ (mb_qk d 161 762 ls st Q) := rn_calls mb_good rfl hd rfl rfl ⟨rfl, rfl⟩ h4 ⟨Nat.le_of_ble_eq_true rfl, rfl⟩
set_option maxRecDepth 20000 in
theorem sL_law_762 {d : Nat} {Q : mb_O → mb_S → Prop} {σ : mb_S} {st : List Value} {l0 l1 l2 l3 l4 l5 l6 : Option Value} {x : Int32} : mb_Rn d 161 762 [l0, l1, l2, l3, l4, l5, l6] (.int x :: st) σ Q = mb_Rn d 161 764 [l0, l1, l2, l3, l4, some (.int x), l6] st σ Q := rn_step rfl (fun _ _ => rfl)
set_option maxRecDepth 20000 in
theorem sL_law_764 {d : Nat} {Q : mb_O → mb_S → Prop} {σ : mb_S} {st : List Value} {l0 l1 l3 l4 l5 l6 : Option Value} {a : Nat} : mb_Rn d 161 764 [l0, l1, some (.ref a), l3, l4, l5, l6] st σ Q = mb_Rn d 161 765 [l0, l1, some (.ref a), l3, l4, l5, l6] (.ref a :: st) σ Q := rn_step rfl (fun _ _ => rfl)
set_option maxRecDepth 20000 in
theorem sL_law_764n {d : Nat} {Q : mb_O → mb_S → Prop} {σ : mb_S} {st : List Value} {l0 l1 l3 l4 l5 l6 : Option Value} : mb_Rn d 161 764 [l0, l1, some (.null), l3, l4, l5, l6] st σ Q = mb_Rn d 161 765 [l0, l1, some (.null), l3, l4, l5, l6] (.null :: st) σ Q := rn_step rfl (fun _ _ => rfl)
set_option maxRecDepth 20000 in
theorem sL_law_765 {d : Nat} {Q : mb_O → mb_S → Prop} {σ : mb_S} {st : List Value} {l1 l2 l3 l4 l5 l6 : Option Value} {a : Nat} : mb_Rn d 161 765 [some (.ref a), l1, l2, l3, l4, l5, l6] st σ Q = mb_Rn d 161 766 [some (.ref a), l1, l2, l3, l4, l5, l6] (.ref a :: st) σ Q := rn_step rfl (fun _ _ => rfl)
set_option maxRecDepth 20000 in
theorem sL_law_765n {d : Nat} {Q : mb_O → mb_S → Prop} {σ : mb_S} {st : List Value} {l1 l2 l3 l4 l5 l6 : Option Value} : mb_Rn d 161 765 [some (.null), l1, l2, l3, l4, l5, l6] st σ Q = mb_Rn d 161 766 [some (.null), l1, l2, l3, l4, l5, l6] (.null :: st) σ Q := rn_step rfl (fun _ _ => rfl)
set_option maxRecDepth 20000 in
theorem sL_law_766 {d : Nat} {Q : mb_O → mb_S → Prop} {σ : mb_S} {st : List Value} {l0 l1 l2 l3 l5 l6 : Option Value} {x : Int32} : mb_Rn d 161 766 [l0, l1, l2, l3, some (.int x), l5, l6] st σ Q = mb_Rn d 161 768 [l0, l1, l2, l3, some (.int x), l5, l6] (.int x :: st) σ Q := rn_step rfl (fun _ _ => rfl)
set_option maxRecDepth 20000 in
theorem sL_law_768 {d : Nat} {Q : mb_O → mb_S → Prop} {σ : mb_S} {st : List Value} {ls : mb_L} : mb_Rn d 161 768 ls st σ Q = mb_Rn d 161 769 ls (.int 1 :: st) σ Q := rn_step rfl (fun _ _ => rfl)
set_option maxRecDepth 20000 in
theorem sL_law_769 {d : Nat} {Q : mb_O → mb_S → Prop} {σ : mb_S} {st : List Value} {ls : mb_L} {x z : Int32} : mb_Rn d 161 769 ls (.int z :: .int x :: st) σ Q = mb_Rn d 161 770 ls (.int (x + z) :: st) σ Q := rn_step rfl (fun _ _ => rfl)
set_option maxRecDepth 20000 in
theorem sL_law_770 {d : Nat} {Q : mb_O → mb_S → Prop} {σ : mb_S} {st : List Value} {ls : mb_L} {a : Nat} {j : Int32} : mb_Rn d 161 770 ls (.int j :: .ref a :: st) σ Q = mb_gi σ a j False (fun kd _ f => if kd = 0 ∨ kd = 9 then mb_Rn d 161 771 ls (.int (f j.toNatClampNeg) :: st) σ Q else False) := rn_iald rfl
set_option maxRecDepth 20000 in
theorem sL_law_771 {d : Nat} {Q : mb_O → mb_S → Prop} {σ : mb_S} {st : List Value} {ls : mb_L} {p0 : Int32} {b : Nat} (hd : 1 ≤ d) (h4 : st.length ≤ 4) : mb_Rn d 161 771 ls (.int p0 :: .ref b :: st) σ Q = mb_gf σ b 8 False (fun _ => mb_Ex (d - 1) 111 [.ref b, .int p0] σ (mb_qx [] d 161 774 ls st Q)) := rn_callv mb_good rfl hd rfl rfl ⟨rfl, rfl⟩ h4 ⟨Nat.le_of_ble_eq_true rfl, rfl⟩
set_option maxRecDepth 20000 in
theorem sL_law_774 {d : Nat} {Q : mb_O → mb_S → Prop} {σ : mb_S} {st : List Value} {l0 l1 l2 l3 l4 l5 l6 : Option Value} {x : Int32} : mb_Rn d 161 774 [l0, l1, l2, l3, l4, l5, l6] (.int x :: st) σ Q = mb_Rn d 161 776 [l0, l1, l2, l3, l4, l5, some (.int x)] st σ Q := rn_step rfl (fun _ _ => rfl)
set_option maxRecDepth 20000 in
theorem sL_law_776 {d : Nat} {Q : mb_O → mb_S → Prop} {σ : mb_S} {st : List Value} {l0 l1 l3 l4 l5 l6 : Option Value} {a : Nat} : mb_Rn d 161 776 [l0, l1, some (.ref a), l3, l4, l5, l6] st σ Q = mb_Rn d 161 777 [l0, l1, some (.ref a), l3, l4, l5, l6] (.ref a :: st) σ Q := rn_step rfl (fun _ _ => rfl)
set_option maxRecDepth 20000 in
theorem sL_law_776n {d : Nat} {Q : mb_O → mb_S → Prop} {σ : mb_S} {st : List Value} {l0 l1 l3 l4 l5 l6 : Option Value} : mb_Rn d 161 776 [l0, l1, some (.null), l3, l4, l5, l6] st σ Q = mb_Rn d 161 777 [l0, l1, some (.null), l3, l4, l5, l6] (.null :: st) σ Q := rn_step rfl (fun _ _ => rfl)
set_option maxRecDepth 20000 in
theorem sL_law_777 {d : Nat} {Q : mb_O → mb_S → Prop} {σ : mb_S} {st : List Value} {ls : mb_L} {b : Nat} (hd : 1 ≤ d) (h4 : st.length ≤ 4) : mb_Rn d 161 777 ls (.ref b :: st) σ Q = mb_gf σ b 8 False (fun _ => mb_Ex (d - 1) 85 [.ref b] σ (mb_qx [] d 161 780 ls st Q)) := rn_callv mb_good rfl hd rfl rfl ⟨rfl, rfl⟩ h4 ⟨Nat.le_of_ble_eq_true rfl, rfl⟩
set_option maxRecDepth 20000 in
theorem sL_law_780 {d : Nat} {Q : mb_O → mb_S → Prop} {σ : mb_S} {st : List Value} {l0 l1 l2 l3 l4 l6 : Option Value} {x : Int32} : mb_Rn d 161 780 [l0, l1, l2, l3, l4, some (.int x), l6] st σ Q = mb_Rn d 161 782 [l0, l1, l2, l3, l4, some (.int x), l6] (.int x :: st) σ Q := rn_step rfl (fun _ _ => rfl)
set_option maxRecDepth 20000 in
theorem sL_law_782 {d : Nat} {Q : mb_O → mb_S → Prop} {σ : mb_S} {st : List Value} {ls : mb_L} {x z : Int32} : mb_Rn d 161 782 ls (.int z :: .int x :: st) σ Q = if x = z then mb_Rn d 161 787 ls st σ Q else mb_Rn d 161 785 ls st σ Q := rn_ifb rfl (fun _ _ => rfl) beq_iff_eq
set_option maxRecDepth 20000 in
theorem sL_law_785 {d : Nat} {Q : mb_O → mb_S → Prop} {σ : mb_S} {st : List Value} {ls : mb_L} : mb_Rn d 161 785 ls st σ Q = mb_Rn d 161 786 ls (.int 0 :: st) σ Q := rn_step rfl (fun _ _ => rfl)
set_option maxRecDepth 20000 in
theorem sL_law_786 {d : Nat} {Q : mb_O → mb_S → Prop} {σ : mb_S}  {ls : mb_L} {x : Int32} : mb_Rn d 161 786 ls [.int x] σ Q = if x = 0 ∨ x = 1 then Q (.inl (some (.int x))) σ else False := rn_zret rfl
set_option maxRecDepth 20000 in
theorem sL_law_787 {d : Nat} {Q : mb_O → mb_S → Prop} {σ : mb_S} {st : List Value} {l0 l1 l2 l3 l4 l6 : Option Value} {x : Int32} : mb_Rn d 161 787 [l0, l1, l2, l3, l4, some (.int x), l6] st σ Q = mb_Rn d 161 789 [l0, l1, l2, l3, l4, some (.int x), l6] (.int x :: st) σ Q := rn_step rfl (fun _ _ => rfl)
set_option maxRecDepth 20000 in
theorem sL_law_789 {d : Nat} {Q : mb_O → mb_S → Prop} {σ : mb_S} {st : List Value} {ls : mb_L} {x : Int32} : mb_Rn d 161 789 ls (.int x :: st) σ Q = if x = 0 then mb_Rn d 161 792 ls st σ Q else mb_Rn d 161 804 ls st σ Q := rn_ifn rfl (fun _ _ => rfl) bne_iff_ne
set_option maxRecDepth 20000 in
theorem sL_law_792 {d : Nat} {Q : mb_O → mb_S → Prop} {σ : mb_S} {st : List Value} {l0 l1 l2 l4 l5 l6 : Option Value} {a : Nat} : mb_Rn d 161 792 [l0, l1, l2, some (.ref a), l4, l5, l6] st σ Q = mb_Rn d 161 793 [l0, l1, l2, some (.ref a), l4, l5, l6] (.ref a :: st) σ Q := rn_step rfl (fun _ _ => rfl)
set_option maxRecDepth 20000 in
theorem sL_law_792n {d : Nat} {Q : mb_O → mb_S → Prop} {σ : mb_S} {st : List Value} {l0 l1 l2 l4 l5 l6 : Option Value} : mb_Rn d 161 792 [l0, l1, l2, some (.null), l4, l5, l6] st σ Q = mb_Rn d 161 793 [l0, l1, l2, some (.null), l4, l5, l6] (.null :: st) σ Q := rn_step rfl (fun _ _ => rfl)
set_option maxRecDepth 20000 in
theorem sL_law_793 {d : Nat} {Q : mb_O → mb_S → Prop} {σ : mb_S} {st : List Value} {ls : mb_L} : mb_Rn d 161 793 ls st σ Q = mb_Rn d 161 794 ls (.int 0 :: st) σ Q := rn_step rfl (fun _ _ => rfl)
set_option maxRecDepth 20000 in
theorem sL_law_794 {d : Nat} {Q : mb_O → mb_S → Prop} {σ : mb_S} {st : List Value} {ls : mb_L} {a : Nat} {j : Int32} : mb_Rn d 161 794 ls (.int j :: .ref a :: st) σ Q = mb_gj σ a j False (fun kd _ f => if kd = 1 then mb_Rn d 161 795 ls (.long (f j.toNatClampNeg) :: st) σ Q else False) := rn_lald rfl
set_option maxRecDepth 20000 in
theorem sL_law_795 {d : Nat} {Q : mb_O → mb_S → Prop} {σ : mb_S} {st : List Value} {l0 l1 l2 l3 l4 l5 : Option Value} {x : Int32} : mb_Rn d 161 795 [l0, l1, l2, l3, l4, l5, some (.int x)] st σ Q = mb_Rn d 161 797 [l0, l1, l2, l3, l4, l5, some (.int x)] (.int x :: st) σ Q := rn_step rfl (fun _ _ => rfl)
set_option maxRecDepth 20000 in
theorem sL_law_797 {d : Nat} {Q : mb_O → mb_S → Prop} {σ : mb_S} {st : List Value} {ls : mb_L} {x : Int32} : mb_Rn d 161 797 ls (.int x :: st) σ Q = mb_Rn d 161 798 ls (.long x.toInt64 :: st) σ Q := rn_step rfl (fun _ _ => rfl)
set_option maxRecDepth 20000 in
theorem sL_law_798 {d : Nat} {Q : mb_O → mb_S → Prop} {σ : mb_S} {st : List Value} {ls : mb_L} {x z : Int64} : mb_Rn d 161 798 ls (.long z :: .long x :: st) σ Q = mb_Rn d 161 799 ls (.int (lg_cmp x z) :: st) σ Q := rn_step rfl (fun _ _ => rfl)
set_option maxRecDepth 20000 in
theorem sL_law_799 {d : Nat} {Q : mb_O → mb_S → Prop} {σ : mb_S} {st : List Value} {ls : mb_L} {x : Int32} : mb_Rn d 161 799 ls (.int x :: st) σ Q = if x = 0 then mb_Rn d 161 804 ls st σ Q else mb_Rn d 161 802 ls st σ Q := rn_ifb rfl (fun _ _ => rfl) beq_iff_eq
set_option maxRecDepth 20000 in
theorem sL_law_802 {d : Nat} {Q : mb_O → mb_S → Prop} {σ : mb_S} {st : List Value} {ls : mb_L} : mb_Rn d 161 802 ls st σ Q = mb_Rn d 161 803 ls (.int 0 :: st) σ Q := rn_step rfl (fun _ _ => rfl)
set_option maxRecDepth 20000 in
theorem sL_law_803 {d : Nat} {Q : mb_O → mb_S → Prop} {σ : mb_S}  {ls : mb_L} {x : Int32} : mb_Rn d 161 803 ls [.int x] σ Q = if x = 0 ∨ x = 1 then Q (.inl (some (.int x))) σ else False := rn_zret rfl
set_option maxRecDepth 20000 in
theorem sL_law_804 {d : Nat} {Q : mb_O → mb_S → Prop} {σ : mb_S} {st : List Value} {ls : mb_L} : mb_Rn d 161 804 ls st σ Q = mb_Rn d 161 1642 ls st σ Q := rn_step rfl (fun _ _ => rfl)
set_option maxRecDepth 20000 in
theorem sL_law_807 {d : Nat} {Q : mb_O → mb_S → Prop} {σ : mb_S} {st : List Value} {l0 l2 l3 l4 l5 l6 : Option Value} {a : Nat} : mb_Rn d 161 807 [l0, some (.ref a), l2, l3, l4, l5, l6] st σ Q = mb_Rn d 161 808 [l0, some (.ref a), l2, l3, l4, l5, l6] (.ref a :: st) σ Q := rn_step rfl (fun _ _ => rfl)
set_option maxRecDepth 20000 in
theorem sL_law_807n {d : Nat} {Q : mb_O → mb_S → Prop} {σ : mb_S} {st : List Value} {l0 l2 l3 l4 l5 l6 : Option Value} : mb_Rn d 161 807 [l0, some (.null), l2, l3, l4, l5, l6] st σ Q = mb_Rn d 161 808 [l0, some (.null), l2, l3, l4, l5, l6] (.null :: st) σ Q := rn_step rfl (fun _ _ => rfl)
set_option maxRecDepth 20000 in
theorem sL_law_808 {d : Nat} {Q : mb_O → mb_S → Prop} {σ : mb_S} {st : List Value} {l1 l2 l3 l4 l5 l6 : Option Value} {a : Nat} : mb_Rn d 161 808 [some (.ref a), l1, l2, l3, l4, l5, l6] st σ Q = mb_Rn d 161 809 [some (.ref a), l1, l2, l3, l4, l5, l6] (.ref a :: st) σ Q := rn_step rfl (fun _ _ => rfl)
set_option maxRecDepth 20000 in
theorem sL_law_808n {d : Nat} {Q : mb_O → mb_S → Prop} {σ : mb_S} {st : List Value} {l1 l2 l3 l4 l5 l6 : Option Value} : mb_Rn d 161 808 [some (.null), l1, l2, l3, l4, l5, l6] st σ Q = mb_Rn d 161 809 [some (.null), l1, l2, l3, l4, l5, l6] (.null :: st) σ Q := rn_step rfl (fun _ _ => rfl)
set_option maxRecDepth 20000 in
theorem sL_law_809 {d : Nat} {Q : mb_O → mb_S → Prop} {σ : mb_S} {st : List Value} {l0 l1 l2 l3 l5 l6 : Option Value} {x : Int32} : mb_Rn d 161 809 [l0, l1, l2, l3, some (.int x), l5, l6] st σ Q = mb_Rn d 161 811 [l0, l1, l2, l3, some (.int x), l5, l6] (.int x :: st) σ Q := rn_step rfl (fun _ _ => rfl)
set_option maxRecDepth 20000 in
theorem sL_law_811 {d : Nat} {Q : mb_O → mb_S → Prop} {σ : mb_S} {st : List Value} {ls : mb_L} : mb_Rn d 161 811 ls st σ Q = mb_Rn d 161 812 ls (.int 1 :: st) σ Q := rn_step rfl (fun _ _ => rfl)
set_option maxRecDepth 20000 in
theorem sL_law_812 {d : Nat} {Q : mb_O → mb_S → Prop} {σ : mb_S} {st : List Value} {ls : mb_L} {x z : Int32} : mb_Rn d 161 812 ls (.int z :: .int x :: st) σ Q = mb_Rn d 161 813 ls (.int (x + z) :: st) σ Q := rn_step rfl (fun _ _ => rfl)
set_option maxRecDepth 20000 in
theorem sL_law_813 {d : Nat} {Q : mb_O → mb_S → Prop} {σ : mb_S} {st : List Value} {ls : mb_L} {a : Nat} {j : Int32} : mb_Rn d 161 813 ls (.int j :: .ref a :: st) σ Q = mb_gi σ a j False (fun kd _ f => if kd = 0 ∨ kd = 9 then mb_Rn d 161 814 ls (.int (f j.toNatClampNeg) :: st) σ Q else False) := rn_iald rfl
set_option maxRecDepth 20000 in
theorem sL_law_814 {d : Nat} {Q : mb_O → mb_S → Prop} {σ : mb_S} {st : List Value} {l1 l2 l3 l4 l5 l6 : Option Value} {a : Nat} : mb_Rn d 161 814 [some (.ref a), l1, l2, l3, l4, l5, l6] st σ Q = mb_Rn d 161 815 [some (.ref a), l1, l2, l3, l4, l5, l6] (.ref a :: st) σ Q := rn_step rfl (fun _ _ => rfl)
set_option maxRecDepth 20000 in
theorem sL_law_814n {d : Nat} {Q : mb_O → mb_S → Prop} {σ : mb_S} {st : List Value} {l1 l2 l3 l4 l5 l6 : Option Value} : mb_Rn d 161 814 [some (.null), l1, l2, l3, l4, l5, l6] st σ Q = mb_Rn d 161 815 [some (.null), l1, l2, l3, l4, l5, l6] (.null :: st) σ Q := rn_step rfl (fun _ _ => rfl)
set_option maxRecDepth 20000 in
theorem sL_law_815 {d : Nat} {Q : mb_O → mb_S → Prop} {σ : mb_S} {st : List Value} {l0 l1 l2 l3 l5 l6 : Option Value} {x : Int32} : mb_Rn d 161 815 [l0, l1, l2, l3, some (.int x), l5, l6] st σ Q = mb_Rn d 161 817 [l0, l1, l2, l3, some (.int x), l5, l6] (.int x :: st) σ Q := rn_step rfl (fun _ _ => rfl)
set_option maxRecDepth 20000 in
theorem sL_law_817 {d : Nat} {Q : mb_O → mb_S → Prop} {σ : mb_S} {st : List Value} {ls : mb_L} : mb_Rn d 161 817 ls st σ Q = mb_Rn d 161 818 ls (.int 2 :: st) σ Q := rn_step rfl (fun _ _ => rfl)
set_option maxRecDepth 20000 in
theorem sL_law_818 {d : Nat} {Q : mb_O → mb_S → Prop} {σ : mb_S} {st : List Value} {ls : mb_L} {x z : Int32} : mb_Rn d 161 818 ls (.int z :: .int x :: st) σ Q = mb_Rn d 161 819 ls (.int (x + z) :: st) σ Q := rn_step rfl (fun _ _ => rfl)
set_option maxRecDepth 20000 in
theorem sL_law_819 {d : Nat} {Q : mb_O → mb_S → Prop} {σ : mb_S} {st : List Value} {ls : mb_L} {a : Nat} {j : Int32} : mb_Rn d 161 819 ls (.int j :: .ref a :: st) σ Q = mb_gi σ a j False (fun kd _ f => if kd = 0 ∨ kd = 9 then mb_Rn d 161 820 ls (.int (f j.toNatClampNeg) :: st) σ Q else False) := rn_iald rfl
set_option maxRecDepth 20000 in
theorem sL_law_820 {d : Nat} {Q : mb_O → mb_S → Prop} {σ : mb_S} {st : List Value} {l1 l2 l3 l4 l5 l6 : Option Value} {a : Nat} : mb_Rn d 161 820 [some (.ref a), l1, l2, l3, l4, l5, l6] st σ Q = mb_Rn d 161 821 [some (.ref a), l1, l2, l3, l4, l5, l6] (.ref a :: st) σ Q := rn_step rfl (fun _ _ => rfl)
set_option maxRecDepth 20000 in
theorem sL_law_820n {d : Nat} {Q : mb_O → mb_S → Prop} {σ : mb_S} {st : List Value} {l1 l2 l3 l4 l5 l6 : Option Value} : mb_Rn d 161 820 [some (.null), l1, l2, l3, l4, l5, l6] st σ Q = mb_Rn d 161 821 [some (.null), l1, l2, l3, l4, l5, l6] (.null :: st) σ Q := rn_step rfl (fun _ _ => rfl)
set_option maxRecDepth 20000 in
theorem sL_law_821 {d : Nat} {Q : mb_O → mb_S → Prop} {σ : mb_S} {st : List Value} {l0 l1 l2 l3 l5 l6 : Option Value} {x : Int32} : mb_Rn d 161 821 [l0, l1, l2, l3, some (.int x), l5, l6] st σ Q = mb_Rn d 161 823 [l0, l1, l2, l3, some (.int x), l5, l6] (.int x :: st) σ Q := rn_step rfl (fun _ _ => rfl)
set_option maxRecDepth 20000 in
theorem sL_law_823 {d : Nat} {Q : mb_O → mb_S → Prop} {σ : mb_S} {st : List Value} {ls : mb_L} : mb_Rn d 161 823 ls st σ Q = mb_Rn d 161 824 ls (.int 3 :: st) σ Q := rn_step rfl (fun _ _ => rfl)
set_option maxRecDepth 20000 in
theorem sL_law_824 {d : Nat} {Q : mb_O → mb_S → Prop} {σ : mb_S} {st : List Value} {ls : mb_L} {x z : Int32} : mb_Rn d 161 824 ls (.int z :: .int x :: st) σ Q = mb_Rn d 161 825 ls (.int (x + z) :: st) σ Q := rn_step rfl (fun _ _ => rfl)
set_option maxRecDepth 20000 in
theorem sL_law_825 {d : Nat} {Q : mb_O → mb_S → Prop} {σ : mb_S} {st : List Value} {ls : mb_L} {a : Nat} {j : Int32} : mb_Rn d 161 825 ls (.int j :: .ref a :: st) σ Q = mb_gi σ a j False (fun kd _ f => if kd = 0 ∨ kd = 9 then mb_Rn d 161 826 ls (.int (f j.toNatClampNeg) :: st) σ Q else False) := rn_iald rfl
set_option maxRecDepth 20000 in
theorem sL_law_826 {d : Nat} {Q : mb_O → mb_S → Prop} {σ : mb_S} {st : List Value} {l1 l2 l3 l4 l5 l6 : Option Value} {a : Nat} : mb_Rn d 161 826 [some (.ref a), l1, l2, l3, l4, l5, l6] st σ Q = mb_Rn d 161 827 [some (.ref a), l1, l2, l3, l4, l5, l6] (.ref a :: st) σ Q := rn_step rfl (fun _ _ => rfl)
set_option maxRecDepth 20000 in
theorem sL_law_826n {d : Nat} {Q : mb_O → mb_S → Prop} {σ : mb_S} {st : List Value} {l1 l2 l3 l4 l5 l6 : Option Value} : mb_Rn d 161 826 [some (.null), l1, l2, l3, l4, l5, l6] st σ Q = mb_Rn d 161 827 [some (.null), l1, l2, l3, l4, l5, l6] (.null :: st) σ Q := rn_step rfl (fun _ _ => rfl)
set_option maxRecDepth 20000 in
theorem sL_law_827 {d : Nat} {Q : mb_O → mb_S → Prop} {σ : mb_S} {st : List Value} {l0 l1 l2 l3 l5 l6 : Option Value} {x : Int32} : mb_Rn d 161 827 [l0, l1, l2, l3, some (.int x), l5, l6] st σ Q = mb_Rn d 161 829 [l0, l1, l2, l3, some (.int x), l5, l6] (.int x :: st) σ Q := rn_step rfl (fun _ _ => rfl)
set_option maxRecDepth 20000 in
theorem sL_law_829 {d : Nat} {Q : mb_O → mb_S → Prop} {σ : mb_S} {st : List Value} {ls : mb_L} : mb_Rn d 161 829 ls st σ Q = mb_Rn d 161 830 ls (.int 4 :: st) σ Q := rn_step rfl (fun _ _ => rfl)
set_option maxRecDepth 20000 in
theorem sL_law_830 {d : Nat} {Q : mb_O → mb_S → Prop} {σ : mb_S} {st : List Value} {ls : mb_L} {x z : Int32} : mb_Rn d 161 830 ls (.int z :: .int x :: st) σ Q = mb_Rn d 161 831 ls (.int (x + z) :: st) σ Q := rn_step rfl (fun _ _ => rfl)
set_option maxRecDepth 20000 in
theorem sL_law_831 {d : Nat} {Q : mb_O → mb_S → Prop} {σ : mb_S} {st : List Value} {ls : mb_L} {a : Nat} {j : Int32} : mb_Rn d 161 831 ls (.int j :: .ref a :: st) σ Q = mb_gi σ a j False (fun kd _ f => if kd = 0 ∨ kd = 9 then mb_Rn d 161 832 ls (.int (f j.toNatClampNeg) :: st) σ Q else False) := rn_iald rfl
set_option maxRecDepth 20000 in
theorem sL_law_832 {d : Nat} {Q : mb_O → mb_S → Prop} {σ : mb_S} {st : List Value} {l1 l2 l3 l4 l5 l6 : Option Value} {a : Nat} : mb_Rn d 161 832 [some (.ref a), l1, l2, l3, l4, l5, l6] st σ Q = mb_Rn d 161 833 [some (.ref a), l1, l2, l3, l4, l5, l6] (.ref a :: st) σ Q := rn_step rfl (fun _ _ => rfl)
set_option maxRecDepth 20000 in
theorem sL_law_832n {d : Nat} {Q : mb_O → mb_S → Prop} {σ : mb_S} {st : List Value} {l1 l2 l3 l4 l5 l6 : Option Value} : mb_Rn d 161 832 [some (.null), l1, l2, l3, l4, l5, l6] st σ Q = mb_Rn d 161 833 [some (.null), l1, l2, l3, l4, l5, l6] (.null :: st) σ Q := rn_step rfl (fun _ _ => rfl)
set_option maxRecDepth 20000 in
theorem sL_law_833 {d : Nat} {Q : mb_O → mb_S → Prop} {σ : mb_S} {st : List Value} {l0 l1 l2 l3 l5 l6 : Option Value} {x : Int32} : mb_Rn d 161 833 [l0, l1, l2, l3, some (.int x), l5, l6] st σ Q = mb_Rn d 161 835 [l0, l1, l2, l3, some (.int x), l5, l6] (.int x :: st) σ Q := rn_step rfl (fun _ _ => rfl)
set_option maxRecDepth 20000 in
theorem sL_law_835 {d : Nat} {Q : mb_O → mb_S → Prop} {σ : mb_S} {st : List Value} {ls : mb_L} : mb_Rn d 161 835 ls st σ Q = mb_Rn d 161 836 ls (.int 5 :: st) σ Q := rn_step rfl (fun _ _ => rfl)
set_option maxRecDepth 20000 in
theorem sL_law_836 {d : Nat} {Q : mb_O → mb_S → Prop} {σ : mb_S} {st : List Value} {ls : mb_L} {x z : Int32} : mb_Rn d 161 836 ls (.int z :: .int x :: st) σ Q = mb_Rn d 161 837 ls (.int (x + z) :: st) σ Q := rn_step rfl (fun _ _ => rfl)
set_option maxRecDepth 20000 in
theorem sL_law_837 {d : Nat} {Q : mb_O → mb_S → Prop} {σ : mb_S} {st : List Value} {ls : mb_L} {a : Nat} {j : Int32} : mb_Rn d 161 837 ls (.int j :: .ref a :: st) σ Q = mb_gi σ a j False (fun kd _ f => if kd = 0 ∨ kd = 9 then mb_Rn d 161 838 ls (.int (f j.toNatClampNeg) :: st) σ Q else False) := rn_iald rfl
set_option maxRecDepth 20000 in
theorem sL_law_838 {d : Nat} {Q : mb_O → mb_S → Prop} {σ : mb_S} {st : List Value} {l0 l1 l2 l4 l5 l6 : Option Value} {a : Nat} : mb_Rn d 161 838 [l0, l1, l2, some (.ref a), l4, l5, l6] st σ Q = mb_Rn d 161 839 [l0, l1, l2, some (.ref a), l4, l5, l6] (.ref a :: st) σ Q := rn_step rfl (fun _ _ => rfl)
set_option maxRecDepth 20000 in
theorem sL_law_838n {d : Nat} {Q : mb_O → mb_S → Prop} {σ : mb_S} {st : List Value} {l0 l1 l2 l4 l5 l6 : Option Value} : mb_Rn d 161 838 [l0, l1, l2, some (.null), l4, l5, l6] st σ Q = mb_Rn d 161 839 [l0, l1, l2, some (.null), l4, l5, l6] (.null :: st) σ Q := rn_step rfl (fun _ _ => rfl)
set_option maxRecDepth 20000 in
theorem sL_law_839 {d : Nat} {Q : mb_O → mb_S → Prop} {σ : mb_S} {st : List Value} {ls : mb_L} {p0 : Nat} {p1 : Int32} {p2 : Int32} {p3 : Int32} {p4 : Int32} {p5 : Int32} {p6 : Nat} (hd : 1 ≤ d) (h4 : st.length ≤ 4) : mb_Rn d 161 839 ls (.ref p6 :: .int p5 :: .int p4 :: .int p3 :: .int p2 :: .int p1 :: .ref p0 :: st) σ Q = mb_Ex (d - 1) 149 [.ref p0, .int p1, .int p2, .int p3, .int p4, .int p5, .ref p6] σ (mb_qk d 161 842 ls st Q) := rn_calls mb_good rfl hd rfl rfl ⟨rfl, rfl⟩ h4 ⟨Nat.le_of_ble_eq_true rfl, rfl⟩
set_option maxRecDepth 20000 in
theorem sL_law_842 {d : Nat} {Q : mb_O → mb_S → Prop} {σ : mb_S} {st : List Value} {l0 l1 l2 l3 l4 l5 l6 : Option Value} {x : Int32} : mb_Rn d 161 842 [l0, l1, l2, l3, l4, l5, l6] (.int x :: st) σ Q = mb_Rn d 161 844 [l0, l1, l2, l3, l4, some (.int x), l6] st σ Q := rn_step rfl (fun _ _ => rfl)
set_option maxRecDepth 20000 in
theorem sL_law_844 {d : Nat} {Q : mb_O → mb_S → Prop} {σ : mb_S} {st : List Value} {l0 l1 l3 l4 l5 l6 : Option Value} {a : Nat} : mb_Rn d 161 844 [l0, l1, some (.ref a), l3, l4, l5, l6] st σ Q = mb_Rn d 161 845 [l0, l1, some (.ref a), l3, l4, l5, l6] (.ref a :: st) σ Q := rn_step rfl (fun _ _ => rfl)
set_option maxRecDepth 20000 in
theorem sL_law_844n {d : Nat} {Q : mb_O → mb_S → Prop} {σ : mb_S} {st : List Value} {l0 l1 l3 l4 l5 l6 : Option Value} : mb_Rn d 161 844 [l0, l1, some (.null), l3, l4, l5, l6] st σ Q = mb_Rn d 161 845 [l0, l1, some (.null), l3, l4, l5, l6] (.null :: st) σ Q := rn_step rfl (fun _ _ => rfl)
set_option maxRecDepth 20000 in
theorem sL_law_845 {d : Nat} {Q : mb_O → mb_S → Prop} {σ : mb_S} {st : List Value} {l1 l2 l3 l4 l5 l6 : Option Value} {a : Nat} : mb_Rn d 161 845 [some (.ref a), l1, l2, l3, l4, l5, l6] st σ Q = mb_Rn d 161 846 [some (.ref a), l1, l2, l3, l4, l5, l6] (.ref a :: st) σ Q := rn_step rfl (fun _ _ => rfl)
set_option maxRecDepth 20000 in
theorem sL_law_845n {d : Nat} {Q : mb_O → mb_S → Prop} {σ : mb_S} {st : List Value} {l1 l2 l3 l4 l5 l6 : Option Value} : mb_Rn d 161 845 [some (.null), l1, l2, l3, l4, l5, l6] st σ Q = mb_Rn d 161 846 [some (.null), l1, l2, l3, l4, l5, l6] (.null :: st) σ Q := rn_step rfl (fun _ _ => rfl)
set_option maxRecDepth 20000 in
theorem sL_law_846 {d : Nat} {Q : mb_O → mb_S → Prop} {σ : mb_S} {st : List Value} {l0 l1 l2 l3 l5 l6 : Option Value} {x : Int32} : mb_Rn d 161 846 [l0, l1, l2, l3, some (.int x), l5, l6] st σ Q = mb_Rn d 161 848 [l0, l1, l2, l3, some (.int x), l5, l6] (.int x :: st) σ Q := rn_step rfl (fun _ _ => rfl)
set_option maxRecDepth 20000 in
theorem sL_law_848 {d : Nat} {Q : mb_O → mb_S → Prop} {σ : mb_S} {st : List Value} {ls : mb_L} : mb_Rn d 161 848 ls st σ Q = mb_Rn d 161 849 ls (.int 1 :: st) σ Q := rn_step rfl (fun _ _ => rfl)
set_option maxRecDepth 20000 in
theorem sL_law_849 {d : Nat} {Q : mb_O → mb_S → Prop} {σ : mb_S} {st : List Value} {ls : mb_L} {x z : Int32} : mb_Rn d 161 849 ls (.int z :: .int x :: st) σ Q = mb_Rn d 161 850 ls (.int (x + z) :: st) σ Q := rn_step rfl (fun _ _ => rfl)
set_option maxRecDepth 20000 in
theorem sL_law_850 {d : Nat} {Q : mb_O → mb_S → Prop} {σ : mb_S} {st : List Value} {ls : mb_L} {a : Nat} {j : Int32} : mb_Rn d 161 850 ls (.int j :: .ref a :: st) σ Q = mb_gi σ a j False (fun kd _ f => if kd = 0 ∨ kd = 9 then mb_Rn d 161 851 ls (.int (f j.toNatClampNeg) :: st) σ Q else False) := rn_iald rfl
set_option maxRecDepth 20000 in
theorem sL_law_851 {d : Nat} {Q : mb_O → mb_S → Prop} {σ : mb_S} {st : List Value} {l1 l2 l3 l4 l5 l6 : Option Value} {a : Nat} : mb_Rn d 161 851 [some (.ref a), l1, l2, l3, l4, l5, l6] st σ Q = mb_Rn d 161 852 [some (.ref a), l1, l2, l3, l4, l5, l6] (.ref a :: st) σ Q := rn_step rfl (fun _ _ => rfl)
set_option maxRecDepth 20000 in
theorem sL_law_851n {d : Nat} {Q : mb_O → mb_S → Prop} {σ : mb_S} {st : List Value} {l1 l2 l3 l4 l5 l6 : Option Value} : mb_Rn d 161 851 [some (.null), l1, l2, l3, l4, l5, l6] st σ Q = mb_Rn d 161 852 [some (.null), l1, l2, l3, l4, l5, l6] (.null :: st) σ Q := rn_step rfl (fun _ _ => rfl)
set_option maxRecDepth 20000 in
theorem sL_law_852 {d : Nat} {Q : mb_O → mb_S → Prop} {σ : mb_S} {st : List Value} {l0 l1 l2 l3 l5 l6 : Option Value} {x : Int32} : mb_Rn d 161 852 [l0, l1, l2, l3, some (.int x), l5, l6] st σ Q = mb_Rn d 161 854 [l0, l1, l2, l3, some (.int x), l5, l6] (.int x :: st) σ Q := rn_step rfl (fun _ _ => rfl)
set_option maxRecDepth 20000 in
theorem sL_law_854 {d : Nat} {Q : mb_O → mb_S → Prop} {σ : mb_S} {st : List Value} {ls : mb_L} : mb_Rn d 161 854 ls st σ Q = mb_Rn d 161 855 ls (.int 2 :: st) σ Q := rn_step rfl (fun _ _ => rfl)
set_option maxRecDepth 20000 in
theorem sL_law_855 {d : Nat} {Q : mb_O → mb_S → Prop} {σ : mb_S} {st : List Value} {ls : mb_L} {x z : Int32} : mb_Rn d 161 855 ls (.int z :: .int x :: st) σ Q = mb_Rn d 161 856 ls (.int (x + z) :: st) σ Q := rn_step rfl (fun _ _ => rfl)
set_option maxRecDepth 20000 in
theorem sL_law_856 {d : Nat} {Q : mb_O → mb_S → Prop} {σ : mb_S} {st : List Value} {ls : mb_L} {a : Nat} {j : Int32} : mb_Rn d 161 856 ls (.int j :: .ref a :: st) σ Q = mb_gi σ a j False (fun kd _ f => if kd = 0 ∨ kd = 9 then mb_Rn d 161 857 ls (.int (f j.toNatClampNeg) :: st) σ Q else False) := rn_iald rfl
set_option maxRecDepth 20000 in
theorem sL_law_857 {d : Nat} {Q : mb_O → mb_S → Prop} {σ : mb_S} {st : List Value} {l1 l2 l3 l4 l5 l6 : Option Value} {a : Nat} : mb_Rn d 161 857 [some (.ref a), l1, l2, l3, l4, l5, l6] st σ Q = mb_Rn d 161 858 [some (.ref a), l1, l2, l3, l4, l5, l6] (.ref a :: st) σ Q := rn_step rfl (fun _ _ => rfl)
set_option maxRecDepth 20000 in
theorem sL_law_857n {d : Nat} {Q : mb_O → mb_S → Prop} {σ : mb_S} {st : List Value} {l1 l2 l3 l4 l5 l6 : Option Value} : mb_Rn d 161 857 [some (.null), l1, l2, l3, l4, l5, l6] st σ Q = mb_Rn d 161 858 [some (.null), l1, l2, l3, l4, l5, l6] (.null :: st) σ Q := rn_step rfl (fun _ _ => rfl)
set_option maxRecDepth 20000 in
theorem sL_law_858 {d : Nat} {Q : mb_O → mb_S → Prop} {σ : mb_S} {st : List Value} {l0 l1 l2 l3 l5 l6 : Option Value} {x : Int32} : mb_Rn d 161 858 [l0, l1, l2, l3, some (.int x), l5, l6] st σ Q = mb_Rn d 161 860 [l0, l1, l2, l3, some (.int x), l5, l6] (.int x :: st) σ Q := rn_step rfl (fun _ _ => rfl)
set_option maxRecDepth 20000 in
theorem sL_law_860 {d : Nat} {Q : mb_O → mb_S → Prop} {σ : mb_S} {st : List Value} {ls : mb_L} : mb_Rn d 161 860 ls st σ Q = mb_Rn d 161 861 ls (.int 3 :: st) σ Q := rn_step rfl (fun _ _ => rfl)
set_option maxRecDepth 20000 in
theorem sL_law_861 {d : Nat} {Q : mb_O → mb_S → Prop} {σ : mb_S} {st : List Value} {ls : mb_L} {x z : Int32} : mb_Rn d 161 861 ls (.int z :: .int x :: st) σ Q = mb_Rn d 161 862 ls (.int (x + z) :: st) σ Q := rn_step rfl (fun _ _ => rfl)
set_option maxRecDepth 20000 in
theorem sL_law_862 {d : Nat} {Q : mb_O → mb_S → Prop} {σ : mb_S} {st : List Value} {ls : mb_L} {a : Nat} {j : Int32} : mb_Rn d 161 862 ls (.int j :: .ref a :: st) σ Q = mb_gi σ a j False (fun kd _ f => if kd = 0 ∨ kd = 9 then mb_Rn d 161 863 ls (.int (f j.toNatClampNeg) :: st) σ Q else False) := rn_iald rfl
set_option maxRecDepth 20000 in
theorem sL_law_863 {d : Nat} {Q : mb_O → mb_S → Prop} {σ : mb_S} {st : List Value} {l1 l2 l3 l4 l5 l6 : Option Value} {a : Nat} : mb_Rn d 161 863 [some (.ref a), l1, l2, l3, l4, l5, l6] st σ Q = mb_Rn d 161 864 [some (.ref a), l1, l2, l3, l4, l5, l6] (.ref a :: st) σ Q := rn_step rfl (fun _ _ => rfl)
set_option maxRecDepth 20000 in
theorem sL_law_863n {d : Nat} {Q : mb_O → mb_S → Prop} {σ : mb_S} {st : List Value} {l1 l2 l3 l4 l5 l6 : Option Value} : mb_Rn d 161 863 [some (.null), l1, l2, l3, l4, l5, l6] st σ Q = mb_Rn d 161 864 [some (.null), l1, l2, l3, l4, l5, l6] (.null :: st) σ Q := rn_step rfl (fun _ _ => rfl)
set_option maxRecDepth 20000 in
theorem sL_law_864 {d : Nat} {Q : mb_O → mb_S → Prop} {σ : mb_S} {st : List Value} {l0 l1 l2 l3 l5 l6 : Option Value} {x : Int32} : mb_Rn d 161 864 [l0, l1, l2, l3, some (.int x), l5, l6] st σ Q = mb_Rn d 161 866 [l0, l1, l2, l3, some (.int x), l5, l6] (.int x :: st) σ Q := rn_step rfl (fun _ _ => rfl)
set_option maxRecDepth 20000 in
theorem sL_law_866 {d : Nat} {Q : mb_O → mb_S → Prop} {σ : mb_S} {st : List Value} {ls : mb_L} : mb_Rn d 161 866 ls st σ Q = mb_Rn d 161 867 ls (.int 4 :: st) σ Q := rn_step rfl (fun _ _ => rfl)
set_option maxRecDepth 20000 in
theorem sL_law_867 {d : Nat} {Q : mb_O → mb_S → Prop} {σ : mb_S} {st : List Value} {ls : mb_L} {x z : Int32} : mb_Rn d 161 867 ls (.int z :: .int x :: st) σ Q = mb_Rn d 161 868 ls (.int (x + z) :: st) σ Q := rn_step rfl (fun _ _ => rfl)
set_option maxRecDepth 20000 in
theorem sL_law_868 {d : Nat} {Q : mb_O → mb_S → Prop} {σ : mb_S} {st : List Value} {ls : mb_L} {a : Nat} {j : Int32} : mb_Rn d 161 868 ls (.int j :: .ref a :: st) σ Q = mb_gi σ a j False (fun kd _ f => if kd = 0 ∨ kd = 9 then mb_Rn d 161 869 ls (.int (f j.toNatClampNeg) :: st) σ Q else False) := rn_iald rfl
set_option maxRecDepth 20000 in
theorem sL_law_869 {d : Nat} {Q : mb_O → mb_S → Prop} {σ : mb_S} {st : List Value} {l1 l2 l3 l4 l5 l6 : Option Value} {a : Nat} : mb_Rn d 161 869 [some (.ref a), l1, l2, l3, l4, l5, l6] st σ Q = mb_Rn d 161 870 [some (.ref a), l1, l2, l3, l4, l5, l6] (.ref a :: st) σ Q := rn_step rfl (fun _ _ => rfl)
set_option maxRecDepth 20000 in
theorem sL_law_869n {d : Nat} {Q : mb_O → mb_S → Prop} {σ : mb_S} {st : List Value} {l1 l2 l3 l4 l5 l6 : Option Value} : mb_Rn d 161 869 [some (.null), l1, l2, l3, l4, l5, l6] st σ Q = mb_Rn d 161 870 [some (.null), l1, l2, l3, l4, l5, l6] (.null :: st) σ Q := rn_step rfl (fun _ _ => rfl)
set_option maxRecDepth 20000 in
theorem sL_law_870 {d : Nat} {Q : mb_O → mb_S → Prop} {σ : mb_S} {st : List Value} {l0 l1 l2 l3 l5 l6 : Option Value} {x : Int32} : mb_Rn d 161 870 [l0, l1, l2, l3, some (.int x), l5, l6] st σ Q = mb_Rn d 161 872 [l0, l1, l2, l3, some (.int x), l5, l6] (.int x :: st) σ Q := rn_step rfl (fun _ _ => rfl)
set_option maxRecDepth 20000 in
theorem sL_law_872 {d : Nat} {Q : mb_O → mb_S → Prop} {σ : mb_S} {st : List Value} {ls : mb_L} : mb_Rn d 161 872 ls st σ Q = mb_Rn d 161 873 ls (.int 5 :: st) σ Q := rn_step rfl (fun _ _ => rfl)
set_option maxRecDepth 20000 in
theorem sL_law_873 {d : Nat} {Q : mb_O → mb_S → Prop} {σ : mb_S} {st : List Value} {ls : mb_L} {x z : Int32} : mb_Rn d 161 873 ls (.int z :: .int x :: st) σ Q = mb_Rn d 161 874 ls (.int (x + z) :: st) σ Q := rn_step rfl (fun _ _ => rfl)
set_option maxRecDepth 20000 in
theorem sL_law_874 {d : Nat} {Q : mb_O → mb_S → Prop} {σ : mb_S} {st : List Value} {ls : mb_L} {a : Nat} {j : Int32} : mb_Rn d 161 874 ls (.int j :: .ref a :: st) σ Q = mb_gi σ a j False (fun kd _ f => if kd = 0 ∨ kd = 9 then mb_Rn d 161 875 ls (.int (f j.toNatClampNeg) :: st) σ Q else False) := rn_iald rfl
set_option maxRecDepth 20000 in
theorem sL_law_875 {d : Nat} {Q : mb_O → mb_S → Prop} {σ : mb_S} {st : List Value} {ls : mb_L} {p0 : Int32} {p1 : Int32} {p2 : Int32} {p3 : Int32} {p4 : Int32} {b : Nat} (hd : 1 ≤ d) (h4 : st.length ≤ 4) : mb_Rn d 161 875 ls (.int p4 :: .int p3 :: .int p2 :: .int p1 :: .int p0 :: .ref b :: st) σ Q = mb_gf σ b 8 False (fun _ => mb_Ex (d - 1) 112 [.ref b, .int p0, .int p1, .int p2, .int p3, .int p4] σ (mb_qx [] d 161 878 ls st Q)) := rn_callv mb_good rfl hd rfl rfl ⟨rfl, rfl⟩ h4 ⟨Nat.le_of_ble_eq_true rfl, rfl⟩
set_option maxRecDepth 20000 in
theorem sL_law_878 {d : Nat} {Q : mb_O → mb_S → Prop} {σ : mb_S} {st : List Value} {l0 l1 l2 l3 l4 l5 l6 : Option Value} {x : Int32} : mb_Rn d 161 878 [l0, l1, l2, l3, l4, l5, l6] (.int x :: st) σ Q = mb_Rn d 161 880 [l0, l1, l2, l3, l4, l5, some (.int x)] st σ Q := rn_step rfl (fun _ _ => rfl)
set_option maxRecDepth 20000 in
theorem sL_law_880 {d : Nat} {Q : mb_O → mb_S → Prop} {σ : mb_S} {st : List Value} {l0 l1 l3 l4 l5 l6 : Option Value} {a : Nat} : mb_Rn d 161 880 [l0, l1, some (.ref a), l3, l4, l5, l6] st σ Q = mb_Rn d 161 881 [l0, l1, some (.ref a), l3, l4, l5, l6] (.ref a :: st) σ Q := rn_step rfl (fun _ _ => rfl)
set_option maxRecDepth 20000 in
theorem sL_law_880n {d : Nat} {Q : mb_O → mb_S → Prop} {σ : mb_S} {st : List Value} {l0 l1 l3 l4 l5 l6 : Option Value} : mb_Rn d 161 880 [l0, l1, some (.null), l3, l4, l5, l6] st σ Q = mb_Rn d 161 881 [l0, l1, some (.null), l3, l4, l5, l6] (.null :: st) σ Q := rn_step rfl (fun _ _ => rfl)
set_option maxRecDepth 20000 in
theorem sL_law_881 {d : Nat} {Q : mb_O → mb_S → Prop} {σ : mb_S} {st : List Value} {ls : mb_L} {b : Nat} (hd : 1 ≤ d) (h4 : st.length ≤ 4) : mb_Rn d 161 881 ls (.ref b :: st) σ Q = mb_gf σ b 8 False (fun _ => mb_Ex (d - 1) 85 [.ref b] σ (mb_qx [] d 161 884 ls st Q)) := rn_callv mb_good rfl hd rfl rfl ⟨rfl, rfl⟩ h4 ⟨Nat.le_of_ble_eq_true rfl, rfl⟩
set_option maxRecDepth 20000 in
theorem sL_law_884 {d : Nat} {Q : mb_O → mb_S → Prop} {σ : mb_S} {st : List Value} {l0 l1 l2 l3 l4 l6 : Option Value} {x : Int32} : mb_Rn d 161 884 [l0, l1, l2, l3, l4, some (.int x), l6] st σ Q = mb_Rn d 161 886 [l0, l1, l2, l3, l4, some (.int x), l6] (.int x :: st) σ Q := rn_step rfl (fun _ _ => rfl)
set_option maxRecDepth 20000 in
theorem sL_law_886 {d : Nat} {Q : mb_O → mb_S → Prop} {σ : mb_S} {st : List Value} {ls : mb_L} {x z : Int32} : mb_Rn d 161 886 ls (.int z :: .int x :: st) σ Q = if x = z then mb_Rn d 161 891 ls st σ Q else mb_Rn d 161 889 ls st σ Q := rn_ifb rfl (fun _ _ => rfl) beq_iff_eq
set_option maxRecDepth 20000 in
theorem sL_law_889 {d : Nat} {Q : mb_O → mb_S → Prop} {σ : mb_S} {st : List Value} {ls : mb_L} : mb_Rn d 161 889 ls st σ Q = mb_Rn d 161 890 ls (.int 0 :: st) σ Q := rn_step rfl (fun _ _ => rfl)
set_option maxRecDepth 20000 in
theorem sL_law_890 {d : Nat} {Q : mb_O → mb_S → Prop} {σ : mb_S}  {ls : mb_L} {x : Int32} : mb_Rn d 161 890 ls [.int x] σ Q = if x = 0 ∨ x = 1 then Q (.inl (some (.int x))) σ else False := rn_zret rfl
set_option maxRecDepth 20000 in
theorem sL_law_891 {d : Nat} {Q : mb_O → mb_S → Prop} {σ : mb_S} {st : List Value} {l0 l1 l2 l3 l4 l6 : Option Value} {x : Int32} : mb_Rn d 161 891 [l0, l1, l2, l3, l4, some (.int x), l6] st σ Q = mb_Rn d 161 893 [l0, l1, l2, l3, l4, some (.int x), l6] (.int x :: st) σ Q := rn_step rfl (fun _ _ => rfl)
set_option maxRecDepth 20000 in
theorem sL_law_893 {d : Nat} {Q : mb_O → mb_S → Prop} {σ : mb_S} {st : List Value} {ls : mb_L} {x : Int32} : mb_Rn d 161 893 ls (.int x :: st) σ Q = if x = 0 then mb_Rn d 161 896 ls st σ Q else mb_Rn d 161 908 ls st σ Q := rn_ifn rfl (fun _ _ => rfl) bne_iff_ne
set_option maxRecDepth 20000 in
theorem sL_law_896 {d : Nat} {Q : mb_O → mb_S → Prop} {σ : mb_S} {st : List Value} {l0 l1 l2 l4 l5 l6 : Option Value} {a : Nat} : mb_Rn d 161 896 [l0, l1, l2, some (.ref a), l4, l5, l6] st σ Q = mb_Rn d 161 897 [l0, l1, l2, some (.ref a), l4, l5, l6] (.ref a :: st) σ Q := rn_step rfl (fun _ _ => rfl)
set_option maxRecDepth 20000 in
theorem sL_law_896n {d : Nat} {Q : mb_O → mb_S → Prop} {σ : mb_S} {st : List Value} {l0 l1 l2 l4 l5 l6 : Option Value} : mb_Rn d 161 896 [l0, l1, l2, some (.null), l4, l5, l6] st σ Q = mb_Rn d 161 897 [l0, l1, l2, some (.null), l4, l5, l6] (.null :: st) σ Q := rn_step rfl (fun _ _ => rfl)
set_option maxRecDepth 20000 in
theorem sL_law_897 {d : Nat} {Q : mb_O → mb_S → Prop} {σ : mb_S} {st : List Value} {ls : mb_L} : mb_Rn d 161 897 ls st σ Q = mb_Rn d 161 898 ls (.int 0 :: st) σ Q := rn_step rfl (fun _ _ => rfl)
set_option maxRecDepth 20000 in
theorem sL_law_898 {d : Nat} {Q : mb_O → mb_S → Prop} {σ : mb_S} {st : List Value} {ls : mb_L} {a : Nat} {j : Int32} : mb_Rn d 161 898 ls (.int j :: .ref a :: st) σ Q = mb_gj σ a j False (fun kd _ f => if kd = 1 then mb_Rn d 161 899 ls (.long (f j.toNatClampNeg) :: st) σ Q else False) := rn_lald rfl
set_option maxRecDepth 20000 in
theorem sL_law_899 {d : Nat} {Q : mb_O → mb_S → Prop} {σ : mb_S} {st : List Value} {l0 l1 l2 l3 l4 l5 : Option Value} {x : Int32} : mb_Rn d 161 899 [l0, l1, l2, l3, l4, l5, some (.int x)] st σ Q = mb_Rn d 161 901 [l0, l1, l2, l3, l4, l5, some (.int x)] (.int x :: st) σ Q := rn_step rfl (fun _ _ => rfl)
set_option maxRecDepth 20000 in
theorem sL_law_901 {d : Nat} {Q : mb_O → mb_S → Prop} {σ : mb_S} {st : List Value} {ls : mb_L} {x : Int32} : mb_Rn d 161 901 ls (.int x :: st) σ Q = mb_Rn d 161 902 ls (.long x.toInt64 :: st) σ Q := rn_step rfl (fun _ _ => rfl)
set_option maxRecDepth 20000 in
theorem sL_law_902 {d : Nat} {Q : mb_O → mb_S → Prop} {σ : mb_S} {st : List Value} {ls : mb_L} {x z : Int64} : mb_Rn d 161 902 ls (.long z :: .long x :: st) σ Q = mb_Rn d 161 903 ls (.int (lg_cmp x z) :: st) σ Q := rn_step rfl (fun _ _ => rfl)
set_option maxRecDepth 20000 in
theorem sL_law_903 {d : Nat} {Q : mb_O → mb_S → Prop} {σ : mb_S} {st : List Value} {ls : mb_L} {x : Int32} : mb_Rn d 161 903 ls (.int x :: st) σ Q = if x = 0 then mb_Rn d 161 908 ls st σ Q else mb_Rn d 161 906 ls st σ Q := rn_ifb rfl (fun _ _ => rfl) beq_iff_eq
set_option maxRecDepth 20000 in
theorem sL_law_906 {d : Nat} {Q : mb_O → mb_S → Prop} {σ : mb_S} {st : List Value} {ls : mb_L} : mb_Rn d 161 906 ls st σ Q = mb_Rn d 161 907 ls (.int 0 :: st) σ Q := rn_step rfl (fun _ _ => rfl)
set_option maxRecDepth 20000 in
theorem sL_law_907 {d : Nat} {Q : mb_O → mb_S → Prop} {σ : mb_S}  {ls : mb_L} {x : Int32} : mb_Rn d 161 907 ls [.int x] σ Q = if x = 0 ∨ x = 1 then Q (.inl (some (.int x))) σ else False := rn_zret rfl
set_option maxRecDepth 20000 in
theorem sL_law_908 {d : Nat} {Q : mb_O → mb_S → Prop} {σ : mb_S} {st : List Value} {ls : mb_L} : mb_Rn d 161 908 ls st σ Q = mb_Rn d 161 1642 ls st σ Q := rn_step rfl (fun _ _ => rfl)
set_option maxRecDepth 20000 in
theorem sL_law_911 {d : Nat} {Q : mb_O → mb_S → Prop} {σ : mb_S} {st : List Value} {l0 l2 l3 l4 l5 l6 : Option Value} {a : Nat} : mb_Rn d 161 911 [l0, some (.ref a), l2, l3, l4, l5, l6] st σ Q = mb_Rn d 161 912 [l0, some (.ref a), l2, l3, l4, l5, l6] (.ref a :: st) σ Q := rn_step rfl (fun _ _ => rfl)
set_option maxRecDepth 20000 in
theorem sL_law_911n {d : Nat} {Q : mb_O → mb_S → Prop} {σ : mb_S} {st : List Value} {l0 l2 l3 l4 l5 l6 : Option Value} : mb_Rn d 161 911 [l0, some (.null), l2, l3, l4, l5, l6] st σ Q = mb_Rn d 161 912 [l0, some (.null), l2, l3, l4, l5, l6] (.null :: st) σ Q := rn_step rfl (fun _ _ => rfl)
set_option maxRecDepth 20000 in
theorem sL_law_912 {d : Nat} {Q : mb_O → mb_S → Prop} {σ : mb_S} {st : List Value} {l1 l2 l3 l4 l5 l6 : Option Value} {a : Nat} : mb_Rn d 161 912 [some (.ref a), l1, l2, l3, l4, l5, l6] st σ Q = mb_Rn d 161 913 [some (.ref a), l1, l2, l3, l4, l5, l6] (.ref a :: st) σ Q := rn_step rfl (fun _ _ => rfl)
set_option maxRecDepth 20000 in
theorem sL_law_912n {d : Nat} {Q : mb_O → mb_S → Prop} {σ : mb_S} {st : List Value} {l1 l2 l3 l4 l5 l6 : Option Value} : mb_Rn d 161 912 [some (.null), l1, l2, l3, l4, l5, l6] st σ Q = mb_Rn d 161 913 [some (.null), l1, l2, l3, l4, l5, l6] (.null :: st) σ Q := rn_step rfl (fun _ _ => rfl)
set_option maxRecDepth 20000 in
theorem sL_law_913 {d : Nat} {Q : mb_O → mb_S → Prop} {σ : mb_S} {st : List Value} {l0 l1 l2 l3 l5 l6 : Option Value} {x : Int32} : mb_Rn d 161 913 [l0, l1, l2, l3, some (.int x), l5, l6] st σ Q = mb_Rn d 161 915 [l0, l1, l2, l3, some (.int x), l5, l6] (.int x :: st) σ Q := rn_step rfl (fun _ _ => rfl)
set_option maxRecDepth 20000 in
theorem sL_law_915 {d : Nat} {Q : mb_O → mb_S → Prop} {σ : mb_S} {st : List Value} {ls : mb_L} : mb_Rn d 161 915 ls st σ Q = mb_Rn d 161 916 ls (.int 1 :: st) σ Q := rn_step rfl (fun _ _ => rfl)
set_option maxRecDepth 20000 in
theorem sL_law_916 {d : Nat} {Q : mb_O → mb_S → Prop} {σ : mb_S} {st : List Value} {ls : mb_L} {x z : Int32} : mb_Rn d 161 916 ls (.int z :: .int x :: st) σ Q = mb_Rn d 161 917 ls (.int (x + z) :: st) σ Q := rn_step rfl (fun _ _ => rfl)
set_option maxRecDepth 20000 in
theorem sL_law_917 {d : Nat} {Q : mb_O → mb_S → Prop} {σ : mb_S} {st : List Value} {ls : mb_L} {a : Nat} {j : Int32} : mb_Rn d 161 917 ls (.int j :: .ref a :: st) σ Q = mb_gi σ a j False (fun kd _ f => if kd = 0 ∨ kd = 9 then mb_Rn d 161 918 ls (.int (f j.toNatClampNeg) :: st) σ Q else False) := rn_iald rfl
set_option maxRecDepth 20000 in
theorem sL_law_918 {d : Nat} {Q : mb_O → mb_S → Prop} {σ : mb_S} {st : List Value} {l1 l2 l3 l4 l5 l6 : Option Value} {a : Nat} : mb_Rn d 161 918 [some (.ref a), l1, l2, l3, l4, l5, l6] st σ Q = mb_Rn d 161 919 [some (.ref a), l1, l2, l3, l4, l5, l6] (.ref a :: st) σ Q := rn_step rfl (fun _ _ => rfl)
set_option maxRecDepth 20000 in
theorem sL_law_918n {d : Nat} {Q : mb_O → mb_S → Prop} {σ : mb_S} {st : List Value} {l1 l2 l3 l4 l5 l6 : Option Value} : mb_Rn d 161 918 [some (.null), l1, l2, l3, l4, l5, l6] st σ Q = mb_Rn d 161 919 [some (.null), l1, l2, l3, l4, l5, l6] (.null :: st) σ Q := rn_step rfl (fun _ _ => rfl)
set_option maxRecDepth 20000 in
theorem sL_law_919 {d : Nat} {Q : mb_O → mb_S → Prop} {σ : mb_S} {st : List Value} {l0 l1 l2 l3 l5 l6 : Option Value} {x : Int32} : mb_Rn d 161 919 [l0, l1, l2, l3, some (.int x), l5, l6] st σ Q = mb_Rn d 161 921 [l0, l1, l2, l3, some (.int x), l5, l6] (.int x :: st) σ Q := rn_step rfl (fun _ _ => rfl)
set_option maxRecDepth 20000 in
theorem sL_law_921 {d : Nat} {Q : mb_O → mb_S → Prop} {σ : mb_S} {st : List Value} {ls : mb_L} : mb_Rn d 161 921 ls st σ Q = mb_Rn d 161 922 ls (.int 2 :: st) σ Q := rn_step rfl (fun _ _ => rfl)
set_option maxRecDepth 20000 in
theorem sL_law_922 {d : Nat} {Q : mb_O → mb_S → Prop} {σ : mb_S} {st : List Value} {ls : mb_L} {x z : Int32} : mb_Rn d 161 922 ls (.int z :: .int x :: st) σ Q = mb_Rn d 161 923 ls (.int (x + z) :: st) σ Q := rn_step rfl (fun _ _ => rfl)
set_option maxRecDepth 20000 in
theorem sL_law_923 {d : Nat} {Q : mb_O → mb_S → Prop} {σ : mb_S} {st : List Value} {ls : mb_L} {a : Nat} {j : Int32} : mb_Rn d 161 923 ls (.int j :: .ref a :: st) σ Q = mb_gi σ a j False (fun kd _ f => if kd = 0 ∨ kd = 9 then mb_Rn d 161 924 ls (.int (f j.toNatClampNeg) :: st) σ Q else False) := rn_iald rfl
set_option maxRecDepth 20000 in
theorem sL_law_924 {d : Nat} {Q : mb_O → mb_S → Prop} {σ : mb_S} {st : List Value} {l1 l2 l3 l4 l5 l6 : Option Value} {a : Nat} : mb_Rn d 161 924 [some (.ref a), l1, l2, l3, l4, l5, l6] st σ Q = mb_Rn d 161 925 [some (.ref a), l1, l2, l3, l4, l5, l6] (.ref a :: st) σ Q := rn_step rfl (fun _ _ => rfl)
set_option maxRecDepth 20000 in
theorem sL_law_924n {d : Nat} {Q : mb_O → mb_S → Prop} {σ : mb_S} {st : List Value} {l1 l2 l3 l4 l5 l6 : Option Value} : mb_Rn d 161 924 [some (.null), l1, l2, l3, l4, l5, l6] st σ Q = mb_Rn d 161 925 [some (.null), l1, l2, l3, l4, l5, l6] (.null :: st) σ Q := rn_step rfl (fun _ _ => rfl)
set_option maxRecDepth 20000 in
theorem sL_law_925 {d : Nat} {Q : mb_O → mb_S → Prop} {σ : mb_S} {st : List Value} {l0 l1 l2 l3 l5 l6 : Option Value} {x : Int32} : mb_Rn d 161 925 [l0, l1, l2, l3, some (.int x), l5, l6] st σ Q = mb_Rn d 161 927 [l0, l1, l2, l3, some (.int x), l5, l6] (.int x :: st) σ Q := rn_step rfl (fun _ _ => rfl)
set_option maxRecDepth 20000 in
theorem sL_law_927 {d : Nat} {Q : mb_O → mb_S → Prop} {σ : mb_S} {st : List Value} {ls : mb_L} : mb_Rn d 161 927 ls st σ Q = mb_Rn d 161 928 ls (.int 3 :: st) σ Q := rn_step rfl (fun _ _ => rfl)
set_option maxRecDepth 20000 in
theorem sL_law_928 {d : Nat} {Q : mb_O → mb_S → Prop} {σ : mb_S} {st : List Value} {ls : mb_L} {x z : Int32} : mb_Rn d 161 928 ls (.int z :: .int x :: st) σ Q = mb_Rn d 161 929 ls (.int (x + z) :: st) σ Q := rn_step rfl (fun _ _ => rfl)
set_option maxRecDepth 20000 in
theorem sL_law_929 {d : Nat} {Q : mb_O → mb_S → Prop} {σ : mb_S} {st : List Value} {ls : mb_L} {a : Nat} {j : Int32} : mb_Rn d 161 929 ls (.int j :: .ref a :: st) σ Q = mb_gi σ a j False (fun kd _ f => if kd = 0 ∨ kd = 9 then mb_Rn d 161 930 ls (.int (f j.toNatClampNeg) :: st) σ Q else False) := rn_iald rfl
set_option maxRecDepth 20000 in
theorem sL_law_930 {d : Nat} {Q : mb_O → mb_S → Prop} {σ : mb_S} {st : List Value} {l0 l1 l2 l4 l5 l6 : Option Value} {a : Nat} : mb_Rn d 161 930 [l0, l1, l2, some (.ref a), l4, l5, l6] st σ Q = mb_Rn d 161 931 [l0, l1, l2, some (.ref a), l4, l5, l6] (.ref a :: st) σ Q := rn_step rfl (fun _ _ => rfl)
set_option maxRecDepth 20000 in
theorem sL_law_930n {d : Nat} {Q : mb_O → mb_S → Prop} {σ : mb_S} {st : List Value} {l0 l1 l2 l4 l5 l6 : Option Value} : mb_Rn d 161 930 [l0, l1, l2, some (.null), l4, l5, l6] st σ Q = mb_Rn d 161 931 [l0, l1, l2, some (.null), l4, l5, l6] (.null :: st) σ Q := rn_step rfl (fun _ _ => rfl)
set_option maxRecDepth 20000 in
theorem sL_law_931 {d : Nat} {Q : mb_O → mb_S → Prop} {σ : mb_S} {st : List Value} {ls : mb_L} {p0 : Nat} {p1 : Int32} {p2 : Int32} {p3 : Int32} {p4 : Nat} (hd : 1 ≤ d) (h4 : st.length ≤ 4) : mb_Rn d 161 931 ls (.ref p4 :: .int p3 :: .int p2 :: .int p1 :: .ref p0 :: st) σ Q = mb_Ex (d - 1) 150 [.ref p0, .int p1, .int p2, .int p3, .ref p4] σ (mb_qk d 161 934 ls st Q) := rn_calls mb_good rfl hd rfl rfl ⟨rfl, rfl⟩ h4 ⟨Nat.le_of_ble_eq_true rfl, rfl⟩
set_option maxRecDepth 20000 in
theorem sL_law_934 {d : Nat} {Q : mb_O → mb_S → Prop} {σ : mb_S} {st : List Value} {l0 l1 l2 l3 l4 l5 l6 : Option Value} {x : Int32} : mb_Rn d 161 934 [l0, l1, l2, l3, l4, l5, l6] (.int x :: st) σ Q = mb_Rn d 161 936 [l0, l1, l2, l3, l4, some (.int x), l6] st σ Q := rn_step rfl (fun _ _ => rfl)
set_option maxRecDepth 20000 in
theorem sL_law_936 {d : Nat} {Q : mb_O → mb_S → Prop} {σ : mb_S} {st : List Value} {l0 l1 l3 l4 l5 l6 : Option Value} {a : Nat} : mb_Rn d 161 936 [l0, l1, some (.ref a), l3, l4, l5, l6] st σ Q = mb_Rn d 161 937 [l0, l1, some (.ref a), l3, l4, l5, l6] (.ref a :: st) σ Q := rn_step rfl (fun _ _ => rfl)
set_option maxRecDepth 20000 in
theorem sL_law_936n {d : Nat} {Q : mb_O → mb_S → Prop} {σ : mb_S} {st : List Value} {l0 l1 l3 l4 l5 l6 : Option Value} : mb_Rn d 161 936 [l0, l1, some (.null), l3, l4, l5, l6] st σ Q = mb_Rn d 161 937 [l0, l1, some (.null), l3, l4, l5, l6] (.null :: st) σ Q := rn_step rfl (fun _ _ => rfl)
set_option maxRecDepth 20000 in
theorem sL_law_937 {d : Nat} {Q : mb_O → mb_S → Prop} {σ : mb_S} {st : List Value} {l1 l2 l3 l4 l5 l6 : Option Value} {a : Nat} : mb_Rn d 161 937 [some (.ref a), l1, l2, l3, l4, l5, l6] st σ Q = mb_Rn d 161 938 [some (.ref a), l1, l2, l3, l4, l5, l6] (.ref a :: st) σ Q := rn_step rfl (fun _ _ => rfl)
set_option maxRecDepth 20000 in
theorem sL_law_937n {d : Nat} {Q : mb_O → mb_S → Prop} {σ : mb_S} {st : List Value} {l1 l2 l3 l4 l5 l6 : Option Value} : mb_Rn d 161 937 [some (.null), l1, l2, l3, l4, l5, l6] st σ Q = mb_Rn d 161 938 [some (.null), l1, l2, l3, l4, l5, l6] (.null :: st) σ Q := rn_step rfl (fun _ _ => rfl)
set_option maxRecDepth 20000 in
theorem sL_law_938 {d : Nat} {Q : mb_O → mb_S → Prop} {σ : mb_S} {st : List Value} {l0 l1 l2 l3 l5 l6 : Option Value} {x : Int32} : mb_Rn d 161 938 [l0, l1, l2, l3, some (.int x), l5, l6] st σ Q = mb_Rn d 161 940 [l0, l1, l2, l3, some (.int x), l5, l6] (.int x :: st) σ Q := rn_step rfl (fun _ _ => rfl)
set_option maxRecDepth 20000 in
theorem sL_law_940 {d : Nat} {Q : mb_O → mb_S → Prop} {σ : mb_S} {st : List Value} {ls : mb_L} : mb_Rn d 161 940 ls st σ Q = mb_Rn d 161 941 ls (.int 1 :: st) σ Q := rn_step rfl (fun _ _ => rfl)
set_option maxRecDepth 20000 in
theorem sL_law_941 {d : Nat} {Q : mb_O → mb_S → Prop} {σ : mb_S} {st : List Value} {ls : mb_L} {x z : Int32} : mb_Rn d 161 941 ls (.int z :: .int x :: st) σ Q = mb_Rn d 161 942 ls (.int (x + z) :: st) σ Q := rn_step rfl (fun _ _ => rfl)
set_option maxRecDepth 20000 in
theorem sL_law_942 {d : Nat} {Q : mb_O → mb_S → Prop} {σ : mb_S} {st : List Value} {ls : mb_L} {a : Nat} {j : Int32} : mb_Rn d 161 942 ls (.int j :: .ref a :: st) σ Q = mb_gi σ a j False (fun kd _ f => if kd = 0 ∨ kd = 9 then mb_Rn d 161 943 ls (.int (f j.toNatClampNeg) :: st) σ Q else False) := rn_iald rfl
set_option maxRecDepth 20000 in
theorem sL_law_943 {d : Nat} {Q : mb_O → mb_S → Prop} {σ : mb_S} {st : List Value} {l1 l2 l3 l4 l5 l6 : Option Value} {a : Nat} : mb_Rn d 161 943 [some (.ref a), l1, l2, l3, l4, l5, l6] st σ Q = mb_Rn d 161 944 [some (.ref a), l1, l2, l3, l4, l5, l6] (.ref a :: st) σ Q := rn_step rfl (fun _ _ => rfl)
set_option maxRecDepth 20000 in
theorem sL_law_943n {d : Nat} {Q : mb_O → mb_S → Prop} {σ : mb_S} {st : List Value} {l1 l2 l3 l4 l5 l6 : Option Value} : mb_Rn d 161 943 [some (.null), l1, l2, l3, l4, l5, l6] st σ Q = mb_Rn d 161 944 [some (.null), l1, l2, l3, l4, l5, l6] (.null :: st) σ Q := rn_step rfl (fun _ _ => rfl)
set_option maxRecDepth 20000 in
theorem sL_law_944 {d : Nat} {Q : mb_O → mb_S → Prop} {σ : mb_S} {st : List Value} {l0 l1 l2 l3 l5 l6 : Option Value} {x : Int32} : mb_Rn d 161 944 [l0, l1, l2, l3, some (.int x), l5, l6] st σ Q = mb_Rn d 161 946 [l0, l1, l2, l3, some (.int x), l5, l6] (.int x :: st) σ Q := rn_step rfl (fun _ _ => rfl)
set_option maxRecDepth 20000 in
theorem sL_law_946 {d : Nat} {Q : mb_O → mb_S → Prop} {σ : mb_S} {st : List Value} {ls : mb_L} : mb_Rn d 161 946 ls st σ Q = mb_Rn d 161 947 ls (.int 2 :: st) σ Q := rn_step rfl (fun _ _ => rfl)
set_option maxRecDepth 20000 in
theorem sL_law_947 {d : Nat} {Q : mb_O → mb_S → Prop} {σ : mb_S} {st : List Value} {ls : mb_L} {x z : Int32} : mb_Rn d 161 947 ls (.int z :: .int x :: st) σ Q = mb_Rn d 161 948 ls (.int (x + z) :: st) σ Q := rn_step rfl (fun _ _ => rfl)
set_option maxRecDepth 20000 in
theorem sL_law_948 {d : Nat} {Q : mb_O → mb_S → Prop} {σ : mb_S} {st : List Value} {ls : mb_L} {a : Nat} {j : Int32} : mb_Rn d 161 948 ls (.int j :: .ref a :: st) σ Q = mb_gi σ a j False (fun kd _ f => if kd = 0 ∨ kd = 9 then mb_Rn d 161 949 ls (.int (f j.toNatClampNeg) :: st) σ Q else False) := rn_iald rfl
set_option maxRecDepth 20000 in
theorem sL_law_949 {d : Nat} {Q : mb_O → mb_S → Prop} {σ : mb_S} {st : List Value} {l1 l2 l3 l4 l5 l6 : Option Value} {a : Nat} : mb_Rn d 161 949 [some (.ref a), l1, l2, l3, l4, l5, l6] st σ Q = mb_Rn d 161 950 [some (.ref a), l1, l2, l3, l4, l5, l6] (.ref a :: st) σ Q := rn_step rfl (fun _ _ => rfl)
set_option maxRecDepth 20000 in
theorem sL_law_949n {d : Nat} {Q : mb_O → mb_S → Prop} {σ : mb_S} {st : List Value} {l1 l2 l3 l4 l5 l6 : Option Value} : mb_Rn d 161 949 [some (.null), l1, l2, l3, l4, l5, l6] st σ Q = mb_Rn d 161 950 [some (.null), l1, l2, l3, l4, l5, l6] (.null :: st) σ Q := rn_step rfl (fun _ _ => rfl)
set_option maxRecDepth 20000 in
theorem sL_law_950 {d : Nat} {Q : mb_O → mb_S → Prop} {σ : mb_S} {st : List Value} {l0 l1 l2 l3 l5 l6 : Option Value} {x : Int32} : mb_Rn d 161 950 [l0, l1, l2, l3, some (.int x), l5, l6] st σ Q = mb_Rn d 161 952 [l0, l1, l2, l3, some (.int x), l5, l6] (.int x :: st) σ Q := rn_step rfl (fun _ _ => rfl)
set_option maxRecDepth 20000 in
theorem sL_law_952 {d : Nat} {Q : mb_O → mb_S → Prop} {σ : mb_S} {st : List Value} {ls : mb_L} : mb_Rn d 161 952 ls st σ Q = mb_Rn d 161 953 ls (.int 3 :: st) σ Q := rn_step rfl (fun _ _ => rfl)
set_option maxRecDepth 20000 in
theorem sL_law_953 {d : Nat} {Q : mb_O → mb_S → Prop} {σ : mb_S} {st : List Value} {ls : mb_L} {x z : Int32} : mb_Rn d 161 953 ls (.int z :: .int x :: st) σ Q = mb_Rn d 161 954 ls (.int (x + z) :: st) σ Q := rn_step rfl (fun _ _ => rfl)
set_option maxRecDepth 20000 in
theorem sL_law_954 {d : Nat} {Q : mb_O → mb_S → Prop} {σ : mb_S} {st : List Value} {ls : mb_L} {a : Nat} {j : Int32} : mb_Rn d 161 954 ls (.int j :: .ref a :: st) σ Q = mb_gi σ a j False (fun kd _ f => if kd = 0 ∨ kd = 9 then mb_Rn d 161 955 ls (.int (f j.toNatClampNeg) :: st) σ Q else False) := rn_iald rfl
set_option maxRecDepth 20000 in
theorem sL_law_955 {d : Nat} {Q : mb_O → mb_S → Prop} {σ : mb_S} {st : List Value} {ls : mb_L} {p0 : Int32} {p1 : Int32} {p2 : Int32} {b : Nat} (hd : 1 ≤ d) (h4 : st.length ≤ 4) : mb_Rn d 161 955 ls (.int p2 :: .int p1 :: .int p0 :: .ref b :: st) σ Q = mb_gf σ b 8 False (fun _ => mb_Ex (d - 1) 115 [.ref b, .int p0, .int p1, .int p2] σ (mb_qx [] d 161 958 ls st Q)) := rn_callv mb_good rfl hd rfl rfl ⟨rfl, rfl⟩ h4 ⟨Nat.le_of_ble_eq_true rfl, rfl⟩
set_option maxRecDepth 20000 in
theorem sL_law_958 {d : Nat} {Q : mb_O → mb_S → Prop} {σ : mb_S} {st : List Value} {l0 l1 l2 l3 l4 l5 l6 : Option Value} {x : Int32} : mb_Rn d 161 958 [l0, l1, l2, l3, l4, l5, l6] (.int x :: st) σ Q = mb_Rn d 161 960 [l0, l1, l2, l3, l4, l5, some (.int x)] st σ Q := rn_step rfl (fun _ _ => rfl)
set_option maxRecDepth 20000 in
theorem sL_law_960 {d : Nat} {Q : mb_O → mb_S → Prop} {σ : mb_S} {st : List Value} {l0 l1 l3 l4 l5 l6 : Option Value} {a : Nat} : mb_Rn d 161 960 [l0, l1, some (.ref a), l3, l4, l5, l6] st σ Q = mb_Rn d 161 961 [l0, l1, some (.ref a), l3, l4, l5, l6] (.ref a :: st) σ Q := rn_step rfl (fun _ _ => rfl)
set_option maxRecDepth 20000 in
theorem sL_law_960n {d : Nat} {Q : mb_O → mb_S → Prop} {σ : mb_S} {st : List Value} {l0 l1 l3 l4 l5 l6 : Option Value} : mb_Rn d 161 960 [l0, l1, some (.null), l3, l4, l5, l6] st σ Q = mb_Rn d 161 961 [l0, l1, some (.null), l3, l4, l5, l6] (.null :: st) σ Q := rn_step rfl (fun _ _ => rfl)
set_option maxRecDepth 20000 in
theorem sL_law_961 {d : Nat} {Q : mb_O → mb_S → Prop} {σ : mb_S} {st : List Value} {ls : mb_L} {b : Nat} (hd : 1 ≤ d) (h4 : st.length ≤ 4) : mb_Rn d 161 961 ls (.ref b :: st) σ Q = mb_gf σ b 8 False (fun _ => mb_Ex (d - 1) 85 [.ref b] σ (mb_qx [] d 161 964 ls st Q)) := rn_callv mb_good rfl hd rfl rfl ⟨rfl, rfl⟩ h4 ⟨Nat.le_of_ble_eq_true rfl, rfl⟩
set_option maxRecDepth 20000 in
theorem sL_law_964 {d : Nat} {Q : mb_O → mb_S → Prop} {σ : mb_S} {st : List Value} {l0 l1 l2 l3 l4 l6 : Option Value} {x : Int32} : mb_Rn d 161 964 [l0, l1, l2, l3, l4, some (.int x), l6] st σ Q = mb_Rn d 161 966 [l0, l1, l2, l3, l4, some (.int x), l6] (.int x :: st) σ Q := rn_step rfl (fun _ _ => rfl)
set_option maxRecDepth 20000 in
theorem sL_law_966 {d : Nat} {Q : mb_O → mb_S → Prop} {σ : mb_S} {st : List Value} {ls : mb_L} {x z : Int32} : mb_Rn d 161 966 ls (.int z :: .int x :: st) σ Q = if x = z then mb_Rn d 161 971 ls st σ Q else mb_Rn d 161 969 ls st σ Q := rn_ifb rfl (fun _ _ => rfl) beq_iff_eq
set_option maxRecDepth 20000 in
theorem sL_law_969 {d : Nat} {Q : mb_O → mb_S → Prop} {σ : mb_S} {st : List Value} {ls : mb_L} : mb_Rn d 161 969 ls st σ Q = mb_Rn d 161 970 ls (.int 0 :: st) σ Q := rn_step rfl (fun _ _ => rfl)
set_option maxRecDepth 20000 in
theorem sL_law_970 {d : Nat} {Q : mb_O → mb_S → Prop} {σ : mb_S}  {ls : mb_L} {x : Int32} : mb_Rn d 161 970 ls [.int x] σ Q = if x = 0 ∨ x = 1 then Q (.inl (some (.int x))) σ else False := rn_zret rfl
set_option maxRecDepth 20000 in
theorem sL_law_971 {d : Nat} {Q : mb_O → mb_S → Prop} {σ : mb_S} {st : List Value} {l0 l1 l2 l3 l4 l6 : Option Value} {x : Int32} : mb_Rn d 161 971 [l0, l1, l2, l3, l4, some (.int x), l6] st σ Q = mb_Rn d 161 973 [l0, l1, l2, l3, l4, some (.int x), l6] (.int x :: st) σ Q := rn_step rfl (fun _ _ => rfl)
set_option maxRecDepth 20000 in
theorem sL_law_973 {d : Nat} {Q : mb_O → mb_S → Prop} {σ : mb_S} {st : List Value} {ls : mb_L} {x : Int32} : mb_Rn d 161 973 ls (.int x :: st) σ Q = if x = 0 then mb_Rn d 161 976 ls st σ Q else mb_Rn d 161 988 ls st σ Q := rn_ifn rfl (fun _ _ => rfl) bne_iff_ne
set_option maxRecDepth 20000 in
theorem sL_law_976 {d : Nat} {Q : mb_O → mb_S → Prop} {σ : mb_S} {st : List Value} {l0 l1 l2 l4 l5 l6 : Option Value} {a : Nat} : mb_Rn d 161 976 [l0, l1, l2, some (.ref a), l4, l5, l6] st σ Q = mb_Rn d 161 977 [l0, l1, l2, some (.ref a), l4, l5, l6] (.ref a :: st) σ Q := rn_step rfl (fun _ _ => rfl)
set_option maxRecDepth 20000 in
theorem sL_law_976n {d : Nat} {Q : mb_O → mb_S → Prop} {σ : mb_S} {st : List Value} {l0 l1 l2 l4 l5 l6 : Option Value} : mb_Rn d 161 976 [l0, l1, l2, some (.null), l4, l5, l6] st σ Q = mb_Rn d 161 977 [l0, l1, l2, some (.null), l4, l5, l6] (.null :: st) σ Q := rn_step rfl (fun _ _ => rfl)
set_option maxRecDepth 20000 in
theorem sL_law_977 {d : Nat} {Q : mb_O → mb_S → Prop} {σ : mb_S} {st : List Value} {ls : mb_L} : mb_Rn d 161 977 ls st σ Q = mb_Rn d 161 978 ls (.int 0 :: st) σ Q := rn_step rfl (fun _ _ => rfl)
set_option maxRecDepth 20000 in
theorem sL_law_978 {d : Nat} {Q : mb_O → mb_S → Prop} {σ : mb_S} {st : List Value} {ls : mb_L} {a : Nat} {j : Int32} : mb_Rn d 161 978 ls (.int j :: .ref a :: st) σ Q = mb_gj σ a j False (fun kd _ f => if kd = 1 then mb_Rn d 161 979 ls (.long (f j.toNatClampNeg) :: st) σ Q else False) := rn_lald rfl
set_option maxRecDepth 20000 in
theorem sL_law_979 {d : Nat} {Q : mb_O → mb_S → Prop} {σ : mb_S} {st : List Value} {l0 l1 l2 l3 l4 l5 : Option Value} {x : Int32} : mb_Rn d 161 979 [l0, l1, l2, l3, l4, l5, some (.int x)] st σ Q = mb_Rn d 161 981 [l0, l1, l2, l3, l4, l5, some (.int x)] (.int x :: st) σ Q := rn_step rfl (fun _ _ => rfl)
set_option maxRecDepth 20000 in
theorem sL_law_981 {d : Nat} {Q : mb_O → mb_S → Prop} {σ : mb_S} {st : List Value} {ls : mb_L} {x : Int32} : mb_Rn d 161 981 ls (.int x :: st) σ Q = mb_Rn d 161 982 ls (.long x.toInt64 :: st) σ Q := rn_step rfl (fun _ _ => rfl)
set_option maxRecDepth 20000 in
theorem sL_law_982 {d : Nat} {Q : mb_O → mb_S → Prop} {σ : mb_S} {st : List Value} {ls : mb_L} {x z : Int64} : mb_Rn d 161 982 ls (.long z :: .long x :: st) σ Q = mb_Rn d 161 983 ls (.int (lg_cmp x z) :: st) σ Q := rn_step rfl (fun _ _ => rfl)
set_option maxRecDepth 20000 in
theorem sL_law_983 {d : Nat} {Q : mb_O → mb_S → Prop} {σ : mb_S} {st : List Value} {ls : mb_L} {x : Int32} : mb_Rn d 161 983 ls (.int x :: st) σ Q = if x = 0 then mb_Rn d 161 988 ls st σ Q else mb_Rn d 161 986 ls st σ Q := rn_ifb rfl (fun _ _ => rfl) beq_iff_eq
set_option maxRecDepth 20000 in
theorem sL_law_986 {d : Nat} {Q : mb_O → mb_S → Prop} {σ : mb_S} {st : List Value} {ls : mb_L} : mb_Rn d 161 986 ls st σ Q = mb_Rn d 161 987 ls (.int 0 :: st) σ Q := rn_step rfl (fun _ _ => rfl)
set_option maxRecDepth 20000 in
theorem sL_law_987 {d : Nat} {Q : mb_O → mb_S → Prop} {σ : mb_S}  {ls : mb_L} {x : Int32} : mb_Rn d 161 987 ls [.int x] σ Q = if x = 0 ∨ x = 1 then Q (.inl (some (.int x))) σ else False := rn_zret rfl
set_option maxRecDepth 20000 in
theorem sL_law_988 {d : Nat} {Q : mb_O → mb_S → Prop} {σ : mb_S} {st : List Value} {ls : mb_L} : mb_Rn d 161 988 ls st σ Q = mb_Rn d 161 1642 ls st σ Q := rn_step rfl (fun _ _ => rfl)
set_option maxRecDepth 20000 in
theorem sL_law_991 {d : Nat} {Q : mb_O → mb_S → Prop} {σ : mb_S} {st : List Value} {l0 l2 l3 l4 l5 l6 : Option Value} {a : Nat} : mb_Rn d 161 991 [l0, some (.ref a), l2, l3, l4, l5, l6] st σ Q = mb_Rn d 161 992 [l0, some (.ref a), l2, l3, l4, l5, l6] (.ref a :: st) σ Q := rn_step rfl (fun _ _ => rfl)
set_option maxRecDepth 20000 in
theorem sL_law_991n {d : Nat} {Q : mb_O → mb_S → Prop} {σ : mb_S} {st : List Value} {l0 l2 l3 l4 l5 l6 : Option Value} : mb_Rn d 161 991 [l0, some (.null), l2, l3, l4, l5, l6] st σ Q = mb_Rn d 161 992 [l0, some (.null), l2, l3, l4, l5, l6] (.null :: st) σ Q := rn_step rfl (fun _ _ => rfl)
set_option maxRecDepth 20000 in
theorem sL_law_992 {d : Nat} {Q : mb_O → mb_S → Prop} {σ : mb_S} {st : List Value} {l1 l2 l3 l4 l5 l6 : Option Value} {a : Nat} : mb_Rn d 161 992 [some (.ref a), l1, l2, l3, l4, l5, l6] st σ Q = mb_Rn d 161 993 [some (.ref a), l1, l2, l3, l4, l5, l6] (.ref a :: st) σ Q := rn_step rfl (fun _ _ => rfl)
set_option maxRecDepth 20000 in
theorem sL_law_992n {d : Nat} {Q : mb_O → mb_S → Prop} {σ : mb_S} {st : List Value} {l1 l2 l3 l4 l5 l6 : Option Value} : mb_Rn d 161 992 [some (.null), l1, l2, l3, l4, l5, l6] st σ Q = mb_Rn d 161 993 [some (.null), l1, l2, l3, l4, l5, l6] (.null :: st) σ Q := rn_step rfl (fun _ _ => rfl)
set_option maxRecDepth 20000 in
theorem sL_law_993 {d : Nat} {Q : mb_O → mb_S → Prop} {σ : mb_S} {st : List Value} {l0 l1 l2 l3 l5 l6 : Option Value} {x : Int32} : mb_Rn d 161 993 [l0, l1, l2, l3, some (.int x), l5, l6] st σ Q = mb_Rn d 161 995 [l0, l1, l2, l3, some (.int x), l5, l6] (.int x :: st) σ Q := rn_step rfl (fun _ _ => rfl)
set_option maxRecDepth 20000 in
theorem sL_law_995 {d : Nat} {Q : mb_O → mb_S → Prop} {σ : mb_S} {st : List Value} {ls : mb_L} : mb_Rn d 161 995 ls st σ Q = mb_Rn d 161 996 ls (.int 1 :: st) σ Q := rn_step rfl (fun _ _ => rfl)
set_option maxRecDepth 20000 in
theorem sL_law_996 {d : Nat} {Q : mb_O → mb_S → Prop} {σ : mb_S} {st : List Value} {ls : mb_L} {x z : Int32} : mb_Rn d 161 996 ls (.int z :: .int x :: st) σ Q = mb_Rn d 161 997 ls (.int (x + z) :: st) σ Q := rn_step rfl (fun _ _ => rfl)
set_option maxRecDepth 20000 in
theorem sL_law_997 {d : Nat} {Q : mb_O → mb_S → Prop} {σ : mb_S} {st : List Value} {ls : mb_L} {a : Nat} {j : Int32} : mb_Rn d 161 997 ls (.int j :: .ref a :: st) σ Q = mb_gi σ a j False (fun kd _ f => if kd = 0 ∨ kd = 9 then mb_Rn d 161 998 ls (.int (f j.toNatClampNeg) :: st) σ Q else False) := rn_iald rfl
set_option maxRecDepth 20000 in
theorem sL_law_998 {d : Nat} {Q : mb_O → mb_S → Prop} {σ : mb_S} {st : List Value} {l1 l2 l3 l4 l5 l6 : Option Value} {a : Nat} : mb_Rn d 161 998 [some (.ref a), l1, l2, l3, l4, l5, l6] st σ Q = mb_Rn d 161 999 [some (.ref a), l1, l2, l3, l4, l5, l6] (.ref a :: st) σ Q := rn_step rfl (fun _ _ => rfl)
set_option maxRecDepth 20000 in
theorem sL_law_998n {d : Nat} {Q : mb_O → mb_S → Prop} {σ : mb_S} {st : List Value} {l1 l2 l3 l4 l5 l6 : Option Value} : mb_Rn d 161 998 [some (.null), l1, l2, l3, l4, l5, l6] st σ Q = mb_Rn d 161 999 [some (.null), l1, l2, l3, l4, l5, l6] (.null :: st) σ Q := rn_step rfl (fun _ _ => rfl)
set_option maxRecDepth 20000 in
theorem sL_law_999 {d : Nat} {Q : mb_O → mb_S → Prop} {σ : mb_S} {st : List Value} {l0 l1 l2 l3 l5 l6 : Option Value} {x : Int32} : mb_Rn d 161 999 [l0, l1, l2, l3, some (.int x), l5, l6] st σ Q = mb_Rn d 161 1001 [l0, l1, l2, l3, some (.int x), l5, l6] (.int x :: st) σ Q := rn_step rfl (fun _ _ => rfl)
set_option maxRecDepth 20000 in
theorem sL_law_1001 {d : Nat} {Q : mb_O → mb_S → Prop} {σ : mb_S} {st : List Value} {ls : mb_L} : mb_Rn d 161 1001 ls st σ Q = mb_Rn d 161 1002 ls (.int 2 :: st) σ Q := rn_step rfl (fun _ _ => rfl)
set_option maxRecDepth 20000 in
theorem sL_law_1002 {d : Nat} {Q : mb_O → mb_S → Prop} {σ : mb_S} {st : List Value} {ls : mb_L} {x z : Int32} : mb_Rn d 161 1002 ls (.int z :: .int x :: st) σ Q = mb_Rn d 161 1003 ls (.int (x + z) :: st) σ Q := rn_step rfl (fun _ _ => rfl)
set_option maxRecDepth 20000 in
theorem sL_law_1003 {d : Nat} {Q : mb_O → mb_S → Prop} {σ : mb_S} {st : List Value} {ls : mb_L} {a : Nat} {j : Int32} : mb_Rn d 161 1003 ls (.int j :: .ref a :: st) σ Q = mb_gi σ a j False (fun kd _ f => if kd = 0 ∨ kd = 9 then mb_Rn d 161 1004 ls (.int (f j.toNatClampNeg) :: st) σ Q else False) := rn_iald rfl
set_option maxRecDepth 20000 in
theorem sL_law_1004 {d : Nat} {Q : mb_O → mb_S → Prop} {σ : mb_S} {st : List Value} {l0 l1 l2 l4 l5 l6 : Option Value} {a : Nat} : mb_Rn d 161 1004 [l0, l1, l2, some (.ref a), l4, l5, l6] st σ Q = mb_Rn d 161 1005 [l0, l1, l2, some (.ref a), l4, l5, l6] (.ref a :: st) σ Q := rn_step rfl (fun _ _ => rfl)
set_option maxRecDepth 20000 in
theorem sL_law_1004n {d : Nat} {Q : mb_O → mb_S → Prop} {σ : mb_S} {st : List Value} {l0 l1 l2 l4 l5 l6 : Option Value} : mb_Rn d 161 1004 [l0, l1, l2, some (.null), l4, l5, l6] st σ Q = mb_Rn d 161 1005 [l0, l1, l2, some (.null), l4, l5, l6] (.null :: st) σ Q := rn_step rfl (fun _ _ => rfl)
set_option maxRecDepth 20000 in
theorem sL_law_1005 {d : Nat} {Q : mb_O → mb_S → Prop} {σ : mb_S} {st : List Value} {ls : mb_L} {p0 : Nat} {p1 : Int32} {p2 : Int32} {p3 : Nat} (hd : 1 ≤ d) (h4 : st.length ≤ 4) : mb_Rn d 161 1005 ls (.ref p3 :: .int p2 :: .int p1 :: .ref p0 :: st) σ Q = mb_Ex (d - 1) 151 [.ref p0, .int p1, .int p2, .ref p3] σ (mb_qk d 161 1008 ls st Q) := rn_calls mb_good rfl hd rfl rfl ⟨rfl, rfl⟩ h4 ⟨Nat.le_of_ble_eq_true rfl, rfl⟩
set_option maxRecDepth 20000 in
theorem sL_law_1008 {d : Nat} {Q : mb_O → mb_S → Prop} {σ : mb_S} {st : List Value} {l0 l1 l2 l3 l4 l5 l6 : Option Value} {x : Int32} : mb_Rn d 161 1008 [l0, l1, l2, l3, l4, l5, l6] (.int x :: st) σ Q = mb_Rn d 161 1010 [l0, l1, l2, l3, l4, some (.int x), l6] st σ Q := rn_step rfl (fun _ _ => rfl)
set_option maxRecDepth 20000 in
theorem sL_law_1010 {d : Nat} {Q : mb_O → mb_S → Prop} {σ : mb_S} {st : List Value} {l0 l1 l3 l4 l5 l6 : Option Value} {a : Nat} : mb_Rn d 161 1010 [l0, l1, some (.ref a), l3, l4, l5, l6] st σ Q = mb_Rn d 161 1011 [l0, l1, some (.ref a), l3, l4, l5, l6] (.ref a :: st) σ Q := rn_step rfl (fun _ _ => rfl)
set_option maxRecDepth 20000 in
theorem sL_law_1010n {d : Nat} {Q : mb_O → mb_S → Prop} {σ : mb_S} {st : List Value} {l0 l1 l3 l4 l5 l6 : Option Value} : mb_Rn d 161 1010 [l0, l1, some (.null), l3, l4, l5, l6] st σ Q = mb_Rn d 161 1011 [l0, l1, some (.null), l3, l4, l5, l6] (.null :: st) σ Q := rn_step rfl (fun _ _ => rfl)
set_option maxRecDepth 20000 in
theorem sL_law_1011 {d : Nat} {Q : mb_O → mb_S → Prop} {σ : mb_S} {st : List Value} {l1 l2 l3 l4 l5 l6 : Option Value} {a : Nat} : mb_Rn d 161 1011 [some (.ref a), l1, l2, l3, l4, l5, l6] st σ Q = mb_Rn d 161 1012 [some (.ref a), l1, l2, l3, l4, l5, l6] (.ref a :: st) σ Q := rn_step rfl (fun _ _ => rfl)
set_option maxRecDepth 20000 in
theorem sL_law_1011n {d : Nat} {Q : mb_O → mb_S → Prop} {σ : mb_S} {st : List Value} {l1 l2 l3 l4 l5 l6 : Option Value} : mb_Rn d 161 1011 [some (.null), l1, l2, l3, l4, l5, l6] st σ Q = mb_Rn d 161 1012 [some (.null), l1, l2, l3, l4, l5, l6] (.null :: st) σ Q := rn_step rfl (fun _ _ => rfl)
set_option maxRecDepth 20000 in
theorem sL_law_1012 {d : Nat} {Q : mb_O → mb_S → Prop} {σ : mb_S} {st : List Value} {l0 l1 l2 l3 l5 l6 : Option Value} {x : Int32} : mb_Rn d 161 1012 [l0, l1, l2, l3, some (.int x), l5, l6] st σ Q = mb_Rn d 161 1014 [l0, l1, l2, l3, some (.int x), l5, l6] (.int x :: st) σ Q := rn_step rfl (fun _ _ => rfl)
set_option maxRecDepth 20000 in
theorem sL_law_1014 {d : Nat} {Q : mb_O → mb_S → Prop} {σ : mb_S} {st : List Value} {ls : mb_L} : mb_Rn d 161 1014 ls st σ Q = mb_Rn d 161 1015 ls (.int 1 :: st) σ Q := rn_step rfl (fun _ _ => rfl)
set_option maxRecDepth 20000 in
theorem sL_law_1015 {d : Nat} {Q : mb_O → mb_S → Prop} {σ : mb_S} {st : List Value} {ls : mb_L} {x z : Int32} : mb_Rn d 161 1015 ls (.int z :: .int x :: st) σ Q = mb_Rn d 161 1016 ls (.int (x + z) :: st) σ Q := rn_step rfl (fun _ _ => rfl)
set_option maxRecDepth 20000 in
theorem sL_law_1016 {d : Nat} {Q : mb_O → mb_S → Prop} {σ : mb_S} {st : List Value} {ls : mb_L} {a : Nat} {j : Int32} : mb_Rn d 161 1016 ls (.int j :: .ref a :: st) σ Q = mb_gi σ a j False (fun kd _ f => if kd = 0 ∨ kd = 9 then mb_Rn d 161 1017 ls (.int (f j.toNatClampNeg) :: st) σ Q else False) := rn_iald rfl
set_option maxRecDepth 20000 in
theorem sL_law_1017 {d : Nat} {Q : mb_O → mb_S → Prop} {σ : mb_S} {st : List Value} {l1 l2 l3 l4 l5 l6 : Option Value} {a : Nat} : mb_Rn d 161 1017 [some (.ref a), l1, l2, l3, l4, l5, l6] st σ Q = mb_Rn d 161 1018 [some (.ref a), l1, l2, l3, l4, l5, l6] (.ref a :: st) σ Q := rn_step rfl (fun _ _ => rfl)
set_option maxRecDepth 20000 in
theorem sL_law_1017n {d : Nat} {Q : mb_O → mb_S → Prop} {σ : mb_S} {st : List Value} {l1 l2 l3 l4 l5 l6 : Option Value} : mb_Rn d 161 1017 [some (.null), l1, l2, l3, l4, l5, l6] st σ Q = mb_Rn d 161 1018 [some (.null), l1, l2, l3, l4, l5, l6] (.null :: st) σ Q := rn_step rfl (fun _ _ => rfl)
set_option maxRecDepth 20000 in
theorem sL_law_1018 {d : Nat} {Q : mb_O → mb_S → Prop} {σ : mb_S} {st : List Value} {l0 l1 l2 l3 l5 l6 : Option Value} {x : Int32} : mb_Rn d 161 1018 [l0, l1, l2, l3, some (.int x), l5, l6] st σ Q = mb_Rn d 161 1020 [l0, l1, l2, l3, some (.int x), l5, l6] (.int x :: st) σ Q := rn_step rfl (fun _ _ => rfl)
set_option maxRecDepth 20000 in
theorem sL_law_1020 {d : Nat} {Q : mb_O → mb_S → Prop} {σ : mb_S} {st : List Value} {ls : mb_L} : mb_Rn d 161 1020 ls st σ Q = mb_Rn d 161 1021 ls (.int 2 :: st) σ Q := rn_step rfl (fun _ _ => rfl)
set_option maxRecDepth 20000 in
theorem sL_law_1021 {d : Nat} {Q : mb_O → mb_S → Prop} {σ : mb_S} {st : List Value} {ls : mb_L} {x z : Int32} : mb_Rn d 161 1021 ls (.int z :: .int x :: st) σ Q = mb_Rn d 161 1022 ls (.int (x + z) :: st) σ Q := rn_step rfl (fun _ _ => rfl)
set_option maxRecDepth 20000 in
theorem sL_law_1022 {d : Nat} {Q : mb_O → mb_S → Prop} {σ : mb_S} {st : List Value} {ls : mb_L} {a : Nat} {j : Int32} : mb_Rn d 161 1022 ls (.int j :: .ref a :: st) σ Q = mb_gi σ a j False (fun kd _ f => if kd = 0 ∨ kd = 9 then mb_Rn d 161 1023 ls (.int (f j.toNatClampNeg) :: st) σ Q else False) := rn_iald rfl
set_option maxRecDepth 20000 in
theorem sL_law_1023 {d : Nat} {Q : mb_O → mb_S → Prop} {σ : mb_S} {st : List Value} {ls : mb_L} {p0 : Int32} {p1 : Int32} {b : Nat} (hd : 1 ≤ d) (h4 : st.length ≤ 4) : mb_Rn d 161 1023 ls (.int p1 :: .int p0 :: .ref b :: st) σ Q = mb_gf σ b 8 False (fun _ => mb_Ex (d - 1) 116 [.ref b, .int p0, .int p1] σ (mb_qx [] d 161 1026 ls st Q)) := rn_callv mb_good rfl hd rfl rfl ⟨rfl, rfl⟩ h4 ⟨Nat.le_of_ble_eq_true rfl, rfl⟩
set_option maxRecDepth 20000 in
theorem sL_law_1026 {d : Nat} {Q : mb_O → mb_S → Prop} {σ : mb_S} {st : List Value} {l0 l1 l2 l3 l4 l5 l6 : Option Value} {x : Int32} : mb_Rn d 161 1026 [l0, l1, l2, l3, l4, l5, l6] (.int x :: st) σ Q = mb_Rn d 161 1028 [l0, l1, l2, l3, l4, l5, some (.int x)] st σ Q := rn_step rfl (fun _ _ => rfl)
set_option maxRecDepth 20000 in
theorem sL_law_1028 {d : Nat} {Q : mb_O → mb_S → Prop} {σ : mb_S} {st : List Value} {l0 l1 l3 l4 l5 l6 : Option Value} {a : Nat} : mb_Rn d 161 1028 [l0, l1, some (.ref a), l3, l4, l5, l6] st σ Q = mb_Rn d 161 1029 [l0, l1, some (.ref a), l3, l4, l5, l6] (.ref a :: st) σ Q := rn_step rfl (fun _ _ => rfl)
set_option maxRecDepth 20000 in
theorem sL_law_1028n {d : Nat} {Q : mb_O → mb_S → Prop} {σ : mb_S} {st : List Value} {l0 l1 l3 l4 l5 l6 : Option Value} : mb_Rn d 161 1028 [l0, l1, some (.null), l3, l4, l5, l6] st σ Q = mb_Rn d 161 1029 [l0, l1, some (.null), l3, l4, l5, l6] (.null :: st) σ Q := rn_step rfl (fun _ _ => rfl)
set_option maxRecDepth 20000 in
theorem sL_law_1029 {d : Nat} {Q : mb_O → mb_S → Prop} {σ : mb_S} {st : List Value} {ls : mb_L} {b : Nat} (hd : 1 ≤ d) (h4 : st.length ≤ 4) : mb_Rn d 161 1029 ls (.ref b :: st) σ Q = mb_gf σ b 8 False (fun _ => mb_Ex (d - 1) 85 [.ref b] σ (mb_qx [] d 161 1032 ls st Q)) := rn_callv mb_good rfl hd rfl rfl ⟨rfl, rfl⟩ h4 ⟨Nat.le_of_ble_eq_true rfl, rfl⟩
set_option maxRecDepth 20000 in
theorem sL_law_1032 {d : Nat} {Q : mb_O → mb_S → Prop} {σ : mb_S} {st : List Value} {l0 l1 l2 l3 l4 l6 : Option Value} {x : Int32} : mb_Rn d 161 1032 [l0, l1, l2, l3, l4, some (.int x), l6] st σ Q = mb_Rn d 161 1034 [l0, l1, l2, l3, l4, some (.int x), l6] (.int x :: st) σ Q := rn_step rfl (fun _ _ => rfl)
set_option maxRecDepth 20000 in
theorem sL_law_1034 {d : Nat} {Q : mb_O → mb_S → Prop} {σ : mb_S} {st : List Value} {ls : mb_L} {x z : Int32} : mb_Rn d 161 1034 ls (.int z :: .int x :: st) σ Q = if x = z then mb_Rn d 161 1039 ls st σ Q else mb_Rn d 161 1037 ls st σ Q := rn_ifb rfl (fun _ _ => rfl) beq_iff_eq
set_option maxRecDepth 20000 in
theorem sL_law_1037 {d : Nat} {Q : mb_O → mb_S → Prop} {σ : mb_S} {st : List Value} {ls : mb_L} : mb_Rn d 161 1037 ls st σ Q = mb_Rn d 161 1038 ls (.int 0 :: st) σ Q := rn_step rfl (fun _ _ => rfl)
set_option maxRecDepth 20000 in
theorem sL_law_1038 {d : Nat} {Q : mb_O → mb_S → Prop} {σ : mb_S}  {ls : mb_L} {x : Int32} : mb_Rn d 161 1038 ls [.int x] σ Q = if x = 0 ∨ x = 1 then Q (.inl (some (.int x))) σ else False := rn_zret rfl
set_option maxRecDepth 20000 in
theorem sL_law_1039 {d : Nat} {Q : mb_O → mb_S → Prop} {σ : mb_S} {st : List Value} {l0 l1 l2 l3 l4 l6 : Option Value} {x : Int32} : mb_Rn d 161 1039 [l0, l1, l2, l3, l4, some (.int x), l6] st σ Q = mb_Rn d 161 1041 [l0, l1, l2, l3, l4, some (.int x), l6] (.int x :: st) σ Q := rn_step rfl (fun _ _ => rfl)
set_option maxRecDepth 20000 in
theorem sL_law_1041 {d : Nat} {Q : mb_O → mb_S → Prop} {σ : mb_S} {st : List Value} {ls : mb_L} {x : Int32} : mb_Rn d 161 1041 ls (.int x :: st) σ Q = if x = 0 then mb_Rn d 161 1044 ls st σ Q else mb_Rn d 161 1056 ls st σ Q := rn_ifn rfl (fun _ _ => rfl) bne_iff_ne
set_option maxRecDepth 20000 in
theorem sL_law_1044 {d : Nat} {Q : mb_O → mb_S → Prop} {σ : mb_S} {st : List Value} {l0 l1 l2 l4 l5 l6 : Option Value} {a : Nat} : mb_Rn d 161 1044 [l0, l1, l2, some (.ref a), l4, l5, l6] st σ Q = mb_Rn d 161 1045 [l0, l1, l2, some (.ref a), l4, l5, l6] (.ref a :: st) σ Q := rn_step rfl (fun _ _ => rfl)
set_option maxRecDepth 20000 in
theorem sL_law_1044n {d : Nat} {Q : mb_O → mb_S → Prop} {σ : mb_S} {st : List Value} {l0 l1 l2 l4 l5 l6 : Option Value} : mb_Rn d 161 1044 [l0, l1, l2, some (.null), l4, l5, l6] st σ Q = mb_Rn d 161 1045 [l0, l1, l2, some (.null), l4, l5, l6] (.null :: st) σ Q := rn_step rfl (fun _ _ => rfl)
set_option maxRecDepth 20000 in
theorem sL_law_1045 {d : Nat} {Q : mb_O → mb_S → Prop} {σ : mb_S} {st : List Value} {ls : mb_L} : mb_Rn d 161 1045 ls st σ Q = mb_Rn d 161 1046 ls (.int 0 :: st) σ Q := rn_step rfl (fun _ _ => rfl)
set_option maxRecDepth 20000 in
theorem sL_law_1046 {d : Nat} {Q : mb_O → mb_S → Prop} {σ : mb_S} {st : List Value} {ls : mb_L} {a : Nat} {j : Int32} : mb_Rn d 161 1046 ls (.int j :: .ref a :: st) σ Q = mb_gj σ a j False (fun kd _ f => if kd = 1 then mb_Rn d 161 1047 ls (.long (f j.toNatClampNeg) :: st) σ Q else False) := rn_lald rfl
set_option maxRecDepth 20000 in
theorem sL_law_1047 {d : Nat} {Q : mb_O → mb_S → Prop} {σ : mb_S} {st : List Value} {l0 l1 l2 l3 l4 l5 : Option Value} {x : Int32} : mb_Rn d 161 1047 [l0, l1, l2, l3, l4, l5, some (.int x)] st σ Q = mb_Rn d 161 1049 [l0, l1, l2, l3, l4, l5, some (.int x)] (.int x :: st) σ Q := rn_step rfl (fun _ _ => rfl)
set_option maxRecDepth 20000 in
theorem sL_law_1049 {d : Nat} {Q : mb_O → mb_S → Prop} {σ : mb_S} {st : List Value} {ls : mb_L} {x : Int32} : mb_Rn d 161 1049 ls (.int x :: st) σ Q = mb_Rn d 161 1050 ls (.long x.toInt64 :: st) σ Q := rn_step rfl (fun _ _ => rfl)
set_option maxRecDepth 20000 in
theorem sL_law_1050 {d : Nat} {Q : mb_O → mb_S → Prop} {σ : mb_S} {st : List Value} {ls : mb_L} {x z : Int64} : mb_Rn d 161 1050 ls (.long z :: .long x :: st) σ Q = mb_Rn d 161 1051 ls (.int (lg_cmp x z) :: st) σ Q := rn_step rfl (fun _ _ => rfl)
set_option maxRecDepth 20000 in
theorem sL_law_1051 {d : Nat} {Q : mb_O → mb_S → Prop} {σ : mb_S} {st : List Value} {ls : mb_L} {x : Int32} : mb_Rn d 161 1051 ls (.int x :: st) σ Q = if x = 0 then mb_Rn d 161 1056 ls st σ Q else mb_Rn d 161 1054 ls st σ Q := rn_ifb rfl (fun _ _ => rfl) beq_iff_eq
set_option maxRecDepth 20000 in
theorem sL_law_1054 {d : Nat} {Q : mb_O → mb_S → Prop} {σ : mb_S} {st : List Value} {ls : mb_L} : mb_Rn d 161 1054 ls st σ Q = mb_Rn d 161 1055 ls (.int 0 :: st) σ Q := rn_step rfl (fun _ _ => rfl)
set_option maxRecDepth 20000 in
theorem sL_law_1055 {d : Nat} {Q : mb_O → mb_S → Prop} {σ : mb_S}  {ls : mb_L} {x : Int32} : mb_Rn d 161 1055 ls [.int x] σ Q = if x = 0 ∨ x = 1 then Q (.inl (some (.int x))) σ else False := rn_zret rfl
set_option maxRecDepth 20000 in
theorem sL_law_1056 {d : Nat} {Q : mb_O → mb_S → Prop} {σ : mb_S} {st : List Value} {ls : mb_L} : mb_Rn d 161 1056 ls st σ Q = mb_Rn d 161 1642 ls st σ Q := rn_step rfl (fun _ _ => rfl)
set_option maxRecDepth 20000 in
theorem sL_law_1059 {d : Nat} {Q : mb_O → mb_S → Prop} {σ : mb_S} {st : List Value} {l0 l2 l3 l4 l5 l6 : Option Value} {a : Nat} : mb_Rn d 161 1059 [l0, some (.ref a), l2, l3, l4, l5, l6] st σ Q = mb_Rn d 161 1060 [l0, some (.ref a), l2, l3, l4, l5, l6] (.ref a :: st) σ Q := rn_step rfl (fun _ _ => rfl)
set_option maxRecDepth 20000 in
theorem sL_law_1059n {d : Nat} {Q : mb_O → mb_S → Prop} {σ : mb_S} {st : List Value} {l0 l2 l3 l4 l5 l6 : Option Value} : mb_Rn d 161 1059 [l0, some (.null), l2, l3, l4, l5, l6] st σ Q = mb_Rn d 161 1060 [l0, some (.null), l2, l3, l4, l5, l6] (.null :: st) σ Q := rn_step rfl (fun _ _ => rfl)
set_option maxRecDepth 20000 in
theorem sL_law_1060 {d : Nat} {Q : mb_O → mb_S → Prop} {σ : mb_S} {st : List Value} {l1 l2 l3 l4 l5 l6 : Option Value} {a : Nat} : mb_Rn d 161 1060 [some (.ref a), l1, l2, l3, l4, l5, l6] st σ Q = mb_Rn d 161 1061 [some (.ref a), l1, l2, l3, l4, l5, l6] (.ref a :: st) σ Q := rn_step rfl (fun _ _ => rfl)
set_option maxRecDepth 20000 in
theorem sL_law_1060n {d : Nat} {Q : mb_O → mb_S → Prop} {σ : mb_S} {st : List Value} {l1 l2 l3 l4 l5 l6 : Option Value} : mb_Rn d 161 1060 [some (.null), l1, l2, l3, l4, l5, l6] st σ Q = mb_Rn d 161 1061 [some (.null), l1, l2, l3, l4, l5, l6] (.null :: st) σ Q := rn_step rfl (fun _ _ => rfl)
set_option maxRecDepth 20000 in
theorem sL_law_1061 {d : Nat} {Q : mb_O → mb_S → Prop} {σ : mb_S} {st : List Value} {l0 l1 l2 l3 l5 l6 : Option Value} {x : Int32} : mb_Rn d 161 1061 [l0, l1, l2, l3, some (.int x), l5, l6] st σ Q = mb_Rn d 161 1063 [l0, l1, l2, l3, some (.int x), l5, l6] (.int x :: st) σ Q := rn_step rfl (fun _ _ => rfl)
set_option maxRecDepth 20000 in
theorem sL_law_1063 {d : Nat} {Q : mb_O → mb_S → Prop} {σ : mb_S} {st : List Value} {ls : mb_L} : mb_Rn d 161 1063 ls st σ Q = mb_Rn d 161 1064 ls (.int 1 :: st) σ Q := rn_step rfl (fun _ _ => rfl)
set_option maxRecDepth 20000 in
theorem sL_law_1064 {d : Nat} {Q : mb_O → mb_S → Prop} {σ : mb_S} {st : List Value} {ls : mb_L} {x z : Int32} : mb_Rn d 161 1064 ls (.int z :: .int x :: st) σ Q = mb_Rn d 161 1065 ls (.int (x + z) :: st) σ Q := rn_step rfl (fun _ _ => rfl)
set_option maxRecDepth 20000 in
theorem sL_law_1065 {d : Nat} {Q : mb_O → mb_S → Prop} {σ : mb_S} {st : List Value} {ls : mb_L} {a : Nat} {j : Int32} : mb_Rn d 161 1065 ls (.int j :: .ref a :: st) σ Q = mb_gi σ a j False (fun kd _ f => if kd = 0 ∨ kd = 9 then mb_Rn d 161 1066 ls (.int (f j.toNatClampNeg) :: st) σ Q else False) := rn_iald rfl
set_option maxRecDepth 20000 in
theorem sL_law_1066 {d : Nat} {Q : mb_O → mb_S → Prop} {σ : mb_S} {st : List Value} {l0 l1 l2 l4 l5 l6 : Option Value} {a : Nat} : mb_Rn d 161 1066 [l0, l1, l2, some (.ref a), l4, l5, l6] st σ Q = mb_Rn d 161 1067 [l0, l1, l2, some (.ref a), l4, l5, l6] (.ref a :: st) σ Q := rn_step rfl (fun _ _ => rfl)
set_option maxRecDepth 20000 in
theorem sL_law_1066n {d : Nat} {Q : mb_O → mb_S → Prop} {σ : mb_S} {st : List Value} {l0 l1 l2 l4 l5 l6 : Option Value} : mb_Rn d 161 1066 [l0, l1, l2, some (.null), l4, l5, l6] st σ Q = mb_Rn d 161 1067 [l0, l1, l2, some (.null), l4, l5, l6] (.null :: st) σ Q := rn_step rfl (fun _ _ => rfl)
set_option maxRecDepth 20000 in
theorem sL_law_1067 {d : Nat} {Q : mb_O → mb_S → Prop} {σ : mb_S} {st : List Value} {ls : mb_L} {p0 : Nat} {p1 : Int32} {p2 : Nat} (hd : 1 ≤ d) (h4 : st.length ≤ 4) : mb_Rn d 161 1067 ls (.ref p2 :: .int p1 :: .ref p0 :: st) σ Q = mb_Ex (d - 1) 152 [.ref p0, .int p1, .ref p2] σ (mb_qk d 161 1070 ls st Q) := rn_calls mb_good rfl hd rfl rfl ⟨rfl, rfl⟩ h4 ⟨Nat.le_of_ble_eq_true rfl, rfl⟩
set_option maxRecDepth 20000 in
theorem sL_law_1070 {d : Nat} {Q : mb_O → mb_S → Prop} {σ : mb_S} {st : List Value} {l0 l1 l2 l3 l4 l5 l6 : Option Value} {x : Int32} : mb_Rn d 161 1070 [l0, l1, l2, l3, l4, l5, l6] (.int x :: st) σ Q = mb_Rn d 161 1072 [l0, l1, l2, l3, l4, some (.int x), l6] st σ Q := rn_step rfl (fun _ _ => rfl)
set_option maxRecDepth 20000 in
theorem sL_law_1072 {d : Nat} {Q : mb_O → mb_S → Prop} {σ : mb_S} {st : List Value} {l0 l1 l3 l4 l5 l6 : Option Value} {a : Nat} : mb_Rn d 161 1072 [l0, l1, some (.ref a), l3, l4, l5, l6] st σ Q = mb_Rn d 161 1073 [l0, l1, some (.ref a), l3, l4, l5, l6] (.ref a :: st) σ Q := rn_step rfl (fun _ _ => rfl)
set_option maxRecDepth 20000 in
theorem sL_law_1072n {d : Nat} {Q : mb_O → mb_S → Prop} {σ : mb_S} {st : List Value} {l0 l1 l3 l4 l5 l6 : Option Value} : mb_Rn d 161 1072 [l0, l1, some (.null), l3, l4, l5, l6] st σ Q = mb_Rn d 161 1073 [l0, l1, some (.null), l3, l4, l5, l6] (.null :: st) σ Q := rn_step rfl (fun _ _ => rfl)
set_option maxRecDepth 20000 in
theorem sL_law_1073 {d : Nat} {Q : mb_O → mb_S → Prop} {σ : mb_S} {st : List Value} {l1 l2 l3 l4 l5 l6 : Option Value} {a : Nat} : mb_Rn d 161 1073 [some (.ref a), l1, l2, l3, l4, l5, l6] st σ Q = mb_Rn d 161 1074 [some (.ref a), l1, l2, l3, l4, l5, l6] (.ref a :: st) σ Q := rn_step rfl (fun _ _ => rfl)
set_option maxRecDepth 20000 in
theorem sL_law_1073n {d : Nat} {Q : mb_O → mb_S → Prop} {σ : mb_S} {st : List Value} {l1 l2 l3 l4 l5 l6 : Option Value} : mb_Rn d 161 1073 [some (.null), l1, l2, l3, l4, l5, l6] st σ Q = mb_Rn d 161 1074 [some (.null), l1, l2, l3, l4, l5, l6] (.null :: st) σ Q := rn_step rfl (fun _ _ => rfl)
set_option maxRecDepth 20000 in
theorem sL_law_1074 {d : Nat} {Q : mb_O → mb_S → Prop} {σ : mb_S} {st : List Value} {l0 l1 l2 l3 l5 l6 : Option Value} {x : Int32} : mb_Rn d 161 1074 [l0, l1, l2, l3, some (.int x), l5, l6] st σ Q = mb_Rn d 161 1076 [l0, l1, l2, l3, some (.int x), l5, l6] (.int x :: st) σ Q := rn_step rfl (fun _ _ => rfl)
set_option maxRecDepth 20000 in
theorem sL_law_1076 {d : Nat} {Q : mb_O → mb_S → Prop} {σ : mb_S} {st : List Value} {ls : mb_L} : mb_Rn d 161 1076 ls st σ Q = mb_Rn d 161 1077 ls (.int 1 :: st) σ Q := rn_step rfl (fun _ _ => rfl)
set_option maxRecDepth 20000 in
theorem sL_law_1077 {d : Nat} {Q : mb_O → mb_S → Prop} {σ : mb_S} {st : List Value} {ls : mb_L} {x z : Int32} : mb_Rn d 161 1077 ls (.int z :: .int x :: st) σ Q = mb_Rn d 161 1078 ls (.int (x + z) :: st) σ Q := rn_step rfl (fun _ _ => rfl)
set_option maxRecDepth 20000 in
theorem sL_law_1078 {d : Nat} {Q : mb_O → mb_S → Prop} {σ : mb_S} {st : List Value} {ls : mb_L} {a : Nat} {j : Int32} : mb_Rn d 161 1078 ls (.int j :: .ref a :: st) σ Q = mb_gi σ a j False (fun kd _ f => if kd = 0 ∨ kd = 9 then mb_Rn d 161 1079 ls (.int (f j.toNatClampNeg) :: st) σ Q else False) := rn_iald rfl
set_option maxRecDepth 20000 in
theorem sL_law_1079 {d : Nat} {Q : mb_O → mb_S → Prop} {σ : mb_S} {st : List Value} {ls : mb_L} {p0 : Int32} {b : Nat} (hd : 1 ≤ d) (h4 : st.length ≤ 4) : mb_Rn d 161 1079 ls (.int p0 :: .ref b :: st) σ Q = mb_gf σ b 8 False (fun _ => mb_Ex (d - 1) 118 [.ref b, .int p0] σ (mb_qx [] d 161 1082 ls st Q)) := rn_callv mb_good rfl hd rfl rfl ⟨rfl, rfl⟩ h4 ⟨Nat.le_of_ble_eq_true rfl, rfl⟩
set_option maxRecDepth 20000 in
theorem sL_law_1082 {d : Nat} {Q : mb_O → mb_S → Prop} {σ : mb_S} {st : List Value} {l0 l1 l2 l3 l4 l5 l6 : Option Value} {x : Int32} : mb_Rn d 161 1082 [l0, l1, l2, l3, l4, l5, l6] (.int x :: st) σ Q = mb_Rn d 161 1084 [l0, l1, l2, l3, l4, l5, some (.int x)] st σ Q := rn_step rfl (fun _ _ => rfl)
set_option maxRecDepth 20000 in
theorem sL_law_1084 {d : Nat} {Q : mb_O → mb_S → Prop} {σ : mb_S} {st : List Value} {l0 l1 l3 l4 l5 l6 : Option Value} {a : Nat} : mb_Rn d 161 1084 [l0, l1, some (.ref a), l3, l4, l5, l6] st σ Q = mb_Rn d 161 1085 [l0, l1, some (.ref a), l3, l4, l5, l6] (.ref a :: st) σ Q := rn_step rfl (fun _ _ => rfl)
set_option maxRecDepth 20000 in
theorem sL_law_1084n {d : Nat} {Q : mb_O → mb_S → Prop} {σ : mb_S} {st : List Value} {l0 l1 l3 l4 l5 l6 : Option Value} : mb_Rn d 161 1084 [l0, l1, some (.null), l3, l4, l5, l6] st σ Q = mb_Rn d 161 1085 [l0, l1, some (.null), l3, l4, l5, l6] (.null :: st) σ Q := rn_step rfl (fun _ _ => rfl)
set_option maxRecDepth 20000 in
theorem sL_law_1085 {d : Nat} {Q : mb_O → mb_S → Prop} {σ : mb_S} {st : List Value} {ls : mb_L} {b : Nat} (hd : 1 ≤ d) (h4 : st.length ≤ 4) : mb_Rn d 161 1085 ls (.ref b :: st) σ Q = mb_gf σ b 8 False (fun _ => mb_Ex (d - 1) 85 [.ref b] σ (mb_qx [] d 161 1088 ls st Q)) := rn_callv mb_good rfl hd rfl rfl ⟨rfl, rfl⟩ h4 ⟨Nat.le_of_ble_eq_true rfl, rfl⟩
set_option maxRecDepth 20000 in
theorem sL_law_1088 {d : Nat} {Q : mb_O → mb_S → Prop} {σ : mb_S} {st : List Value} {l0 l1 l2 l3 l4 l6 : Option Value} {x : Int32} : mb_Rn d 161 1088 [l0, l1, l2, l3, l4, some (.int x), l6] st σ Q = mb_Rn d 161 1090 [l0, l1, l2, l3, l4, some (.int x), l6] (.int x :: st) σ Q := rn_step rfl (fun _ _ => rfl)
set_option maxRecDepth 20000 in
theorem sL_law_1090 {d : Nat} {Q : mb_O → mb_S → Prop} {σ : mb_S} {st : List Value} {ls : mb_L} {x z : Int32} : mb_Rn d 161 1090 ls (.int z :: .int x :: st) σ Q = if x = z then mb_Rn d 161 1095 ls st σ Q else mb_Rn d 161 1093 ls st σ Q := rn_ifb rfl (fun _ _ => rfl) beq_iff_eq
set_option maxRecDepth 20000 in
theorem sL_law_1093 {d : Nat} {Q : mb_O → mb_S → Prop} {σ : mb_S} {st : List Value} {ls : mb_L} : mb_Rn d 161 1093 ls st σ Q = mb_Rn d 161 1094 ls (.int 0 :: st) σ Q := rn_step rfl (fun _ _ => rfl)
set_option maxRecDepth 20000 in
theorem sL_law_1094 {d : Nat} {Q : mb_O → mb_S → Prop} {σ : mb_S}  {ls : mb_L} {x : Int32} : mb_Rn d 161 1094 ls [.int x] σ Q = if x = 0 ∨ x = 1 then Q (.inl (some (.int x))) σ else False := rn_zret rfl
set_option maxRecDepth 20000 in
theorem sL_law_1095 {d : Nat} {Q : mb_O → mb_S → Prop} {σ : mb_S} {st : List Value} {l0 l1 l2 l3 l4 l6 : Option Value} {x : Int32} : mb_Rn d 161 1095 [l0, l1, l2, l3, l4, some (.int x), l6] st σ Q = mb_Rn d 161 1097 [l0, l1, l2, l3, l4, some (.int x), l6] (.int x :: st) σ Q := rn_step rfl (fun _ _ => rfl)
set_option maxRecDepth 20000 in
theorem sL_law_1097 {d : Nat} {Q : mb_O → mb_S → Prop} {σ : mb_S} {st : List Value} {ls : mb_L} {x : Int32} : mb_Rn d 161 1097 ls (.int x :: st) σ Q = if x = 0 then mb_Rn d 161 1100 ls st σ Q else mb_Rn d 161 1112 ls st σ Q := rn_ifn rfl (fun _ _ => rfl) bne_iff_ne
set_option maxRecDepth 20000 in
theorem sL_law_1100 {d : Nat} {Q : mb_O → mb_S → Prop} {σ : mb_S} {st : List Value} {l0 l1 l2 l4 l5 l6 : Option Value} {a : Nat} : mb_Rn d 161 1100 [l0, l1, l2, some (.ref a), l4, l5, l6] st σ Q = mb_Rn d 161 1101 [l0, l1, l2, some (.ref a), l4, l5, l6] (.ref a :: st) σ Q := rn_step rfl (fun _ _ => rfl)
set_option maxRecDepth 20000 in
theorem sL_law_1100n {d : Nat} {Q : mb_O → mb_S → Prop} {σ : mb_S} {st : List Value} {l0 l1 l2 l4 l5 l6 : Option Value} : mb_Rn d 161 1100 [l0, l1, l2, some (.null), l4, l5, l6] st σ Q = mb_Rn d 161 1101 [l0, l1, l2, some (.null), l4, l5, l6] (.null :: st) σ Q := rn_step rfl (fun _ _ => rfl)
set_option maxRecDepth 20000 in
theorem sL_law_1101 {d : Nat} {Q : mb_O → mb_S → Prop} {σ : mb_S} {st : List Value} {ls : mb_L} : mb_Rn d 161 1101 ls st σ Q = mb_Rn d 161 1102 ls (.int 0 :: st) σ Q := rn_step rfl (fun _ _ => rfl)
set_option maxRecDepth 20000 in
theorem sL_law_1102 {d : Nat} {Q : mb_O → mb_S → Prop} {σ : mb_S} {st : List Value} {ls : mb_L} {a : Nat} {j : Int32} : mb_Rn d 161 1102 ls (.int j :: .ref a :: st) σ Q = mb_gj σ a j False (fun kd _ f => if kd = 1 then mb_Rn d 161 1103 ls (.long (f j.toNatClampNeg) :: st) σ Q else False) := rn_lald rfl
set_option maxRecDepth 20000 in
theorem sL_law_1103 {d : Nat} {Q : mb_O → mb_S → Prop} {σ : mb_S} {st : List Value} {l0 l1 l2 l3 l4 l5 : Option Value} {x : Int32} : mb_Rn d 161 1103 [l0, l1, l2, l3, l4, l5, some (.int x)] st σ Q = mb_Rn d 161 1105 [l0, l1, l2, l3, l4, l5, some (.int x)] (.int x :: st) σ Q := rn_step rfl (fun _ _ => rfl)
set_option maxRecDepth 20000 in
theorem sL_law_1105 {d : Nat} {Q : mb_O → mb_S → Prop} {σ : mb_S} {st : List Value} {ls : mb_L} {x : Int32} : mb_Rn d 161 1105 ls (.int x :: st) σ Q = mb_Rn d 161 1106 ls (.long x.toInt64 :: st) σ Q := rn_step rfl (fun _ _ => rfl)
set_option maxRecDepth 20000 in
theorem sL_law_1106 {d : Nat} {Q : mb_O → mb_S → Prop} {σ : mb_S} {st : List Value} {ls : mb_L} {x z : Int64} : mb_Rn d 161 1106 ls (.long z :: .long x :: st) σ Q = mb_Rn d 161 1107 ls (.int (lg_cmp x z) :: st) σ Q := rn_step rfl (fun _ _ => rfl)
set_option maxRecDepth 20000 in
theorem sL_law_1107 {d : Nat} {Q : mb_O → mb_S → Prop} {σ : mb_S} {st : List Value} {ls : mb_L} {x : Int32} : mb_Rn d 161 1107 ls (.int x :: st) σ Q = if x = 0 then mb_Rn d 161 1112 ls st σ Q else mb_Rn d 161 1110 ls st σ Q := rn_ifb rfl (fun _ _ => rfl) beq_iff_eq
set_option maxRecDepth 20000 in
theorem sL_law_1110 {d : Nat} {Q : mb_O → mb_S → Prop} {σ : mb_S} {st : List Value} {ls : mb_L} : mb_Rn d 161 1110 ls st σ Q = mb_Rn d 161 1111 ls (.int 0 :: st) σ Q := rn_step rfl (fun _ _ => rfl)
set_option maxRecDepth 20000 in
theorem sL_law_1111 {d : Nat} {Q : mb_O → mb_S → Prop} {σ : mb_S}  {ls : mb_L} {x : Int32} : mb_Rn d 161 1111 ls [.int x] σ Q = if x = 0 ∨ x = 1 then Q (.inl (some (.int x))) σ else False := rn_zret rfl
set_option maxRecDepth 20000 in
theorem sL_law_1112 {d : Nat} {Q : mb_O → mb_S → Prop} {σ : mb_S} {st : List Value} {ls : mb_L} : mb_Rn d 161 1112 ls st σ Q = mb_Rn d 161 1642 ls st σ Q := rn_step rfl (fun _ _ => rfl)
set_option maxRecDepth 20000 in
theorem sL_law_1115 {d : Nat} {Q : mb_O → mb_S → Prop} {σ : mb_S} {st : List Value} {l0 l2 l3 l4 l5 l6 : Option Value} {a : Nat} : mb_Rn d 161 1115 [l0, some (.ref a), l2, l3, l4, l5, l6] st σ Q = mb_Rn d 161 1116 [l0, some (.ref a), l2, l3, l4, l5, l6] (.ref a :: st) σ Q := rn_step rfl (fun _ _ => rfl)
set_option maxRecDepth 20000 in
theorem sL_law_1115n {d : Nat} {Q : mb_O → mb_S → Prop} {σ : mb_S} {st : List Value} {l0 l2 l3 l4 l5 l6 : Option Value} : mb_Rn d 161 1115 [l0, some (.null), l2, l3, l4, l5, l6] st σ Q = mb_Rn d 161 1116 [l0, some (.null), l2, l3, l4, l5, l6] (.null :: st) σ Q := rn_step rfl (fun _ _ => rfl)
set_option maxRecDepth 20000 in
theorem sL_law_1116 {d : Nat} {Q : mb_O → mb_S → Prop} {σ : mb_S} {st : List Value} {l1 l2 l3 l4 l5 l6 : Option Value} {a : Nat} : mb_Rn d 161 1116 [some (.ref a), l1, l2, l3, l4, l5, l6] st σ Q = mb_Rn d 161 1117 [some (.ref a), l1, l2, l3, l4, l5, l6] (.ref a :: st) σ Q := rn_step rfl (fun _ _ => rfl)
set_option maxRecDepth 20000 in
theorem sL_law_1116n {d : Nat} {Q : mb_O → mb_S → Prop} {σ : mb_S} {st : List Value} {l1 l2 l3 l4 l5 l6 : Option Value} : mb_Rn d 161 1116 [some (.null), l1, l2, l3, l4, l5, l6] st σ Q = mb_Rn d 161 1117 [some (.null), l1, l2, l3, l4, l5, l6] (.null :: st) σ Q := rn_step rfl (fun _ _ => rfl)
set_option maxRecDepth 20000 in
theorem sL_law_1117 {d : Nat} {Q : mb_O → mb_S → Prop} {σ : mb_S} {st : List Value} {l0 l1 l2 l3 l5 l6 : Option Value} {x : Int32} : mb_Rn d 161 1117 [l0, l1, l2, l3, some (.int x), l5, l6] st σ Q = mb_Rn d 161 1119 [l0, l1, l2, l3, some (.int x), l5, l6] (.int x :: st) σ Q := rn_step rfl (fun _ _ => rfl)
set_option maxRecDepth 20000 in
theorem sL_law_1119 {d : Nat} {Q : mb_O → mb_S → Prop} {σ : mb_S} {st : List Value} {ls : mb_L} : mb_Rn d 161 1119 ls st σ Q = mb_Rn d 161 1120 ls (.int 1 :: st) σ Q := rn_step rfl (fun _ _ => rfl)
set_option maxRecDepth 20000 in
theorem sL_law_1120 {d : Nat} {Q : mb_O → mb_S → Prop} {σ : mb_S} {st : List Value} {ls : mb_L} {x z : Int32} : mb_Rn d 161 1120 ls (.int z :: .int x :: st) σ Q = mb_Rn d 161 1121 ls (.int (x + z) :: st) σ Q := rn_step rfl (fun _ _ => rfl)
set_option maxRecDepth 20000 in
theorem sL_law_1121 {d : Nat} {Q : mb_O → mb_S → Prop} {σ : mb_S} {st : List Value} {ls : mb_L} {a : Nat} {j : Int32} : mb_Rn d 161 1121 ls (.int j :: .ref a :: st) σ Q = mb_gi σ a j False (fun kd _ f => if kd = 0 ∨ kd = 9 then mb_Rn d 161 1122 ls (.int (f j.toNatClampNeg) :: st) σ Q else False) := rn_iald rfl
set_option maxRecDepth 20000 in
theorem sL_law_1122 {d : Nat} {Q : mb_O → mb_S → Prop} {σ : mb_S} {st : List Value} {l1 l2 l3 l4 l5 l6 : Option Value} {a : Nat} : mb_Rn d 161 1122 [some (.ref a), l1, l2, l3, l4, l5, l6] st σ Q = mb_Rn d 161 1123 [some (.ref a), l1, l2, l3, l4, l5, l6] (.ref a :: st) σ Q := rn_step rfl (fun _ _ => rfl)
set_option maxRecDepth 20000 in
theorem sL_law_1122n {d : Nat} {Q : mb_O → mb_S → Prop} {σ : mb_S} {st : List Value} {l1 l2 l3 l4 l5 l6 : Option Value} : mb_Rn d 161 1122 [some (.null), l1, l2, l3, l4, l5, l6] st σ Q = mb_Rn d 161 1123 [some (.null), l1, l2, l3, l4, l5, l6] (.null :: st) σ Q := rn_step rfl (fun _ _ => rfl)
set_option maxRecDepth 20000 in
theorem sL_law_1123 {d : Nat} {Q : mb_O → mb_S → Prop} {σ : mb_S} {st : List Value} {l0 l1 l2 l3 l5 l6 : Option Value} {x : Int32} : mb_Rn d 161 1123 [l0, l1, l2, l3, some (.int x), l5, l6] st σ Q = mb_Rn d 161 1125 [l0, l1, l2, l3, some (.int x), l5, l6] (.int x :: st) σ Q := rn_step rfl (fun _ _ => rfl)
set_option maxRecDepth 20000 in
theorem sL_law_1125 {d : Nat} {Q : mb_O → mb_S → Prop} {σ : mb_S} {st : List Value} {ls : mb_L} : mb_Rn d 161 1125 ls st σ Q = mb_Rn d 161 1126 ls (.int 2 :: st) σ Q := rn_step rfl (fun _ _ => rfl)
set_option maxRecDepth 20000 in
theorem sL_law_1126 {d : Nat} {Q : mb_O → mb_S → Prop} {σ : mb_S} {st : List Value} {ls : mb_L} {x z : Int32} : mb_Rn d 161 1126 ls (.int z :: .int x :: st) σ Q = mb_Rn d 161 1127 ls (.int (x + z) :: st) σ Q := rn_step rfl (fun _ _ => rfl)
set_option maxRecDepth 20000 in
theorem sL_law_1127 {d : Nat} {Q : mb_O → mb_S → Prop} {σ : mb_S} {st : List Value} {ls : mb_L} {a : Nat} {j : Int32} : mb_Rn d 161 1127 ls (.int j :: .ref a :: st) σ Q = mb_gi σ a j False (fun kd _ f => if kd = 0 ∨ kd = 9 then mb_Rn d 161 1128 ls (.int (f j.toNatClampNeg) :: st) σ Q else False) := rn_iald rfl
set_option maxRecDepth 20000 in
theorem sL_law_1128 {d : Nat} {Q : mb_O → mb_S → Prop} {σ : mb_S} {st : List Value} {l0 l1 l2 l4 l5 l6 : Option Value} {a : Nat} : mb_Rn d 161 1128 [l0, l1, l2, some (.ref a), l4, l5, l6] st σ Q = mb_Rn d 161 1129 [l0, l1, l2, some (.ref a), l4, l5, l6] (.ref a :: st) σ Q := rn_step rfl (fun _ _ => rfl)
set_option maxRecDepth 20000 in
theorem sL_law_1128n {d : Nat} {Q : mb_O → mb_S → Prop} {σ : mb_S} {st : List Value} {l0 l1 l2 l4 l5 l6 : Option Value} : mb_Rn d 161 1128 [l0, l1, l2, some (.null), l4, l5, l6] st σ Q = mb_Rn d 161 1129 [l0, l1, l2, some (.null), l4, l5, l6] (.null :: st) σ Q := rn_step rfl (fun _ _ => rfl)
set_option maxRecDepth 20000 in
theorem sL_law_1129 {d : Nat} {Q : mb_O → mb_S → Prop} {σ : mb_S} {st : List Value} {ls : mb_L} {p0 : Nat} {p1 : Int32} {p2 : Int32} {p3 : Nat} (hd : 1 ≤ d) (h4 : st.length ≤ 4) : mb_Rn d 161 1129 ls (.ref p3 :: .int p2 :: .int p1 :: .ref p0 :: st) σ Q = mb_Ex (d - 1) 153 [.ref p0, .int p1, .int p2, .ref p3] σ (mb_qk d 161 1132 ls st Q) := rn_calls mb_good rfl hd rfl rfl ⟨rfl, rfl⟩ h4 ⟨Nat.le_of_ble_eq_true rfl, rfl⟩
set_option maxRecDepth 20000 in
theorem sL_law_1132 {d : Nat} {Q : mb_O → mb_S → Prop} {σ : mb_S} {st : List Value} {l0 l1 l2 l3 l4 l5 l6 : Option Value} {x : Int32} : mb_Rn d 161 1132 [l0, l1, l2, l3, l4, l5, l6] (.int x :: st) σ Q = mb_Rn d 161 1134 [l0, l1, l2, l3, l4, some (.int x), l6] st σ Q := rn_step rfl (fun _ _ => rfl)
set_option maxRecDepth 20000 in
theorem sL_law_1134 {d : Nat} {Q : mb_O → mb_S → Prop} {σ : mb_S} {st : List Value} {l0 l1 l3 l4 l5 l6 : Option Value} {a : Nat} : mb_Rn d 161 1134 [l0, l1, some (.ref a), l3, l4, l5, l6] st σ Q = mb_Rn d 161 1135 [l0, l1, some (.ref a), l3, l4, l5, l6] (.ref a :: st) σ Q := rn_step rfl (fun _ _ => rfl)
set_option maxRecDepth 20000 in
theorem sL_law_1134n {d : Nat} {Q : mb_O → mb_S → Prop} {σ : mb_S} {st : List Value} {l0 l1 l3 l4 l5 l6 : Option Value} : mb_Rn d 161 1134 [l0, l1, some (.null), l3, l4, l5, l6] st σ Q = mb_Rn d 161 1135 [l0, l1, some (.null), l3, l4, l5, l6] (.null :: st) σ Q := rn_step rfl (fun _ _ => rfl)
set_option maxRecDepth 20000 in
theorem sL_law_1135 {d : Nat} {Q : mb_O → mb_S → Prop} {σ : mb_S} {st : List Value} {l1 l2 l3 l4 l5 l6 : Option Value} {a : Nat} : mb_Rn d 161 1135 [some (.ref a), l1, l2, l3, l4, l5, l6] st σ Q = mb_Rn d 161 1136 [some (.ref a), l1, l2, l3, l4, l5, l6] (.ref a :: st) σ Q := rn_step rfl (fun _ _ => rfl)
set_option maxRecDepth 20000 in
theorem sL_law_1135n {d : Nat} {Q : mb_O → mb_S → Prop} {σ : mb_S} {st : List Value} {l1 l2 l3 l4 l5 l6 : Option Value} : mb_Rn d 161 1135 [some (.null), l1, l2, l3, l4, l5, l6] st σ Q = mb_Rn d 161 1136 [some (.null), l1, l2, l3, l4, l5, l6] (.null :: st) σ Q := rn_step rfl (fun _ _ => rfl)
set_option maxRecDepth 20000 in
theorem sL_law_1136 {d : Nat} {Q : mb_O → mb_S → Prop} {σ : mb_S} {st : List Value} {l0 l1 l2 l3 l5 l6 : Option Value} {x : Int32} : mb_Rn d 161 1136 [l0, l1, l2, l3, some (.int x), l5, l6] st σ Q = mb_Rn d 161 1138 [l0, l1, l2, l3, some (.int x), l5, l6] (.int x :: st) σ Q := rn_step rfl (fun _ _ => rfl)
set_option maxRecDepth 20000 in
theorem sL_law_1138 {d : Nat} {Q : mb_O → mb_S → Prop} {σ : mb_S} {st : List Value} {ls : mb_L} : mb_Rn d 161 1138 ls st σ Q = mb_Rn d 161 1139 ls (.int 1 :: st) σ Q := rn_step rfl (fun _ _ => rfl)
set_option maxRecDepth 20000 in
theorem sL_law_1139 {d : Nat} {Q : mb_O → mb_S → Prop} {σ : mb_S} {st : List Value} {ls : mb_L} {x z : Int32} : mb_Rn d 161 1139 ls (.int z :: .int x :: st) σ Q = mb_Rn d 161 1140 ls (.int (x + z) :: st) σ Q := rn_step rfl (fun _ _ => rfl)
set_option maxRecDepth 20000 in
theorem sL_law_1140 {d : Nat} {Q : mb_O → mb_S → Prop} {σ : mb_S} {st : List Value} {ls : mb_L} {a : Nat} {j : Int32} : mb_Rn d 161 1140 ls (.int j :: .ref a :: st) σ Q = mb_gi σ a j False (fun kd _ f => if kd = 0 ∨ kd = 9 then mb_Rn d 161 1141 ls (.int (f j.toNatClampNeg) :: st) σ Q else False) := rn_iald rfl
set_option maxRecDepth 20000 in
theorem sL_law_1141 {d : Nat} {Q : mb_O → mb_S → Prop} {σ : mb_S} {st : List Value} {l1 l2 l3 l4 l5 l6 : Option Value} {a : Nat} : mb_Rn d 161 1141 [some (.ref a), l1, l2, l3, l4, l5, l6] st σ Q = mb_Rn d 161 1142 [some (.ref a), l1, l2, l3, l4, l5, l6] (.ref a :: st) σ Q := rn_step rfl (fun _ _ => rfl)
set_option maxRecDepth 20000 in
theorem sL_law_1141n {d : Nat} {Q : mb_O → mb_S → Prop} {σ : mb_S} {st : List Value} {l1 l2 l3 l4 l5 l6 : Option Value} : mb_Rn d 161 1141 [some (.null), l1, l2, l3, l4, l5, l6] st σ Q = mb_Rn d 161 1142 [some (.null), l1, l2, l3, l4, l5, l6] (.null :: st) σ Q := rn_step rfl (fun _ _ => rfl)
set_option maxRecDepth 20000 in
theorem sL_law_1142 {d : Nat} {Q : mb_O → mb_S → Prop} {σ : mb_S} {st : List Value} {l0 l1 l2 l3 l5 l6 : Option Value} {x : Int32} : mb_Rn d 161 1142 [l0, l1, l2, l3, some (.int x), l5, l6] st σ Q = mb_Rn d 161 1144 [l0, l1, l2, l3, some (.int x), l5, l6] (.int x :: st) σ Q := rn_step rfl (fun _ _ => rfl)
set_option maxRecDepth 20000 in
theorem sL_law_1144 {d : Nat} {Q : mb_O → mb_S → Prop} {σ : mb_S} {st : List Value} {ls : mb_L} : mb_Rn d 161 1144 ls st σ Q = mb_Rn d 161 1145 ls (.int 2 :: st) σ Q := rn_step rfl (fun _ _ => rfl)
set_option maxRecDepth 20000 in
theorem sL_law_1145 {d : Nat} {Q : mb_O → mb_S → Prop} {σ : mb_S} {st : List Value} {ls : mb_L} {x z : Int32} : mb_Rn d 161 1145 ls (.int z :: .int x :: st) σ Q = mb_Rn d 161 1146 ls (.int (x + z) :: st) σ Q := rn_step rfl (fun _ _ => rfl)
set_option maxRecDepth 20000 in
theorem sL_law_1146 {d : Nat} {Q : mb_O → mb_S → Prop} {σ : mb_S} {st : List Value} {ls : mb_L} {a : Nat} {j : Int32} : mb_Rn d 161 1146 ls (.int j :: .ref a :: st) σ Q = mb_gi σ a j False (fun kd _ f => if kd = 0 ∨ kd = 9 then mb_Rn d 161 1147 ls (.int (f j.toNatClampNeg) :: st) σ Q else False) := rn_iald rfl
set_option maxRecDepth 20000 in
theorem sL_law_1147 {d : Nat} {Q : mb_O → mb_S → Prop} {σ : mb_S} {st : List Value} {ls : mb_L} {p0 : Int32} {p1 : Int32} {b : Nat} (hd : 1 ≤ d) (h4 : st.length ≤ 4) : mb_Rn d 161 1147 ls (.int p1 :: .int p0 :: .ref b :: st) σ Q = mb_gf σ b 8 False (fun _ => mb_Ex (d - 1) 119 [.ref b, .int p0, .int p1] σ (mb_qx [] d 161 1150 ls st Q)) := rn_callv mb_good rfl hd rfl rfl ⟨rfl, rfl⟩ h4 ⟨Nat.le_of_ble_eq_true rfl, rfl⟩
set_option maxRecDepth 20000 in
theorem sL_law_1150 {d : Nat} {Q : mb_O → mb_S → Prop} {σ : mb_S} {st : List Value} {l0 l1 l2 l3 l4 l5 l6 : Option Value} {x : Int32} : mb_Rn d 161 1150 [l0, l1, l2, l3, l4, l5, l6] (.int x :: st) σ Q = mb_Rn d 161 1152 [l0, l1, l2, l3, l4, l5, some (.int x)] st σ Q := rn_step rfl (fun _ _ => rfl)
set_option maxRecDepth 20000 in
theorem sL_law_1152 {d : Nat} {Q : mb_O → mb_S → Prop} {σ : mb_S} {st : List Value} {l0 l1 l3 l4 l5 l6 : Option Value} {a : Nat} : mb_Rn d 161 1152 [l0, l1, some (.ref a), l3, l4, l5, l6] st σ Q = mb_Rn d 161 1153 [l0, l1, some (.ref a), l3, l4, l5, l6] (.ref a :: st) σ Q := rn_step rfl (fun _ _ => rfl)
set_option maxRecDepth 20000 in
theorem sL_law_1152n {d : Nat} {Q : mb_O → mb_S → Prop} {σ : mb_S} {st : List Value} {l0 l1 l3 l4 l5 l6 : Option Value} : mb_Rn d 161 1152 [l0, l1, some (.null), l3, l4, l5, l6] st σ Q = mb_Rn d 161 1153 [l0, l1, some (.null), l3, l4, l5, l6] (.null :: st) σ Q := rn_step rfl (fun _ _ => rfl)
set_option maxRecDepth 20000 in
theorem sL_law_1153 {d : Nat} {Q : mb_O → mb_S → Prop} {σ : mb_S} {st : List Value} {ls : mb_L} {b : Nat} (hd : 1 ≤ d) (h4 : st.length ≤ 4) : mb_Rn d 161 1153 ls (.ref b :: st) σ Q = mb_gf σ b 8 False (fun _ => mb_Ex (d - 1) 85 [.ref b] σ (mb_qx [] d 161 1156 ls st Q)) := rn_callv mb_good rfl hd rfl rfl ⟨rfl, rfl⟩ h4 ⟨Nat.le_of_ble_eq_true rfl, rfl⟩
set_option maxRecDepth 20000 in
theorem sL_law_1156 {d : Nat} {Q : mb_O → mb_S → Prop} {σ : mb_S} {st : List Value} {l0 l1 l2 l3 l4 l6 : Option Value} {x : Int32} : mb_Rn d 161 1156 [l0, l1, l2, l3, l4, some (.int x), l6] st σ Q = mb_Rn d 161 1158 [l0, l1, l2, l3, l4, some (.int x), l6] (.int x :: st) σ Q := rn_step rfl (fun _ _ => rfl)
set_option maxRecDepth 20000 in
theorem sL_law_1158 {d : Nat} {Q : mb_O → mb_S → Prop} {σ : mb_S} {st : List Value} {ls : mb_L} {x z : Int32} : mb_Rn d 161 1158 ls (.int z :: .int x :: st) σ Q = if x = z then mb_Rn d 161 1163 ls st σ Q else mb_Rn d 161 1161 ls st σ Q := rn_ifb rfl (fun _ _ => rfl) beq_iff_eq
set_option maxRecDepth 20000 in
theorem sL_law_1161 {d : Nat} {Q : mb_O → mb_S → Prop} {σ : mb_S} {st : List Value} {ls : mb_L} : mb_Rn d 161 1161 ls st σ Q = mb_Rn d 161 1162 ls (.int 0 :: st) σ Q := rn_step rfl (fun _ _ => rfl)
set_option maxRecDepth 20000 in
theorem sL_law_1162 {d : Nat} {Q : mb_O → mb_S → Prop} {σ : mb_S}  {ls : mb_L} {x : Int32} : mb_Rn d 161 1162 ls [.int x] σ Q = if x = 0 ∨ x = 1 then Q (.inl (some (.int x))) σ else False := rn_zret rfl
set_option maxRecDepth 20000 in
theorem sL_law_1163 {d : Nat} {Q : mb_O → mb_S → Prop} {σ : mb_S} {st : List Value} {l0 l1 l2 l3 l4 l6 : Option Value} {x : Int32} : mb_Rn d 161 1163 [l0, l1, l2, l3, l4, some (.int x), l6] st σ Q = mb_Rn d 161 1165 [l0, l1, l2, l3, l4, some (.int x), l6] (.int x :: st) σ Q := rn_step rfl (fun _ _ => rfl)
set_option maxRecDepth 20000 in
theorem sL_law_1165 {d : Nat} {Q : mb_O → mb_S → Prop} {σ : mb_S} {st : List Value} {ls : mb_L} {x : Int32} : mb_Rn d 161 1165 ls (.int x :: st) σ Q = if x = 0 then mb_Rn d 161 1168 ls st σ Q else mb_Rn d 161 1180 ls st σ Q := rn_ifn rfl (fun _ _ => rfl) bne_iff_ne
set_option maxRecDepth 20000 in
theorem sL_law_1168 {d : Nat} {Q : mb_O → mb_S → Prop} {σ : mb_S} {st : List Value} {l0 l1 l2 l4 l5 l6 : Option Value} {a : Nat} : mb_Rn d 161 1168 [l0, l1, l2, some (.ref a), l4, l5, l6] st σ Q = mb_Rn d 161 1169 [l0, l1, l2, some (.ref a), l4, l5, l6] (.ref a :: st) σ Q := rn_step rfl (fun _ _ => rfl)
set_option maxRecDepth 20000 in
theorem sL_law_1168n {d : Nat} {Q : mb_O → mb_S → Prop} {σ : mb_S} {st : List Value} {l0 l1 l2 l4 l5 l6 : Option Value} : mb_Rn d 161 1168 [l0, l1, l2, some (.null), l4, l5, l6] st σ Q = mb_Rn d 161 1169 [l0, l1, l2, some (.null), l4, l5, l6] (.null :: st) σ Q := rn_step rfl (fun _ _ => rfl)
set_option maxRecDepth 20000 in
theorem sL_law_1169 {d : Nat} {Q : mb_O → mb_S → Prop} {σ : mb_S} {st : List Value} {ls : mb_L} : mb_Rn d 161 1169 ls st σ Q = mb_Rn d 161 1170 ls (.int 0 :: st) σ Q := rn_step rfl (fun _ _ => rfl)
set_option maxRecDepth 20000 in
theorem sL_law_1170 {d : Nat} {Q : mb_O → mb_S → Prop} {σ : mb_S} {st : List Value} {ls : mb_L} {a : Nat} {j : Int32} : mb_Rn d 161 1170 ls (.int j :: .ref a :: st) σ Q = mb_gj σ a j False (fun kd _ f => if kd = 1 then mb_Rn d 161 1171 ls (.long (f j.toNatClampNeg) :: st) σ Q else False) := rn_lald rfl
set_option maxRecDepth 20000 in
theorem sL_law_1171 {d : Nat} {Q : mb_O → mb_S → Prop} {σ : mb_S} {st : List Value} {l0 l1 l2 l3 l4 l5 : Option Value} {x : Int32} : mb_Rn d 161 1171 [l0, l1, l2, l3, l4, l5, some (.int x)] st σ Q = mb_Rn d 161 1173 [l0, l1, l2, l3, l4, l5, some (.int x)] (.int x :: st) σ Q := rn_step rfl (fun _ _ => rfl)
set_option maxRecDepth 20000 in
theorem sL_law_1173 {d : Nat} {Q : mb_O → mb_S → Prop} {σ : mb_S} {st : List Value} {ls : mb_L} {x : Int32} : mb_Rn d 161 1173 ls (.int x :: st) σ Q = mb_Rn d 161 1174 ls (.long x.toInt64 :: st) σ Q := rn_step rfl (fun _ _ => rfl)
set_option maxRecDepth 20000 in
theorem sL_law_1174 {d : Nat} {Q : mb_O → mb_S → Prop} {σ : mb_S} {st : List Value} {ls : mb_L} {x z : Int64} : mb_Rn d 161 1174 ls (.long z :: .long x :: st) σ Q = mb_Rn d 161 1175 ls (.int (lg_cmp x z) :: st) σ Q := rn_step rfl (fun _ _ => rfl)
set_option maxRecDepth 20000 in
theorem sL_law_1175 {d : Nat} {Q : mb_O → mb_S → Prop} {σ : mb_S} {st : List Value} {ls : mb_L} {x : Int32} : mb_Rn d 161 1175 ls (.int x :: st) σ Q = if x = 0 then mb_Rn d 161 1180 ls st σ Q else mb_Rn d 161 1178 ls st σ Q := rn_ifb rfl (fun _ _ => rfl) beq_iff_eq
set_option maxRecDepth 20000 in
theorem sL_law_1178 {d : Nat} {Q : mb_O → mb_S → Prop} {σ : mb_S} {st : List Value} {ls : mb_L} : mb_Rn d 161 1178 ls st σ Q = mb_Rn d 161 1179 ls (.int 0 :: st) σ Q := rn_step rfl (fun _ _ => rfl)
set_option maxRecDepth 20000 in
theorem sL_law_1179 {d : Nat} {Q : mb_O → mb_S → Prop} {σ : mb_S}  {ls : mb_L} {x : Int32} : mb_Rn d 161 1179 ls [.int x] σ Q = if x = 0 ∨ x = 1 then Q (.inl (some (.int x))) σ else False := rn_zret rfl
set_option maxRecDepth 20000 in
theorem sL_law_1180 {d : Nat} {Q : mb_O → mb_S → Prop} {σ : mb_S} {st : List Value} {ls : mb_L} : mb_Rn d 161 1180 ls st σ Q = mb_Rn d 161 1642 ls st σ Q := rn_step rfl (fun _ _ => rfl)
set_option maxRecDepth 20000 in
theorem sL_law_1183 {d : Nat} {Q : mb_O → mb_S → Prop} {σ : mb_S} {st : List Value} {l0 l2 l3 l4 l5 l6 : Option Value} {a : Nat} : mb_Rn d 161 1183 [l0, some (.ref a), l2, l3, l4, l5, l6] st σ Q = mb_Rn d 161 1184 [l0, some (.ref a), l2, l3, l4, l5, l6] (.ref a :: st) σ Q := rn_step rfl (fun _ _ => rfl)
set_option maxRecDepth 20000 in
theorem sL_law_1183n {d : Nat} {Q : mb_O → mb_S → Prop} {σ : mb_S} {st : List Value} {l0 l2 l3 l4 l5 l6 : Option Value} : mb_Rn d 161 1183 [l0, some (.null), l2, l3, l4, l5, l6] st σ Q = mb_Rn d 161 1184 [l0, some (.null), l2, l3, l4, l5, l6] (.null :: st) σ Q := rn_step rfl (fun _ _ => rfl)
set_option maxRecDepth 20000 in
theorem sL_law_1184 {d : Nat} {Q : mb_O → mb_S → Prop} {σ : mb_S} {st : List Value} {l1 l2 l3 l4 l5 l6 : Option Value} {a : Nat} : mb_Rn d 161 1184 [some (.ref a), l1, l2, l3, l4, l5, l6] st σ Q = mb_Rn d 161 1185 [some (.ref a), l1, l2, l3, l4, l5, l6] (.ref a :: st) σ Q := rn_step rfl (fun _ _ => rfl)
set_option maxRecDepth 20000 in
theorem sL_law_1184n {d : Nat} {Q : mb_O → mb_S → Prop} {σ : mb_S} {st : List Value} {l1 l2 l3 l4 l5 l6 : Option Value} : mb_Rn d 161 1184 [some (.null), l1, l2, l3, l4, l5, l6] st σ Q = mb_Rn d 161 1185 [some (.null), l1, l2, l3, l4, l5, l6] (.null :: st) σ Q := rn_step rfl (fun _ _ => rfl)
set_option maxRecDepth 20000 in
theorem sL_law_1185 {d : Nat} {Q : mb_O → mb_S → Prop} {σ : mb_S} {st : List Value} {l0 l1 l2 l3 l5 l6 : Option Value} {x : Int32} : mb_Rn d 161 1185 [l0, l1, l2, l3, some (.int x), l5, l6] st σ Q = mb_Rn d 161 1187 [l0, l1, l2, l3, some (.int x), l5, l6] (.int x :: st) σ Q := rn_step rfl (fun _ _ => rfl)
set_option maxRecDepth 20000 in
theorem sL_law_1187 {d : Nat} {Q : mb_O → mb_S → Prop} {σ : mb_S} {st : List Value} {ls : mb_L} : mb_Rn d 161 1187 ls st σ Q = mb_Rn d 161 1188 ls (.int 1 :: st) σ Q := rn_step rfl (fun _ _ => rfl)
set_option maxRecDepth 20000 in
theorem sL_law_1188 {d : Nat} {Q : mb_O → mb_S → Prop} {σ : mb_S} {st : List Value} {ls : mb_L} {x z : Int32} : mb_Rn d 161 1188 ls (.int z :: .int x :: st) σ Q = mb_Rn d 161 1189 ls (.int (x + z) :: st) σ Q := rn_step rfl (fun _ _ => rfl)
set_option maxRecDepth 20000 in
theorem sL_law_1189 {d : Nat} {Q : mb_O → mb_S → Prop} {σ : mb_S} {st : List Value} {ls : mb_L} {a : Nat} {j : Int32} : mb_Rn d 161 1189 ls (.int j :: .ref a :: st) σ Q = mb_gi σ a j False (fun kd _ f => if kd = 0 ∨ kd = 9 then mb_Rn d 161 1190 ls (.int (f j.toNatClampNeg) :: st) σ Q else False) := rn_iald rfl
set_option maxRecDepth 20000 in
theorem sL_law_1190 {d : Nat} {Q : mb_O → mb_S → Prop} {σ : mb_S} {st : List Value} {l0 l1 l2 l4 l5 l6 : Option Value} {a : Nat} : mb_Rn d 161 1190 [l0, l1, l2, some (.ref a), l4, l5, l6] st σ Q = mb_Rn d 161 1191 [l0, l1, l2, some (.ref a), l4, l5, l6] (.ref a :: st) σ Q := rn_step rfl (fun _ _ => rfl)
set_option maxRecDepth 20000 in
theorem sL_law_1190n {d : Nat} {Q : mb_O → mb_S → Prop} {σ : mb_S} {st : List Value} {l0 l1 l2 l4 l5 l6 : Option Value} : mb_Rn d 161 1190 [l0, l1, l2, some (.null), l4, l5, l6] st σ Q = mb_Rn d 161 1191 [l0, l1, l2, some (.null), l4, l5, l6] (.null :: st) σ Q := rn_step rfl (fun _ _ => rfl)
set_option maxRecDepth 20000 in
theorem sL_law_1191 {d : Nat} {Q : mb_O → mb_S → Prop} {σ : mb_S} {st : List Value} {ls : mb_L} {p0 : Nat} {p1 : Int32} {p2 : Nat} (hd : 1 ≤ d) (h4 : st.length ≤ 4) : mb_Rn d 161 1191 ls (.ref p2 :: .int p1 :: .ref p0 :: st) σ Q = mb_Ex (d - 1) 154 [.ref p0, .int p1, .ref p2] σ (mb_qk d 161 1194 ls st Q) := rn_calls mb_good rfl hd rfl rfl ⟨rfl, rfl⟩ h4 ⟨Nat.le_of_ble_eq_true rfl, rfl⟩
set_option maxRecDepth 20000 in
theorem sL_law_1194 {d : Nat} {Q : mb_O → mb_S → Prop} {σ : mb_S} {st : List Value} {l0 l1 l2 l3 l4 l5 l6 : Option Value} {x : Int32} : mb_Rn d 161 1194 [l0, l1, l2, l3, l4, l5, l6] (.int x :: st) σ Q = mb_Rn d 161 1196 [l0, l1, l2, l3, l4, some (.int x), l6] st σ Q := rn_step rfl (fun _ _ => rfl)
set_option maxRecDepth 20000 in
theorem sL_law_1196 {d : Nat} {Q : mb_O → mb_S → Prop} {σ : mb_S} {st : List Value} {l0 l1 l3 l4 l5 l6 : Option Value} {a : Nat} : mb_Rn d 161 1196 [l0, l1, some (.ref a), l3, l4, l5, l6] st σ Q = mb_Rn d 161 1197 [l0, l1, some (.ref a), l3, l4, l5, l6] (.ref a :: st) σ Q := rn_step rfl (fun _ _ => rfl)
set_option maxRecDepth 20000 in
theorem sL_law_1196n {d : Nat} {Q : mb_O → mb_S → Prop} {σ : mb_S} {st : List Value} {l0 l1 l3 l4 l5 l6 : Option Value} : mb_Rn d 161 1196 [l0, l1, some (.null), l3, l4, l5, l6] st σ Q = mb_Rn d 161 1197 [l0, l1, some (.null), l3, l4, l5, l6] (.null :: st) σ Q := rn_step rfl (fun _ _ => rfl)
set_option maxRecDepth 20000 in
theorem sL_law_1197 {d : Nat} {Q : mb_O → mb_S → Prop} {σ : mb_S} {st : List Value} {l1 l2 l3 l4 l5 l6 : Option Value} {a : Nat} : mb_Rn d 161 1197 [some (.ref a), l1, l2, l3, l4, l5, l6] st σ Q = mb_Rn d 161 1198 [some (.ref a), l1, l2, l3, l4, l5, l6] (.ref a :: st) σ Q := rn_step rfl (fun _ _ => rfl)
set_option maxRecDepth 20000 in
theorem sL_law_1197n {d : Nat} {Q : mb_O → mb_S → Prop} {σ : mb_S} {st : List Value} {l1 l2 l3 l4 l5 l6 : Option Value} : mb_Rn d 161 1197 [some (.null), l1, l2, l3, l4, l5, l6] st σ Q = mb_Rn d 161 1198 [some (.null), l1, l2, l3, l4, l5, l6] (.null :: st) σ Q := rn_step rfl (fun _ _ => rfl)
set_option maxRecDepth 20000 in
theorem sL_law_1198 {d : Nat} {Q : mb_O → mb_S → Prop} {σ : mb_S} {st : List Value} {l0 l1 l2 l3 l5 l6 : Option Value} {x : Int32} : mb_Rn d 161 1198 [l0, l1, l2, l3, some (.int x), l5, l6] st σ Q = mb_Rn d 161 1200 [l0, l1, l2, l3, some (.int x), l5, l6] (.int x :: st) σ Q := rn_step rfl (fun _ _ => rfl)
set_option maxRecDepth 20000 in
theorem sL_law_1200 {d : Nat} {Q : mb_O → mb_S → Prop} {σ : mb_S} {st : List Value} {ls : mb_L} : mb_Rn d 161 1200 ls st σ Q = mb_Rn d 161 1201 ls (.int 1 :: st) σ Q := rn_step rfl (fun _ _ => rfl)
set_option maxRecDepth 20000 in
theorem sL_law_1201 {d : Nat} {Q : mb_O → mb_S → Prop} {σ : mb_S} {st : List Value} {ls : mb_L} {x z : Int32} : mb_Rn d 161 1201 ls (.int z :: .int x :: st) σ Q = mb_Rn d 161 1202 ls (.int (x + z) :: st) σ Q := rn_step rfl (fun _ _ => rfl)
set_option maxRecDepth 20000 in
theorem sL_law_1202 {d : Nat} {Q : mb_O → mb_S → Prop} {σ : mb_S} {st : List Value} {ls : mb_L} {a : Nat} {j : Int32} : mb_Rn d 161 1202 ls (.int j :: .ref a :: st) σ Q = mb_gi σ a j False (fun kd _ f => if kd = 0 ∨ kd = 9 then mb_Rn d 161 1203 ls (.int (f j.toNatClampNeg) :: st) σ Q else False) := rn_iald rfl
set_option maxRecDepth 20000 in
theorem sL_law_1203 {d : Nat} {Q : mb_O → mb_S → Prop} {σ : mb_S} {st : List Value} {ls : mb_L} {p0 : Int32} {b : Nat} (hd : 1 ≤ d) (h4 : st.length ≤ 4) : mb_Rn d 161 1203 ls (.int p0 :: .ref b :: st) σ Q = mb_gf σ b 8 False (fun _ => mb_Ex (d - 1) 126 [.ref b, .int p0] σ (mb_qx [] d 161 1206 ls st Q)) := rn_callv mb_good rfl hd rfl rfl ⟨rfl, rfl⟩ h4 ⟨Nat.le_of_ble_eq_true rfl, rfl⟩
set_option maxRecDepth 20000 in
theorem sL_law_1206 {d : Nat} {Q : mb_O → mb_S → Prop} {σ : mb_S} {st : List Value} {l0 l1 l2 l3 l4 l5 l6 : Option Value} {x : Int32} : mb_Rn d 161 1206 [l0, l1, l2, l3, l4, l5, l6] (.int x :: st) σ Q = mb_Rn d 161 1208 [l0, l1, l2, l3, l4, l5, some (.int x)] st σ Q := rn_step rfl (fun _ _ => rfl)
set_option maxRecDepth 20000 in
theorem sL_law_1208 {d : Nat} {Q : mb_O → mb_S → Prop} {σ : mb_S} {st : List Value} {l0 l1 l3 l4 l5 l6 : Option Value} {a : Nat} : mb_Rn d 161 1208 [l0, l1, some (.ref a), l3, l4, l5, l6] st σ Q = mb_Rn d 161 1209 [l0, l1, some (.ref a), l3, l4, l5, l6] (.ref a :: st) σ Q := rn_step rfl (fun _ _ => rfl)
set_option maxRecDepth 20000 in
theorem sL_law_1208n {d : Nat} {Q : mb_O → mb_S → Prop} {σ : mb_S} {st : List Value} {l0 l1 l3 l4 l5 l6 : Option Value} : mb_Rn d 161 1208 [l0, l1, some (.null), l3, l4, l5, l6] st σ Q = mb_Rn d 161 1209 [l0, l1, some (.null), l3, l4, l5, l6] (.null :: st) σ Q := rn_step rfl (fun _ _ => rfl)
set_option maxRecDepth 20000 in
theorem sL_law_1209 {d : Nat} {Q : mb_O → mb_S → Prop} {σ : mb_S} {st : List Value} {ls : mb_L} {b : Nat} (hd : 1 ≤ d) (h4 : st.length ≤ 4) : mb_Rn d 161 1209 ls (.ref b :: st) σ Q = mb_gf σ b 8 False (fun _ => mb_Ex (d - 1) 85 [.ref b] σ (mb_qx [] d 161 1212 ls st Q)) := rn_callv mb_good rfl hd rfl rfl ⟨rfl, rfl⟩ h4 ⟨Nat.le_of_ble_eq_true rfl, rfl⟩
set_option maxRecDepth 20000 in
theorem sL_law_1212 {d : Nat} {Q : mb_O → mb_S → Prop} {σ : mb_S} {st : List Value} {l0 l1 l2 l3 l4 l6 : Option Value} {x : Int32} : mb_Rn d 161 1212 [l0, l1, l2, l3, l4, some (.int x), l6] st σ Q = mb_Rn d 161 1214 [l0, l1, l2, l3, l4, some (.int x), l6] (.int x :: st) σ Q := rn_step rfl (fun _ _ => rfl)
set_option maxRecDepth 20000 in
theorem sL_law_1214 {d : Nat} {Q : mb_O → mb_S → Prop} {σ : mb_S} {st : List Value} {ls : mb_L} {x z : Int32} : mb_Rn d 161 1214 ls (.int z :: .int x :: st) σ Q = if x = z then mb_Rn d 161 1219 ls st σ Q else mb_Rn d 161 1217 ls st σ Q := rn_ifb rfl (fun _ _ => rfl) beq_iff_eq
set_option maxRecDepth 20000 in
theorem sL_law_1217 {d : Nat} {Q : mb_O → mb_S → Prop} {σ : mb_S} {st : List Value} {ls : mb_L} : mb_Rn d 161 1217 ls st σ Q = mb_Rn d 161 1218 ls (.int 0 :: st) σ Q := rn_step rfl (fun _ _ => rfl)
set_option maxRecDepth 20000 in
theorem sL_law_1218 {d : Nat} {Q : mb_O → mb_S → Prop} {σ : mb_S}  {ls : mb_L} {x : Int32} : mb_Rn d 161 1218 ls [.int x] σ Q = if x = 0 ∨ x = 1 then Q (.inl (some (.int x))) σ else False := rn_zret rfl
set_option maxRecDepth 20000 in
theorem sL_law_1219 {d : Nat} {Q : mb_O → mb_S → Prop} {σ : mb_S} {st : List Value} {l0 l1 l2 l3 l4 l6 : Option Value} {x : Int32} : mb_Rn d 161 1219 [l0, l1, l2, l3, l4, some (.int x), l6] st σ Q = mb_Rn d 161 1221 [l0, l1, l2, l3, l4, some (.int x), l6] (.int x :: st) σ Q := rn_step rfl (fun _ _ => rfl)
set_option maxRecDepth 20000 in
theorem sL_law_1221 {d : Nat} {Q : mb_O → mb_S → Prop} {σ : mb_S} {st : List Value} {ls : mb_L} {x : Int32} : mb_Rn d 161 1221 ls (.int x :: st) σ Q = if x = 0 then mb_Rn d 161 1224 ls st σ Q else mb_Rn d 161 1236 ls st σ Q := rn_ifn rfl (fun _ _ => rfl) bne_iff_ne
set_option maxRecDepth 20000 in
theorem sL_law_1224 {d : Nat} {Q : mb_O → mb_S → Prop} {σ : mb_S} {st : List Value} {l0 l1 l2 l4 l5 l6 : Option Value} {a : Nat} : mb_Rn d 161 1224 [l0, l1, l2, some (.ref a), l4, l5, l6] st σ Q = mb_Rn d 161 1225 [l0, l1, l2, some (.ref a), l4, l5, l6] (.ref a :: st) σ Q := rn_step rfl (fun _ _ => rfl)
set_option maxRecDepth 20000 in
theorem sL_law_1224n {d : Nat} {Q : mb_O → mb_S → Prop} {σ : mb_S} {st : List Value} {l0 l1 l2 l4 l5 l6 : Option Value} : mb_Rn d 161 1224 [l0, l1, l2, some (.null), l4, l5, l6] st σ Q = mb_Rn d 161 1225 [l0, l1, l2, some (.null), l4, l5, l6] (.null :: st) σ Q := rn_step rfl (fun _ _ => rfl)
set_option maxRecDepth 20000 in
theorem sL_law_1225 {d : Nat} {Q : mb_O → mb_S → Prop} {σ : mb_S} {st : List Value} {ls : mb_L} : mb_Rn d 161 1225 ls st σ Q = mb_Rn d 161 1226 ls (.int 0 :: st) σ Q := rn_step rfl (fun _ _ => rfl)
set_option maxRecDepth 20000 in
theorem sL_law_1226 {d : Nat} {Q : mb_O → mb_S → Prop} {σ : mb_S} {st : List Value} {ls : mb_L} {a : Nat} {j : Int32} : mb_Rn d 161 1226 ls (.int j :: .ref a :: st) σ Q = mb_gj σ a j False (fun kd _ f => if kd = 1 then mb_Rn d 161 1227 ls (.long (f j.toNatClampNeg) :: st) σ Q else False) := rn_lald rfl
set_option maxRecDepth 20000 in
theorem sL_law_1227 {d : Nat} {Q : mb_O → mb_S → Prop} {σ : mb_S} {st : List Value} {l0 l1 l2 l3 l4 l5 : Option Value} {x : Int32} : mb_Rn d 161 1227 [l0, l1, l2, l3, l4, l5, some (.int x)] st σ Q = mb_Rn d 161 1229 [l0, l1, l2, l3, l4, l5, some (.int x)] (.int x :: st) σ Q := rn_step rfl (fun _ _ => rfl)
set_option maxRecDepth 20000 in
theorem sL_law_1229 {d : Nat} {Q : mb_O → mb_S → Prop} {σ : mb_S} {st : List Value} {ls : mb_L} {x : Int32} : mb_Rn d 161 1229 ls (.int x :: st) σ Q = mb_Rn d 161 1230 ls (.long x.toInt64 :: st) σ Q := rn_step rfl (fun _ _ => rfl)
set_option maxRecDepth 20000 in
theorem sL_law_1230 {d : Nat} {Q : mb_O → mb_S → Prop} {σ : mb_S} {st : List Value} {ls : mb_L} {x z : Int64} : mb_Rn d 161 1230 ls (.long z :: .long x :: st) σ Q = mb_Rn d 161 1231 ls (.int (lg_cmp x z) :: st) σ Q := rn_step rfl (fun _ _ => rfl)
set_option maxRecDepth 20000 in
theorem sL_law_1231 {d : Nat} {Q : mb_O → mb_S → Prop} {σ : mb_S} {st : List Value} {ls : mb_L} {x : Int32} : mb_Rn d 161 1231 ls (.int x :: st) σ Q = if x = 0 then mb_Rn d 161 1236 ls st σ Q else mb_Rn d 161 1234 ls st σ Q := rn_ifb rfl (fun _ _ => rfl) beq_iff_eq
set_option maxRecDepth 20000 in
theorem sL_law_1234 {d : Nat} {Q : mb_O → mb_S → Prop} {σ : mb_S} {st : List Value} {ls : mb_L} : mb_Rn d 161 1234 ls st σ Q = mb_Rn d 161 1235 ls (.int 0 :: st) σ Q := rn_step rfl (fun _ _ => rfl)
set_option maxRecDepth 20000 in
theorem sL_law_1235 {d : Nat} {Q : mb_O → mb_S → Prop} {σ : mb_S}  {ls : mb_L} {x : Int32} : mb_Rn d 161 1235 ls [.int x] σ Q = if x = 0 ∨ x = 1 then Q (.inl (some (.int x))) σ else False := rn_zret rfl
set_option maxRecDepth 20000 in
theorem sL_law_1236 {d : Nat} {Q : mb_O → mb_S → Prop} {σ : mb_S} {st : List Value} {ls : mb_L} : mb_Rn d 161 1236 ls st σ Q = mb_Rn d 161 1642 ls st σ Q := rn_step rfl (fun _ _ => rfl)
set_option maxRecDepth 20000 in
theorem sL_law_1239 {d : Nat} {Q : mb_O → mb_S → Prop} {σ : mb_S} {st : List Value} {l0 l2 l3 l4 l5 l6 : Option Value} {a : Nat} : mb_Rn d 161 1239 [l0, some (.ref a), l2, l3, l4, l5, l6] st σ Q = mb_Rn d 161 1240 [l0, some (.ref a), l2, l3, l4, l5, l6] (.ref a :: st) σ Q := rn_step rfl (fun _ _ => rfl)
set_option maxRecDepth 20000 in
theorem sL_law_1239n {d : Nat} {Q : mb_O → mb_S → Prop} {σ : mb_S} {st : List Value} {l0 l2 l3 l4 l5 l6 : Option Value} : mb_Rn d 161 1239 [l0, some (.null), l2, l3, l4, l5, l6] st σ Q = mb_Rn d 161 1240 [l0, some (.null), l2, l3, l4, l5, l6] (.null :: st) σ Q := rn_step rfl (fun _ _ => rfl)
set_option maxRecDepth 20000 in
theorem sL_law_1240 {d : Nat} {Q : mb_O → mb_S → Prop} {σ : mb_S} {st : List Value} {l1 l2 l3 l4 l5 l6 : Option Value} {a : Nat} : mb_Rn d 161 1240 [some (.ref a), l1, l2, l3, l4, l5, l6] st σ Q = mb_Rn d 161 1241 [some (.ref a), l1, l2, l3, l4, l5, l6] (.ref a :: st) σ Q := rn_step rfl (fun _ _ => rfl)
set_option maxRecDepth 20000 in
theorem sL_law_1240n {d : Nat} {Q : mb_O → mb_S → Prop} {σ : mb_S} {st : List Value} {l1 l2 l3 l4 l5 l6 : Option Value} : mb_Rn d 161 1240 [some (.null), l1, l2, l3, l4, l5, l6] st σ Q = mb_Rn d 161 1241 [some (.null), l1, l2, l3, l4, l5, l6] (.null :: st) σ Q := rn_step rfl (fun _ _ => rfl)
set_option maxRecDepth 20000 in
theorem sL_law_1241 {d : Nat} {Q : mb_O → mb_S → Prop} {σ : mb_S} {st : List Value} {l0 l1 l2 l3 l5 l6 : Option Value} {x : Int32} : mb_Rn d 161 1241 [l0, l1, l2, l3, some (.int x), l5, l6] st σ Q = mb_Rn d 161 1243 [l0, l1, l2, l3, some (.int x), l5, l6] (.int x :: st) σ Q := rn_step rfl (fun _ _ => rfl)
set_option maxRecDepth 20000 in
theorem sL_law_1243 {d : Nat} {Q : mb_O → mb_S → Prop} {σ : mb_S} {st : List Value} {ls : mb_L} : mb_Rn d 161 1243 ls st σ Q = mb_Rn d 161 1244 ls (.int 1 :: st) σ Q := rn_step rfl (fun _ _ => rfl)
set_option maxRecDepth 20000 in
theorem sL_law_1244 {d : Nat} {Q : mb_O → mb_S → Prop} {σ : mb_S} {st : List Value} {ls : mb_L} {x z : Int32} : mb_Rn d 161 1244 ls (.int z :: .int x :: st) σ Q = mb_Rn d 161 1245 ls (.int (x + z) :: st) σ Q := rn_step rfl (fun _ _ => rfl)
set_option maxRecDepth 20000 in
theorem sL_law_1245 {d : Nat} {Q : mb_O → mb_S → Prop} {σ : mb_S} {st : List Value} {ls : mb_L} {a : Nat} {j : Int32} : mb_Rn d 161 1245 ls (.int j :: .ref a :: st) σ Q = mb_gi σ a j False (fun kd _ f => if kd = 0 ∨ kd = 9 then mb_Rn d 161 1246 ls (.int (f j.toNatClampNeg) :: st) σ Q else False) := rn_iald rfl
set_option maxRecDepth 20000 in
theorem sL_law_1246 {d : Nat} {Q : mb_O → mb_S → Prop} {σ : mb_S} {st : List Value} {l1 l2 l3 l4 l5 l6 : Option Value} {a : Nat} : mb_Rn d 161 1246 [some (.ref a), l1, l2, l3, l4, l5, l6] st σ Q = mb_Rn d 161 1247 [some (.ref a), l1, l2, l3, l4, l5, l6] (.ref a :: st) σ Q := rn_step rfl (fun _ _ => rfl)
set_option maxRecDepth 20000 in
theorem sL_law_1246n {d : Nat} {Q : mb_O → mb_S → Prop} {σ : mb_S} {st : List Value} {l1 l2 l3 l4 l5 l6 : Option Value} : mb_Rn d 161 1246 [some (.null), l1, l2, l3, l4, l5, l6] st σ Q = mb_Rn d 161 1247 [some (.null), l1, l2, l3, l4, l5, l6] (.null :: st) σ Q := rn_step rfl (fun _ _ => rfl)
set_option maxRecDepth 20000 in
theorem sL_law_1247 {d : Nat} {Q : mb_O → mb_S → Prop} {σ : mb_S} {st : List Value} {l0 l1 l2 l3 l5 l6 : Option Value} {x : Int32} : mb_Rn d 161 1247 [l0, l1, l2, l3, some (.int x), l5, l6] st σ Q = mb_Rn d 161 1249 [l0, l1, l2, l3, some (.int x), l5, l6] (.int x :: st) σ Q := rn_step rfl (fun _ _ => rfl)
set_option maxRecDepth 20000 in
theorem sL_law_1249 {d : Nat} {Q : mb_O → mb_S → Prop} {σ : mb_S} {st : List Value} {ls : mb_L} : mb_Rn d 161 1249 ls st σ Q = mb_Rn d 161 1250 ls (.int 2 :: st) σ Q := rn_step rfl (fun _ _ => rfl)
set_option maxRecDepth 20000 in
theorem sL_law_1250 {d : Nat} {Q : mb_O → mb_S → Prop} {σ : mb_S} {st : List Value} {ls : mb_L} {x z : Int32} : mb_Rn d 161 1250 ls (.int z :: .int x :: st) σ Q = mb_Rn d 161 1251 ls (.int (x + z) :: st) σ Q := rn_step rfl (fun _ _ => rfl)
set_option maxRecDepth 20000 in
theorem sL_law_1251 {d : Nat} {Q : mb_O → mb_S → Prop} {σ : mb_S} {st : List Value} {ls : mb_L} {a : Nat} {j : Int32} : mb_Rn d 161 1251 ls (.int j :: .ref a :: st) σ Q = mb_gi σ a j False (fun kd _ f => if kd = 0 ∨ kd = 9 then mb_Rn d 161 1252 ls (.int (f j.toNatClampNeg) :: st) σ Q else False) := rn_iald rfl
set_option maxRecDepth 20000 in
theorem sL_law_1252 {d : Nat} {Q : mb_O → mb_S → Prop} {σ : mb_S} {st : List Value} {l0 l1 l2 l4 l5 l6 : Option Value} {a : Nat} : mb_Rn d 161 1252 [l0, l1, l2, some (.ref a), l4, l5, l6] st σ Q = mb_Rn d 161 1253 [l0, l1, l2, some (.ref a), l4, l5, l6] (.ref a :: st) σ Q := rn_step rfl (fun _ _ => rfl)
set_option maxRecDepth 20000 in
theorem sL_law_1252n {d : Nat} {Q : mb_O → mb_S → Prop} {σ : mb_S} {st : List Value} {l0 l1 l2 l4 l5 l6 : Option Value} : mb_Rn d 161 1252 [l0, l1, l2, some (.null), l4, l5, l6] st σ Q = mb_Rn d 161 1253 [l0, l1, l2, some (.null), l4, l5, l6] (.null :: st) σ Q := rn_step rfl (fun _ _ => rfl)
set_option maxRecDepth 20000 in
theorem sL_law_1253 {d : Nat} {Q : mb_O → mb_S → Prop} {σ : mb_S} {st : List Value} {ls : mb_L} {p0 : Nat} {p1 : Int32} {p2 : Int32} {p3 : Nat} (hd : 1 ≤ d) (h4 : st.length ≤ 4) : mb_Rn d 161 1253 ls (.ref p3 :: .int p2 :: .int p1 :: .ref p0 :: st) σ Q = mb_Ex (d - 1) 155 [.ref p0, .int p1, .int p2, .ref p3] σ (mb_qk d 161 1256 ls st Q) := rn_calls mb_good rfl hd rfl rfl ⟨rfl, rfl⟩ h4 ⟨Nat.le_of_ble_eq_true rfl, rfl⟩
set_option maxRecDepth 20000 in
theorem sL_law_1256 {d : Nat} {Q : mb_O → mb_S → Prop} {σ : mb_S} {st : List Value} {l0 l1 l2 l3 l4 l5 l6 : Option Value} {x : Int32} : mb_Rn d 161 1256 [l0, l1, l2, l3, l4, l5, l6] (.int x :: st) σ Q = mb_Rn d 161 1258 [l0, l1, l2, l3, l4, some (.int x), l6] st σ Q := rn_step rfl (fun _ _ => rfl)
set_option maxRecDepth 20000 in
theorem sL_law_1258 {d : Nat} {Q : mb_O → mb_S → Prop} {σ : mb_S} {st : List Value} {l0 l1 l3 l4 l5 l6 : Option Value} {a : Nat} : mb_Rn d 161 1258 [l0, l1, some (.ref a), l3, l4, l5, l6] st σ Q = mb_Rn d 161 1259 [l0, l1, some (.ref a), l3, l4, l5, l6] (.ref a :: st) σ Q := rn_step rfl (fun _ _ => rfl)
set_option maxRecDepth 20000 in
theorem sL_law_1258n {d : Nat} {Q : mb_O → mb_S → Prop} {σ : mb_S} {st : List Value} {l0 l1 l3 l4 l5 l6 : Option Value} : mb_Rn d 161 1258 [l0, l1, some (.null), l3, l4, l5, l6] st σ Q = mb_Rn d 161 1259 [l0, l1, some (.null), l3, l4, l5, l6] (.null :: st) σ Q := rn_step rfl (fun _ _ => rfl)
set_option maxRecDepth 20000 in
theorem sL_law_1259 {d : Nat} {Q : mb_O → mb_S → Prop} {σ : mb_S} {st : List Value} {l1 l2 l3 l4 l5 l6 : Option Value} {a : Nat} : mb_Rn d 161 1259 [some (.ref a), l1, l2, l3, l4, l5, l6] st σ Q = mb_Rn d 161 1260 [some (.ref a), l1, l2, l3, l4, l5, l6] (.ref a :: st) σ Q := rn_step rfl (fun _ _ => rfl)
set_option maxRecDepth 20000 in
theorem sL_law_1259n {d : Nat} {Q : mb_O → mb_S → Prop} {σ : mb_S} {st : List Value} {l1 l2 l3 l4 l5 l6 : Option Value} : mb_Rn d 161 1259 [some (.null), l1, l2, l3, l4, l5, l6] st σ Q = mb_Rn d 161 1260 [some (.null), l1, l2, l3, l4, l5, l6] (.null :: st) σ Q := rn_step rfl (fun _ _ => rfl)
set_option maxRecDepth 20000 in
theorem sL_law_1260 {d : Nat} {Q : mb_O → mb_S → Prop} {σ : mb_S} {st : List Value} {l0 l1 l2 l3 l5 l6 : Option Value} {x : Int32} : mb_Rn d 161 1260 [l0, l1, l2, l3, some (.int x), l5, l6] st σ Q = mb_Rn d 161 1262 [l0, l1, l2, l3, some (.int x), l5, l6] (.int x :: st) σ Q := rn_step rfl (fun _ _ => rfl)
set_option maxRecDepth 20000 in
theorem sL_law_1262 {d : Nat} {Q : mb_O → mb_S → Prop} {σ : mb_S} {st : List Value} {ls : mb_L} : mb_Rn d 161 1262 ls st σ Q = mb_Rn d 161 1263 ls (.int 1 :: st) σ Q := rn_step rfl (fun _ _ => rfl)
set_option maxRecDepth 20000 in
theorem sL_law_1263 {d : Nat} {Q : mb_O → mb_S → Prop} {σ : mb_S} {st : List Value} {ls : mb_L} {x z : Int32} : mb_Rn d 161 1263 ls (.int z :: .int x :: st) σ Q = mb_Rn d 161 1264 ls (.int (x + z) :: st) σ Q := rn_step rfl (fun _ _ => rfl)
set_option maxRecDepth 20000 in
theorem sL_law_1264 {d : Nat} {Q : mb_O → mb_S → Prop} {σ : mb_S} {st : List Value} {ls : mb_L} {a : Nat} {j : Int32} : mb_Rn d 161 1264 ls (.int j :: .ref a :: st) σ Q = mb_gi σ a j False (fun kd _ f => if kd = 0 ∨ kd = 9 then mb_Rn d 161 1265 ls (.int (f j.toNatClampNeg) :: st) σ Q else False) := rn_iald rfl
set_option maxRecDepth 20000 in
theorem sL_law_1265 {d : Nat} {Q : mb_O → mb_S → Prop} {σ : mb_S} {st : List Value} {l1 l2 l3 l4 l5 l6 : Option Value} {a : Nat} : mb_Rn d 161 1265 [some (.ref a), l1, l2, l3, l4, l5, l6] st σ Q = mb_Rn d 161 1266 [some (.ref a), l1, l2, l3, l4, l5, l6] (.ref a :: st) σ Q := rn_step rfl (fun _ _ => rfl)
set_option maxRecDepth 20000 in
theorem sL_law_1265n {d : Nat} {Q : mb_O → mb_S → Prop} {σ : mb_S} {st : List Value} {l1 l2 l3 l4 l5 l6 : Option Value} : mb_Rn d 161 1265 [some (.null), l1, l2, l3, l4, l5, l6] st σ Q = mb_Rn d 161 1266 [some (.null), l1, l2, l3, l4, l5, l6] (.null :: st) σ Q := rn_step rfl (fun _ _ => rfl)
set_option maxRecDepth 20000 in
theorem sL_law_1266 {d : Nat} {Q : mb_O → mb_S → Prop} {σ : mb_S} {st : List Value} {l0 l1 l2 l3 l5 l6 : Option Value} {x : Int32} : mb_Rn d 161 1266 [l0, l1, l2, l3, some (.int x), l5, l6] st σ Q = mb_Rn d 161 1268 [l0, l1, l2, l3, some (.int x), l5, l6] (.int x :: st) σ Q := rn_step rfl (fun _ _ => rfl)
set_option maxRecDepth 20000 in
theorem sL_law_1268 {d : Nat} {Q : mb_O → mb_S → Prop} {σ : mb_S} {st : List Value} {ls : mb_L} : mb_Rn d 161 1268 ls st σ Q = mb_Rn d 161 1269 ls (.int 2 :: st) σ Q := rn_step rfl (fun _ _ => rfl)
set_option maxRecDepth 20000 in
theorem sL_law_1269 {d : Nat} {Q : mb_O → mb_S → Prop} {σ : mb_S} {st : List Value} {ls : mb_L} {x z : Int32} : mb_Rn d 161 1269 ls (.int z :: .int x :: st) σ Q = mb_Rn d 161 1270 ls (.int (x + z) :: st) σ Q := rn_step rfl (fun _ _ => rfl)
set_option maxRecDepth 20000 in
theorem sL_law_1270 {d : Nat} {Q : mb_O → mb_S → Prop} {σ : mb_S} {st : List Value} {ls : mb_L} {a : Nat} {j : Int32} : mb_Rn d 161 1270 ls (.int j :: .ref a :: st) σ Q = mb_gi σ a j False (fun kd _ f => if kd = 0 ∨ kd = 9 then mb_Rn d 161 1271 ls (.int (f j.toNatClampNeg) :: st) σ Q else False) := rn_iald rfl
set_option maxRecDepth 20000 in
theorem sL_law_1271 {d : Nat} {Q : mb_O → mb_S → Prop} {σ : mb_S} {st : List Value} {ls : mb_L} {p0 : Int32} {p1 : Int32} {b : Nat} (hd : 1 ≤ d) (h4 : st.length ≤ 4) : mb_Rn d 161 1271 ls (.int p1 :: .int p0 :: .ref b :: st) σ Q = mb_gf σ b 8 False (fun _ => mb_Ex (d - 1) 127 [.ref b, .int p0, .int p1] σ (mb_qx [] d 161 1274 ls st Q)) := rn_callv mb_good rfl hd rfl rfl ⟨rfl, rfl⟩ h4 ⟨Nat.le_of_ble_eq_true rfl, rfl⟩
set_option maxRecDepth 20000 in
theorem sL_law_1274 {d : Nat} {Q : mb_O → mb_S → Prop} {σ : mb_S} {st : List Value} {l0 l1 l2 l3 l4 l5 l6 : Option Value} {x : Int32} : mb_Rn d 161 1274 [l0, l1, l2, l3, l4, l5, l6] (.int x :: st) σ Q = mb_Rn d 161 1276 [l0, l1, l2, l3, l4, l5, some (.int x)] st σ Q := rn_step rfl (fun _ _ => rfl)
set_option maxRecDepth 20000 in
theorem sL_law_1276 {d : Nat} {Q : mb_O → mb_S → Prop} {σ : mb_S} {st : List Value} {l0 l1 l3 l4 l5 l6 : Option Value} {a : Nat} : mb_Rn d 161 1276 [l0, l1, some (.ref a), l3, l4, l5, l6] st σ Q = mb_Rn d 161 1277 [l0, l1, some (.ref a), l3, l4, l5, l6] (.ref a :: st) σ Q := rn_step rfl (fun _ _ => rfl)
set_option maxRecDepth 20000 in
theorem sL_law_1276n {d : Nat} {Q : mb_O → mb_S → Prop} {σ : mb_S} {st : List Value} {l0 l1 l3 l4 l5 l6 : Option Value} : mb_Rn d 161 1276 [l0, l1, some (.null), l3, l4, l5, l6] st σ Q = mb_Rn d 161 1277 [l0, l1, some (.null), l3, l4, l5, l6] (.null :: st) σ Q := rn_step rfl (fun _ _ => rfl)
set_option maxRecDepth 20000 in
theorem sL_law_1277 {d : Nat} {Q : mb_O → mb_S → Prop} {σ : mb_S} {st : List Value} {ls : mb_L} {b : Nat} (hd : 1 ≤ d) (h4 : st.length ≤ 4) : mb_Rn d 161 1277 ls (.ref b :: st) σ Q = mb_gf σ b 8 False (fun _ => mb_Ex (d - 1) 85 [.ref b] σ (mb_qx [] d 161 1280 ls st Q)) := rn_callv mb_good rfl hd rfl rfl ⟨rfl, rfl⟩ h4 ⟨Nat.le_of_ble_eq_true rfl, rfl⟩
set_option maxRecDepth 20000 in
theorem sL_law_1280 {d : Nat} {Q : mb_O → mb_S → Prop} {σ : mb_S} {st : List Value} {l0 l1 l2 l3 l4 l6 : Option Value} {x : Int32} : mb_Rn d 161 1280 [l0, l1, l2, l3, l4, some (.int x), l6] st σ Q = mb_Rn d 161 1282 [l0, l1, l2, l3, l4, some (.int x), l6] (.int x :: st) σ Q := rn_step rfl (fun _ _ => rfl)
set_option maxRecDepth 20000 in
theorem sL_law_1282 {d : Nat} {Q : mb_O → mb_S → Prop} {σ : mb_S} {st : List Value} {ls : mb_L} {x z : Int32} : mb_Rn d 161 1282 ls (.int z :: .int x :: st) σ Q = if x = z then mb_Rn d 161 1287 ls st σ Q else mb_Rn d 161 1285 ls st σ Q := rn_ifb rfl (fun _ _ => rfl) beq_iff_eq
set_option maxRecDepth 20000 in
theorem sL_law_1285 {d : Nat} {Q : mb_O → mb_S → Prop} {σ : mb_S} {st : List Value} {ls : mb_L} : mb_Rn d 161 1285 ls st σ Q = mb_Rn d 161 1286 ls (.int 0 :: st) σ Q := rn_step rfl (fun _ _ => rfl)
set_option maxRecDepth 20000 in
theorem sL_law_1286 {d : Nat} {Q : mb_O → mb_S → Prop} {σ : mb_S}  {ls : mb_L} {x : Int32} : mb_Rn d 161 1286 ls [.int x] σ Q = if x = 0 ∨ x = 1 then Q (.inl (some (.int x))) σ else False := rn_zret rfl
set_option maxRecDepth 20000 in
theorem sL_law_1287 {d : Nat} {Q : mb_O → mb_S → Prop} {σ : mb_S} {st : List Value} {l0 l1 l2 l3 l4 l6 : Option Value} {x : Int32} : mb_Rn d 161 1287 [l0, l1, l2, l3, l4, some (.int x), l6] st σ Q = mb_Rn d 161 1289 [l0, l1, l2, l3, l4, some (.int x), l6] (.int x :: st) σ Q := rn_step rfl (fun _ _ => rfl)
set_option maxRecDepth 20000 in
theorem sL_law_1289 {d : Nat} {Q : mb_O → mb_S → Prop} {σ : mb_S} {st : List Value} {ls : mb_L} {x : Int32} : mb_Rn d 161 1289 ls (.int x :: st) σ Q = if x = 0 then mb_Rn d 161 1292 ls st σ Q else mb_Rn d 161 1311 ls st σ Q := rn_ifn rfl (fun _ _ => rfl) bne_iff_ne
set_option maxRecDepth 20000 in
theorem sL_law_1292 {d : Nat} {Q : mb_O → mb_S → Prop} {σ : mb_S} {st : List Value} {l0 l1 l2 l4 l5 l6 : Option Value} {a : Nat} : mb_Rn d 161 1292 [l0, l1, l2, some (.ref a), l4, l5, l6] st σ Q = mb_Rn d 161 1293 [l0, l1, l2, some (.ref a), l4, l5, l6] (.ref a :: st) σ Q := rn_step rfl (fun _ _ => rfl)
set_option maxRecDepth 20000 in
theorem sL_law_1292n {d : Nat} {Q : mb_O → mb_S → Prop} {σ : mb_S} {st : List Value} {l0 l1 l2 l4 l5 l6 : Option Value} : mb_Rn d 161 1292 [l0, l1, l2, some (.null), l4, l5, l6] st σ Q = mb_Rn d 161 1293 [l0, l1, l2, some (.null), l4, l5, l6] (.null :: st) σ Q := rn_step rfl (fun _ _ => rfl)
set_option maxRecDepth 20000 in
theorem sL_law_1293 {d : Nat} {Q : mb_O → mb_S → Prop} {σ : mb_S} {st : List Value} {ls : mb_L} : mb_Rn d 161 1293 ls st σ Q = mb_Rn d 161 1294 ls (.int 0 :: st) σ Q := rn_step rfl (fun _ _ => rfl)
set_option maxRecDepth 20000 in
theorem sL_law_1294 {d : Nat} {Q : mb_O → mb_S → Prop} {σ : mb_S} {st : List Value} {ls : mb_L} {a : Nat} {j : Int32} : mb_Rn d 161 1294 ls (.int j :: .ref a :: st) σ Q = mb_gj σ a j False (fun kd _ f => if kd = 1 then mb_Rn d 161 1295 ls (.long (f j.toNatClampNeg) :: st) σ Q else False) := rn_lald rfl
set_option maxRecDepth 20000 in
theorem sL_law_1295 {d : Nat} {Q : mb_O → mb_S → Prop} {σ : mb_S} {st : List Value} {l0 l1 l2 l3 l4 l5 : Option Value} {x : Int32} : mb_Rn d 161 1295 [l0, l1, l2, l3, l4, l5, some (.int x)] st σ Q = mb_Rn d 161 1297 [l0, l1, l2, l3, l4, l5, some (.int x)] (.int x :: st) σ Q := rn_step rfl (fun _ _ => rfl)
set_option maxRecDepth 20000 in
theorem sL_law_1297 {d : Nat} {Q : mb_O → mb_S → Prop} {σ : mb_S} {st : List Value} {ls : mb_L} {x : Int32} : mb_Rn d 161 1297 ls (.int x :: st) σ Q = if x = 0 then mb_Rn d 161 1304 ls st σ Q else mb_Rn d 161 1300 ls st σ Q := rn_ifb rfl (fun _ _ => rfl) beq_iff_eq
set_option maxRecDepth 20000 in
theorem sL_law_1300 {d : Nat} {Q : mb_O → mb_S → Prop} {σ : mb_S} {st : List Value} {ls : mb_L} : mb_Rn d 161 1300 ls st σ Q = mb_Rn d 161 1301 ls (.long 1 :: st) σ Q := rn_step rfl (fun _ _ => rfl)
set_option maxRecDepth 20000 in
theorem sL_law_1301 {d : Nat} {Q : mb_O → mb_S → Prop} {σ : mb_S} {st : List Value} {ls : mb_L} : mb_Rn d 161 1301 ls st σ Q = mb_Rn d 161 1305 ls st σ Q := rn_step rfl (fun _ _ => rfl)
set_option maxRecDepth 20000 in
theorem sL_law_1304 {d : Nat} {Q : mb_O → mb_S → Prop} {σ : mb_S} {st : List Value} {ls : mb_L} : mb_Rn d 161 1304 ls st σ Q = mb_Rn d 161 1305 ls (.long 0 :: st) σ Q := rn_step rfl (fun _ _ => rfl)
set_option maxRecDepth 20000 in
theorem sL_law_1305 {d : Nat} {Q : mb_O → mb_S → Prop} {σ : mb_S} {st : List Value} {ls : mb_L} {x z : Int64} : mb_Rn d 161 1305 ls (.long z :: .long x :: st) σ Q = mb_Rn d 161 1306 ls (.int (lg_cmp x z) :: st) σ Q := rn_step rfl (fun _ _ => rfl)
set_option maxRecDepth 20000 in
theorem sL_law_1306 {d : Nat} {Q : mb_O → mb_S → Prop} {σ : mb_S} {st : List Value} {ls : mb_L} {x : Int32} : mb_Rn d 161 1306 ls (.int x :: st) σ Q = if x = 0 then mb_Rn d 161 1311 ls st σ Q else mb_Rn d 161 1309 ls st σ Q := rn_ifb rfl (fun _ _ => rfl) beq_iff_eq
set_option maxRecDepth 20000 in
theorem sL_law_1309 {d : Nat} {Q : mb_O → mb_S → Prop} {σ : mb_S} {st : List Value} {ls : mb_L} : mb_Rn d 161 1309 ls st σ Q = mb_Rn d 161 1310 ls (.int 0 :: st) σ Q := rn_step rfl (fun _ _ => rfl)
set_option maxRecDepth 20000 in
theorem sL_law_1310 {d : Nat} {Q : mb_O → mb_S → Prop} {σ : mb_S}  {ls : mb_L} {x : Int32} : mb_Rn d 161 1310 ls [.int x] σ Q = if x = 0 ∨ x = 1 then Q (.inl (some (.int x))) σ else False := rn_zret rfl
set_option maxRecDepth 20000 in
theorem sL_law_1311 {d : Nat} {Q : mb_O → mb_S → Prop} {σ : mb_S} {st : List Value} {ls : mb_L} : mb_Rn d 161 1311 ls st σ Q = mb_Rn d 161 1642 ls st σ Q := rn_step rfl (fun _ _ => rfl)
set_option maxRecDepth 20000 in
theorem sL_law_1314 {d : Nat} {Q : mb_O → mb_S → Prop} {σ : mb_S} {st : List Value} {l0 l2 l3 l4 l5 l6 : Option Value} {a : Nat} : mb_Rn d 161 1314 [l0, some (.ref a), l2, l3, l4, l5, l6] st σ Q = mb_Rn d 161 1315 [l0, some (.ref a), l2, l3, l4, l5, l6] (.ref a :: st) σ Q := rn_step rfl (fun _ _ => rfl)
set_option maxRecDepth 20000 in
theorem sL_law_1314n {d : Nat} {Q : mb_O → mb_S → Prop} {σ : mb_S} {st : List Value} {l0 l2 l3 l4 l5 l6 : Option Value} : mb_Rn d 161 1314 [l0, some (.null), l2, l3, l4, l5, l6] st σ Q = mb_Rn d 161 1315 [l0, some (.null), l2, l3, l4, l5, l6] (.null :: st) σ Q := rn_step rfl (fun _ _ => rfl)
set_option maxRecDepth 20000 in
theorem sL_law_1315 {d : Nat} {Q : mb_O → mb_S → Prop} {σ : mb_S} {st : List Value} {l1 l2 l3 l4 l5 l6 : Option Value} {a : Nat} : mb_Rn d 161 1315 [some (.ref a), l1, l2, l3, l4, l5, l6] st σ Q = mb_Rn d 161 1316 [some (.ref a), l1, l2, l3, l4, l5, l6] (.ref a :: st) σ Q := rn_step rfl (fun _ _ => rfl)
set_option maxRecDepth 20000 in
theorem sL_law_1315n {d : Nat} {Q : mb_O → mb_S → Prop} {σ : mb_S} {st : List Value} {l1 l2 l3 l4 l5 l6 : Option Value} : mb_Rn d 161 1315 [some (.null), l1, l2, l3, l4, l5, l6] st σ Q = mb_Rn d 161 1316 [some (.null), l1, l2, l3, l4, l5, l6] (.null :: st) σ Q := rn_step rfl (fun _ _ => rfl)
set_option maxRecDepth 20000 in
theorem sL_law_1316 {d : Nat} {Q : mb_O → mb_S → Prop} {σ : mb_S} {st : List Value} {l0 l1 l2 l3 l5 l6 : Option Value} {x : Int32} : mb_Rn d 161 1316 [l0, l1, l2, l3, some (.int x), l5, l6] st σ Q = mb_Rn d 161 1318 [l0, l1, l2, l3, some (.int x), l5, l6] (.int x :: st) σ Q := rn_step rfl (fun _ _ => rfl)
set_option maxRecDepth 20000 in
theorem sL_law_1318 {d : Nat} {Q : mb_O → mb_S → Prop} {σ : mb_S} {st : List Value} {ls : mb_L} : mb_Rn d 161 1318 ls st σ Q = mb_Rn d 161 1319 ls (.int 1 :: st) σ Q := rn_step rfl (fun _ _ => rfl)
set_option maxRecDepth 20000 in
theorem sL_law_1319 {d : Nat} {Q : mb_O → mb_S → Prop} {σ : mb_S} {st : List Value} {ls : mb_L} {x z : Int32} : mb_Rn d 161 1319 ls (.int z :: .int x :: st) σ Q = mb_Rn d 161 1320 ls (.int (x + z) :: st) σ Q := rn_step rfl (fun _ _ => rfl)
set_option maxRecDepth 20000 in
theorem sL_law_1320 {d : Nat} {Q : mb_O → mb_S → Prop} {σ : mb_S} {st : List Value} {ls : mb_L} {a : Nat} {j : Int32} : mb_Rn d 161 1320 ls (.int j :: .ref a :: st) σ Q = mb_gi σ a j False (fun kd _ f => if kd = 0 ∨ kd = 9 then mb_Rn d 161 1321 ls (.int (f j.toNatClampNeg) :: st) σ Q else False) := rn_iald rfl
set_option maxRecDepth 20000 in
theorem sL_law_1321 {d : Nat} {Q : mb_O → mb_S → Prop} {σ : mb_S} {st : List Value} {l0 l1 l2 l4 l5 l6 : Option Value} {a : Nat} : mb_Rn d 161 1321 [l0, l1, l2, some (.ref a), l4, l5, l6] st σ Q = mb_Rn d 161 1322 [l0, l1, l2, some (.ref a), l4, l5, l6] (.ref a :: st) σ Q := rn_step rfl (fun _ _ => rfl)
set_option maxRecDepth 20000 in
theorem sL_law_1321n {d : Nat} {Q : mb_O → mb_S → Prop} {σ : mb_S} {st : List Value} {l0 l1 l2 l4 l5 l6 : Option Value} : mb_Rn d 161 1321 [l0, l1, l2, some (.null), l4, l5, l6] st σ Q = mb_Rn d 161 1322 [l0, l1, l2, some (.null), l4, l5, l6] (.null :: st) σ Q := rn_step rfl (fun _ _ => rfl)
set_option maxRecDepth 20000 in
theorem sL_law_1322 {d : Nat} {Q : mb_O → mb_S → Prop} {σ : mb_S} {st : List Value} {ls : mb_L} {p0 : Nat} {p1 : Int32} {p2 : Nat} (hd : 1 ≤ d) (h4 : st.length ≤ 4) : mb_Rn d 161 1322 ls (.ref p2 :: .int p1 :: .ref p0 :: st) σ Q = mb_Ex (d - 1) 156 [.ref p0, .int p1, .ref p2] σ (mb_qk d 161 1325 ls st Q) := rn_calls mb_good rfl hd rfl rfl ⟨rfl, rfl⟩ h4 ⟨Nat.le_of_ble_eq_true rfl, rfl⟩
set_option maxRecDepth 20000 in
theorem sL_law_1325 {d : Nat} {Q : mb_O → mb_S → Prop} {σ : mb_S} {st : List Value} {l0 l1 l2 l3 l4 l5 l6 : Option Value} {x : Int32} : mb_Rn d 161 1325 [l0, l1, l2, l3, l4, l5, l6] (.int x :: st) σ Q = mb_Rn d 161 1327 [l0, l1, l2, l3, l4, some (.int x), l6] st σ Q := rn_step rfl (fun _ _ => rfl)
set_option maxRecDepth 20000 in
theorem sL_law_1327 {d : Nat} {Q : mb_O → mb_S → Prop} {σ : mb_S} {st : List Value} {l0 l1 l3 l4 l5 l6 : Option Value} {a : Nat} : mb_Rn d 161 1327 [l0, l1, some (.ref a), l3, l4, l5, l6] st σ Q = mb_Rn d 161 1328 [l0, l1, some (.ref a), l3, l4, l5, l6] (.ref a :: st) σ Q := rn_step rfl (fun _ _ => rfl)
set_option maxRecDepth 20000 in
theorem sL_law_1327n {d : Nat} {Q : mb_O → mb_S → Prop} {σ : mb_S} {st : List Value} {l0 l1 l3 l4 l5 l6 : Option Value} : mb_Rn d 161 1327 [l0, l1, some (.null), l3, l4, l5, l6] st σ Q = mb_Rn d 161 1328 [l0, l1, some (.null), l3, l4, l5, l6] (.null :: st) σ Q := rn_step rfl (fun _ _ => rfl)
set_option maxRecDepth 20000 in
theorem sL_law_1328 {d : Nat} {Q : mb_O → mb_S → Prop} {σ : mb_S} {st : List Value} {l1 l2 l3 l4 l5 l6 : Option Value} {a : Nat} : mb_Rn d 161 1328 [some (.ref a), l1, l2, l3, l4, l5, l6] st σ Q = mb_Rn d 161 1329 [some (.ref a), l1, l2, l3, l4, l5, l6] (.ref a :: st) σ Q := rn_step rfl (fun _ _ => rfl)
set_option maxRecDepth 20000 in
theorem sL_law_1328n {d : Nat} {Q : mb_O → mb_S → Prop} {σ : mb_S} {st : List Value} {l1 l2 l3 l4 l5 l6 : Option Value} : mb_Rn d 161 1328 [some (.null), l1, l2, l3, l4, l5, l6] st σ Q = mb_Rn d 161 1329 [some (.null), l1, l2, l3, l4, l5, l6] (.null :: st) σ Q := rn_step rfl (fun _ _ => rfl)
set_option maxRecDepth 20000 in
theorem sL_law_1329 {d : Nat} {Q : mb_O → mb_S → Prop} {σ : mb_S} {st : List Value} {l0 l1 l2 l3 l5 l6 : Option Value} {x : Int32} : mb_Rn d 161 1329 [l0, l1, l2, l3, some (.int x), l5, l6] st σ Q = mb_Rn d 161 1331 [l0, l1, l2, l3, some (.int x), l5, l6] (.int x :: st) σ Q := rn_step rfl (fun _ _ => rfl)
set_option maxRecDepth 20000 in
theorem sL_law_1331 {d : Nat} {Q : mb_O → mb_S → Prop} {σ : mb_S} {st : List Value} {ls : mb_L} : mb_Rn d 161 1331 ls st σ Q = mb_Rn d 161 1332 ls (.int 1 :: st) σ Q := rn_step rfl (fun _ _ => rfl)
set_option maxRecDepth 20000 in
theorem sL_law_1332 {d : Nat} {Q : mb_O → mb_S → Prop} {σ : mb_S} {st : List Value} {ls : mb_L} {x z : Int32} : mb_Rn d 161 1332 ls (.int z :: .int x :: st) σ Q = mb_Rn d 161 1333 ls (.int (x + z) :: st) σ Q := rn_step rfl (fun _ _ => rfl)
set_option maxRecDepth 20000 in
theorem sL_law_1333 {d : Nat} {Q : mb_O → mb_S → Prop} {σ : mb_S} {st : List Value} {ls : mb_L} {a : Nat} {j : Int32} : mb_Rn d 161 1333 ls (.int j :: .ref a :: st) σ Q = mb_gi σ a j False (fun kd _ f => if kd = 0 ∨ kd = 9 then mb_Rn d 161 1334 ls (.int (f j.toNatClampNeg) :: st) σ Q else False) := rn_iald rfl
set_option maxRecDepth 20000 in
theorem sL_law_1334 {d : Nat} {Q : mb_O → mb_S → Prop} {σ : mb_S} {st : List Value} {ls : mb_L} {p0 : Int32} {b : Nat} (hd : 1 ≤ d) (h4 : st.length ≤ 4) : mb_Rn d 161 1334 ls (.int p0 :: .ref b :: st) σ Q = mb_gf σ b 8 False (fun _ => mb_Ex (d - 1) 129 [.ref b, .int p0] σ (mb_qx [] d 161 1337 ls st Q)) := rn_callv mb_good rfl hd rfl rfl ⟨rfl, rfl⟩ h4 ⟨Nat.le_of_ble_eq_true rfl, rfl⟩
set_option maxRecDepth 20000 in
theorem sL_law_1337 {d : Nat} {Q : mb_O → mb_S → Prop} {σ : mb_S} {st : List Value} {l0 l1 l2 l3 l4 l5 l6 : Option Value} {x : Int32} : mb_Rn d 161 1337 [l0, l1, l2, l3, l4, l5, l6] (.int x :: st) σ Q = mb_Rn d 161 1339 [l0, l1, l2, l3, l4, l5, some (.int x)] st σ Q := rn_step rfl (fun _ _ => rfl)
set_option maxRecDepth 20000 in
theorem sL_law_1339 {d : Nat} {Q : mb_O → mb_S → Prop} {σ : mb_S} {st : List Value} {l0 l1 l3 l4 l5 l6 : Option Value} {a : Nat} : mb_Rn d 161 1339 [l0, l1, some (.ref a), l3, l4, l5, l6] st σ Q = mb_Rn d 161 1340 [l0, l1, some (.ref a), l3, l4, l5, l6] (.ref a :: st) σ Q := rn_step rfl (fun _ _ => rfl)
set_option maxRecDepth 20000 in
theorem sL_law_1339n {d : Nat} {Q : mb_O → mb_S → Prop} {σ : mb_S} {st : List Value} {l0 l1 l3 l4 l5 l6 : Option Value} : mb_Rn d 161 1339 [l0, l1, some (.null), l3, l4, l5, l6] st σ Q = mb_Rn d 161 1340 [l0, l1, some (.null), l3, l4, l5, l6] (.null :: st) σ Q := rn_step rfl (fun _ _ => rfl)
set_option maxRecDepth 20000 in
theorem sL_law_1340 {d : Nat} {Q : mb_O → mb_S → Prop} {σ : mb_S} {st : List Value} {ls : mb_L} {b : Nat} (hd : 1 ≤ d) (h4 : st.length ≤ 4) : mb_Rn d 161 1340 ls (.ref b :: st) σ Q = mb_gf σ b 8 False (fun _ => mb_Ex (d - 1) 85 [.ref b] σ (mb_qx [] d 161 1343 ls st Q)) := rn_callv mb_good rfl hd rfl rfl ⟨rfl, rfl⟩ h4 ⟨Nat.le_of_ble_eq_true rfl, rfl⟩
set_option maxRecDepth 20000 in
theorem sL_law_1343 {d : Nat} {Q : mb_O → mb_S → Prop} {σ : mb_S} {st : List Value} {l0 l1 l2 l3 l4 l6 : Option Value} {x : Int32} : mb_Rn d 161 1343 [l0, l1, l2, l3, l4, some (.int x), l6] st σ Q = mb_Rn d 161 1345 [l0, l1, l2, l3, l4, some (.int x), l6] (.int x :: st) σ Q := rn_step rfl (fun _ _ => rfl)
set_option maxRecDepth 20000 in
theorem sL_law_1345 {d : Nat} {Q : mb_O → mb_S → Prop} {σ : mb_S} {st : List Value} {ls : mb_L} {x z : Int32} : mb_Rn d 161 1345 ls (.int z :: .int x :: st) σ Q = if x = z then mb_Rn d 161 1350 ls st σ Q else mb_Rn d 161 1348 ls st σ Q := rn_ifb rfl (fun _ _ => rfl) beq_iff_eq
set_option maxRecDepth 20000 in
theorem sL_law_1348 {d : Nat} {Q : mb_O → mb_S → Prop} {σ : mb_S} {st : List Value} {ls : mb_L} : mb_Rn d 161 1348 ls st σ Q = mb_Rn d 161 1349 ls (.int 0 :: st) σ Q := rn_step rfl (fun _ _ => rfl)
set_option maxRecDepth 20000 in
theorem sL_law_1349 {d : Nat} {Q : mb_O → mb_S → Prop} {σ : mb_S}  {ls : mb_L} {x : Int32} : mb_Rn d 161 1349 ls [.int x] σ Q = if x = 0 ∨ x = 1 then Q (.inl (some (.int x))) σ else False := rn_zret rfl
set_option maxRecDepth 20000 in
theorem sL_law_1350 {d : Nat} {Q : mb_O → mb_S → Prop} {σ : mb_S} {st : List Value} {l0 l1 l2 l3 l4 l6 : Option Value} {x : Int32} : mb_Rn d 161 1350 [l0, l1, l2, l3, l4, some (.int x), l6] st σ Q = mb_Rn d 161 1352 [l0, l1, l2, l3, l4, some (.int x), l6] (.int x :: st) σ Q := rn_step rfl (fun _ _ => rfl)
set_option maxRecDepth 20000 in
theorem sL_law_1352 {d : Nat} {Q : mb_O → mb_S → Prop} {σ : mb_S} {st : List Value} {ls : mb_L} {x : Int32} : mb_Rn d 161 1352 ls (.int x :: st) σ Q = if x = 0 then mb_Rn d 161 1355 ls st σ Q else mb_Rn d 161 1367 ls st σ Q := rn_ifn rfl (fun _ _ => rfl) bne_iff_ne
set_option maxRecDepth 20000 in
theorem sL_law_1355 {d : Nat} {Q : mb_O → mb_S → Prop} {σ : mb_S} {st : List Value} {l0 l1 l2 l4 l5 l6 : Option Value} {a : Nat} : mb_Rn d 161 1355 [l0, l1, l2, some (.ref a), l4, l5, l6] st σ Q = mb_Rn d 161 1356 [l0, l1, l2, some (.ref a), l4, l5, l6] (.ref a :: st) σ Q := rn_step rfl (fun _ _ => rfl)
set_option maxRecDepth 20000 in
theorem sL_law_1355n {d : Nat} {Q : mb_O → mb_S → Prop} {σ : mb_S} {st : List Value} {l0 l1 l2 l4 l5 l6 : Option Value} : mb_Rn d 161 1355 [l0, l1, l2, some (.null), l4, l5, l6] st σ Q = mb_Rn d 161 1356 [l0, l1, l2, some (.null), l4, l5, l6] (.null :: st) σ Q := rn_step rfl (fun _ _ => rfl)
set_option maxRecDepth 20000 in
theorem sL_law_1356 {d : Nat} {Q : mb_O → mb_S → Prop} {σ : mb_S} {st : List Value} {ls : mb_L} : mb_Rn d 161 1356 ls st σ Q = mb_Rn d 161 1357 ls (.int 0 :: st) σ Q := rn_step rfl (fun _ _ => rfl)
set_option maxRecDepth 20000 in
theorem sL_law_1357 {d : Nat} {Q : mb_O → mb_S → Prop} {σ : mb_S} {st : List Value} {ls : mb_L} {a : Nat} {j : Int32} : mb_Rn d 161 1357 ls (.int j :: .ref a :: st) σ Q = mb_gj σ a j False (fun kd _ f => if kd = 1 then mb_Rn d 161 1358 ls (.long (f j.toNatClampNeg) :: st) σ Q else False) := rn_lald rfl
set_option maxRecDepth 20000 in
theorem sL_law_1358 {d : Nat} {Q : mb_O → mb_S → Prop} {σ : mb_S} {st : List Value} {l0 l1 l2 l3 l4 l5 : Option Value} {x : Int32} : mb_Rn d 161 1358 [l0, l1, l2, l3, l4, l5, some (.int x)] st σ Q = mb_Rn d 161 1360 [l0, l1, l2, l3, l4, l5, some (.int x)] (.int x :: st) σ Q := rn_step rfl (fun _ _ => rfl)
set_option maxRecDepth 20000 in
theorem sL_law_1360 {d : Nat} {Q : mb_O → mb_S → Prop} {σ : mb_S} {st : List Value} {ls : mb_L} {x : Int32} : mb_Rn d 161 1360 ls (.int x :: st) σ Q = mb_Rn d 161 1361 ls (.long x.toInt64 :: st) σ Q := rn_step rfl (fun _ _ => rfl)
set_option maxRecDepth 20000 in
theorem sL_law_1361 {d : Nat} {Q : mb_O → mb_S → Prop} {σ : mb_S} {st : List Value} {ls : mb_L} {x z : Int64} : mb_Rn d 161 1361 ls (.long z :: .long x :: st) σ Q = mb_Rn d 161 1362 ls (.int (lg_cmp x z) :: st) σ Q := rn_step rfl (fun _ _ => rfl)
set_option maxRecDepth 20000 in
theorem sL_law_1362 {d : Nat} {Q : mb_O → mb_S → Prop} {σ : mb_S} {st : List Value} {ls : mb_L} {x : Int32} : mb_Rn d 161 1362 ls (.int x :: st) σ Q = if x = 0 then mb_Rn d 161 1367 ls st σ Q else mb_Rn d 161 1365 ls st σ Q := rn_ifb rfl (fun _ _ => rfl) beq_iff_eq
set_option maxRecDepth 20000 in
theorem sL_law_1365 {d : Nat} {Q : mb_O → mb_S → Prop} {σ : mb_S} {st : List Value} {ls : mb_L} : mb_Rn d 161 1365 ls st σ Q = mb_Rn d 161 1366 ls (.int 0 :: st) σ Q := rn_step rfl (fun _ _ => rfl)
set_option maxRecDepth 20000 in
theorem sL_law_1366 {d : Nat} {Q : mb_O → mb_S → Prop} {σ : mb_S}  {ls : mb_L} {x : Int32} : mb_Rn d 161 1366 ls [.int x] σ Q = if x = 0 ∨ x = 1 then Q (.inl (some (.int x))) σ else False := rn_zret rfl
set_option maxRecDepth 20000 in
theorem sL_law_1367 {d : Nat} {Q : mb_O → mb_S → Prop} {σ : mb_S} {st : List Value} {ls : mb_L} : mb_Rn d 161 1367 ls st σ Q = mb_Rn d 161 1642 ls st σ Q := rn_step rfl (fun _ _ => rfl)
set_option maxRecDepth 20000 in
theorem sL_law_1370 {d : Nat} {Q : mb_O → mb_S → Prop} {σ : mb_S} {st : List Value} {l0 l2 l3 l4 l5 l6 : Option Value} {a : Nat} : mb_Rn d 161 1370 [l0, some (.ref a), l2, l3, l4, l5, l6] st σ Q = mb_Rn d 161 1371 [l0, some (.ref a), l2, l3, l4, l5, l6] (.ref a :: st) σ Q := rn_step rfl (fun _ _ => rfl)
set_option maxRecDepth 20000 in
theorem sL_law_1370n {d : Nat} {Q : mb_O → mb_S → Prop} {σ : mb_S} {st : List Value} {l0 l2 l3 l4 l5 l6 : Option Value} : mb_Rn d 161 1370 [l0, some (.null), l2, l3, l4, l5, l6] st σ Q = mb_Rn d 161 1371 [l0, some (.null), l2, l3, l4, l5, l6] (.null :: st) σ Q := rn_step rfl (fun _ _ => rfl)
set_option maxRecDepth 20000 in
theorem sL_law_1371 {d : Nat} {Q : mb_O → mb_S → Prop} {σ : mb_S} {st : List Value} {l1 l2 l3 l4 l5 l6 : Option Value} {a : Nat} : mb_Rn d 161 1371 [some (.ref a), l1, l2, l3, l4, l5, l6] st σ Q = mb_Rn d 161 1372 [some (.ref a), l1, l2, l3, l4, l5, l6] (.ref a :: st) σ Q := rn_step rfl (fun _ _ => rfl)
set_option maxRecDepth 20000 in
theorem sL_law_1371n {d : Nat} {Q : mb_O → mb_S → Prop} {σ : mb_S} {st : List Value} {l1 l2 l3 l4 l5 l6 : Option Value} : mb_Rn d 161 1371 [some (.null), l1, l2, l3, l4, l5, l6] st σ Q = mb_Rn d 161 1372 [some (.null), l1, l2, l3, l4, l5, l6] (.null :: st) σ Q := rn_step rfl (fun _ _ => rfl)
set_option maxRecDepth 20000 in
theorem sL_law_1372 {d : Nat} {Q : mb_O → mb_S → Prop} {σ : mb_S} {st : List Value} {l0 l1 l2 l3 l5 l6 : Option Value} {x : Int32} : mb_Rn d 161 1372 [l0, l1, l2, l3, some (.int x), l5, l6] st σ Q = mb_Rn d 161 1374 [l0, l1, l2, l3, some (.int x), l5, l6] (.int x :: st) σ Q := rn_step rfl (fun _ _ => rfl)
set_option maxRecDepth 20000 in
theorem sL_law_1374 {d : Nat} {Q : mb_O → mb_S → Prop} {σ : mb_S} {st : List Value} {ls : mb_L} : mb_Rn d 161 1374 ls st σ Q = mb_Rn d 161 1375 ls (.int 1 :: st) σ Q := rn_step rfl (fun _ _ => rfl)
set_option maxRecDepth 20000 in
theorem sL_law_1375 {d : Nat} {Q : mb_O → mb_S → Prop} {σ : mb_S} {st : List Value} {ls : mb_L} {x z : Int32} : mb_Rn d 161 1375 ls (.int z :: .int x :: st) σ Q = mb_Rn d 161 1376 ls (.int (x + z) :: st) σ Q := rn_step rfl (fun _ _ => rfl)
set_option maxRecDepth 20000 in
theorem sL_law_1376 {d : Nat} {Q : mb_O → mb_S → Prop} {σ : mb_S} {st : List Value} {ls : mb_L} {a : Nat} {j : Int32} : mb_Rn d 161 1376 ls (.int j :: .ref a :: st) σ Q = mb_gi σ a j False (fun kd _ f => if kd = 0 ∨ kd = 9 then mb_Rn d 161 1377 ls (.int (f j.toNatClampNeg) :: st) σ Q else False) := rn_iald rfl
set_option maxRecDepth 20000 in
theorem sL_law_1377 {d : Nat} {Q : mb_O → mb_S → Prop} {σ : mb_S} {st : List Value} {l0 l1 l2 l4 l5 l6 : Option Value} {a : Nat} : mb_Rn d 161 1377 [l0, l1, l2, some (.ref a), l4, l5, l6] st σ Q = mb_Rn d 161 1378 [l0, l1, l2, some (.ref a), l4, l5, l6] (.ref a :: st) σ Q := rn_step rfl (fun _ _ => rfl)
set_option maxRecDepth 20000 in
theorem sL_law_1377n {d : Nat} {Q : mb_O → mb_S → Prop} {σ : mb_S} {st : List Value} {l0 l1 l2 l4 l5 l6 : Option Value} : mb_Rn d 161 1377 [l0, l1, l2, some (.null), l4, l5, l6] st σ Q = mb_Rn d 161 1378 [l0, l1, l2, some (.null), l4, l5, l6] (.null :: st) σ Q := rn_step rfl (fun _ _ => rfl)
set_option maxRecDepth 20000 in
theorem sL_law_1378 {d : Nat} {Q : mb_O → mb_S → Prop} {σ : mb_S} {st : List Value} {ls : mb_L} {p0 : Nat} {p1 : Int32} {p2 : Nat} (hd : 1 ≤ d) (h4 : st.length ≤ 4) : mb_Rn d 161 1378 ls (.ref p2 :: .int p1 :: .ref p0 :: st) σ Q = mb_Ex (d - 1) 157 [.ref p0, .int p1, .ref p2] σ (mb_qk d 161 1381 ls st Q) := rn_calls mb_good rfl hd rfl rfl ⟨rfl, rfl⟩ h4 ⟨Nat.le_of_ble_eq_true rfl, rfl⟩
set_option maxRecDepth 20000 in
theorem sL_law_1381 {d : Nat} {Q : mb_O → mb_S → Prop} {σ : mb_S} {st : List Value} {l0 l1 l2 l3 l4 l5 l6 : Option Value} {x : Int32} : mb_Rn d 161 1381 [l0, l1, l2, l3, l4, l5, l6] (.int x :: st) σ Q = mb_Rn d 161 1383 [l0, l1, l2, l3, l4, some (.int x), l6] st σ Q := rn_step rfl (fun _ _ => rfl)
set_option maxRecDepth 20000 in
theorem sL_law_1383 {d : Nat} {Q : mb_O → mb_S → Prop} {σ : mb_S} {st : List Value} {l0 l1 l3 l4 l5 l6 : Option Value} {a : Nat} : mb_Rn d 161 1383 [l0, l1, some (.ref a), l3, l4, l5, l6] st σ Q = mb_Rn d 161 1384 [l0, l1, some (.ref a), l3, l4, l5, l6] (.ref a :: st) σ Q := rn_step rfl (fun _ _ => rfl)
set_option maxRecDepth 20000 in
theorem sL_law_1383n {d : Nat} {Q : mb_O → mb_S → Prop} {σ : mb_S} {st : List Value} {l0 l1 l3 l4 l5 l6 : Option Value} : mb_Rn d 161 1383 [l0, l1, some (.null), l3, l4, l5, l6] st σ Q = mb_Rn d 161 1384 [l0, l1, some (.null), l3, l4, l5, l6] (.null :: st) σ Q := rn_step rfl (fun _ _ => rfl)
set_option maxRecDepth 20000 in
theorem sL_law_1384 {d : Nat} {Q : mb_O → mb_S → Prop} {σ : mb_S} {st : List Value} {l1 l2 l3 l4 l5 l6 : Option Value} {a : Nat} : mb_Rn d 161 1384 [some (.ref a), l1, l2, l3, l4, l5, l6] st σ Q = mb_Rn d 161 1385 [some (.ref a), l1, l2, l3, l4, l5, l6] (.ref a :: st) σ Q := rn_step rfl (fun _ _ => rfl)
set_option maxRecDepth 20000 in
theorem sL_law_1384n {d : Nat} {Q : mb_O → mb_S → Prop} {σ : mb_S} {st : List Value} {l1 l2 l3 l4 l5 l6 : Option Value} : mb_Rn d 161 1384 [some (.null), l1, l2, l3, l4, l5, l6] st σ Q = mb_Rn d 161 1385 [some (.null), l1, l2, l3, l4, l5, l6] (.null :: st) σ Q := rn_step rfl (fun _ _ => rfl)
set_option maxRecDepth 20000 in
theorem sL_law_1385 {d : Nat} {Q : mb_O → mb_S → Prop} {σ : mb_S} {st : List Value} {l0 l1 l2 l3 l5 l6 : Option Value} {x : Int32} : mb_Rn d 161 1385 [l0, l1, l2, l3, some (.int x), l5, l6] st σ Q = mb_Rn d 161 1387 [l0, l1, l2, l3, some (.int x), l5, l6] (.int x :: st) σ Q := rn_step rfl (fun _ _ => rfl)
set_option maxRecDepth 20000 in
theorem sL_law_1387 {d : Nat} {Q : mb_O → mb_S → Prop} {σ : mb_S} {st : List Value} {ls : mb_L} : mb_Rn d 161 1387 ls st σ Q = mb_Rn d 161 1388 ls (.int 1 :: st) σ Q := rn_step rfl (fun _ _ => rfl)
set_option maxRecDepth 20000 in
theorem sL_law_1388 {d : Nat} {Q : mb_O → mb_S → Prop} {σ : mb_S} {st : List Value} {ls : mb_L} {x z : Int32} : mb_Rn d 161 1388 ls (.int z :: .int x :: st) σ Q = mb_Rn d 161 1389 ls (.int (x + z) :: st) σ Q := rn_step rfl (fun _ _ => rfl)
set_option maxRecDepth 20000 in
theorem sL_law_1389 {d : Nat} {Q : mb_O → mb_S → Prop} {σ : mb_S} {st : List Value} {ls : mb_L} {a : Nat} {j : Int32} : mb_Rn d 161 1389 ls (.int j :: .ref a :: st) σ Q = mb_gi σ a j False (fun kd _ f => if kd = 0 ∨ kd = 9 then mb_Rn d 161 1390 ls (.int (f j.toNatClampNeg) :: st) σ Q else False) := rn_iald rfl
set_option maxRecDepth 20000 in
theorem sL_law_1390 {d : Nat} {Q : mb_O → mb_S → Prop} {σ : mb_S} {st : List Value} {ls : mb_L} {p0 : Int32} {b : Nat} (hd : 1 ≤ d) (h4 : st.length ≤ 4) : mb_Rn d 161 1390 ls (.int p0 :: .ref b :: st) σ Q = mb_gf σ b 8 False (fun _ => mb_Ex (d - 1) 132 [.ref b, .int p0] σ (mb_qx [] d 161 1393 ls st Q)) := rn_callv mb_good rfl hd rfl rfl ⟨rfl, rfl⟩ h4 ⟨Nat.le_of_ble_eq_true rfl, rfl⟩
set_option maxRecDepth 20000 in
theorem sL_law_1393 {d : Nat} {Q : mb_O → mb_S → Prop} {σ : mb_S} {st : List Value} {l0 l1 l2 l3 l4 l5 l6 : Option Value} {x : Int32} : mb_Rn d 161 1393 [l0, l1, l2, l3, l4, l5, l6] (.int x :: st) σ Q = mb_Rn d 161 1395 [l0, l1, l2, l3, l4, l5, some (.int x)] st σ Q := rn_step rfl (fun _ _ => rfl)
set_option maxRecDepth 20000 in
theorem sL_law_1395 {d : Nat} {Q : mb_O → mb_S → Prop} {σ : mb_S} {st : List Value} {l0 l1 l3 l4 l5 l6 : Option Value} {a : Nat} : mb_Rn d 161 1395 [l0, l1, some (.ref a), l3, l4, l5, l6] st σ Q = mb_Rn d 161 1396 [l0, l1, some (.ref a), l3, l4, l5, l6] (.ref a :: st) σ Q := rn_step rfl (fun _ _ => rfl)
set_option maxRecDepth 20000 in
theorem sL_law_1395n {d : Nat} {Q : mb_O → mb_S → Prop} {σ : mb_S} {st : List Value} {l0 l1 l3 l4 l5 l6 : Option Value} : mb_Rn d 161 1395 [l0, l1, some (.null), l3, l4, l5, l6] st σ Q = mb_Rn d 161 1396 [l0, l1, some (.null), l3, l4, l5, l6] (.null :: st) σ Q := rn_step rfl (fun _ _ => rfl)
set_option maxRecDepth 20000 in
theorem sL_law_1396 {d : Nat} {Q : mb_O → mb_S → Prop} {σ : mb_S} {st : List Value} {ls : mb_L} {b : Nat} (hd : 1 ≤ d) (h4 : st.length ≤ 4) : mb_Rn d 161 1396 ls (.ref b :: st) σ Q = mb_gf σ b 8 False (fun _ => mb_Ex (d - 1) 85 [.ref b] σ (mb_qx [] d 161 1399 ls st Q)) := rn_callv mb_good rfl hd rfl rfl ⟨rfl, rfl⟩ h4 ⟨Nat.le_of_ble_eq_true rfl, rfl⟩
set_option maxRecDepth 20000 in
theorem sL_law_1399 {d : Nat} {Q : mb_O → mb_S → Prop} {σ : mb_S} {st : List Value} {l0 l1 l2 l3 l4 l6 : Option Value} {x : Int32} : mb_Rn d 161 1399 [l0, l1, l2, l3, l4, some (.int x), l6] st σ Q = mb_Rn d 161 1401 [l0, l1, l2, l3, l4, some (.int x), l6] (.int x :: st) σ Q := rn_step rfl (fun _ _ => rfl)
set_option maxRecDepth 20000 in
theorem sL_law_1401 {d : Nat} {Q : mb_O → mb_S → Prop} {σ : mb_S} {st : List Value} {ls : mb_L} {x z : Int32} : mb_Rn d 161 1401 ls (.int z :: .int x :: st) σ Q = if x = z then mb_Rn d 161 1406 ls st σ Q else mb_Rn d 161 1404 ls st σ Q := rn_ifb rfl (fun _ _ => rfl) beq_iff_eq
set_option maxRecDepth 20000 in
theorem sL_law_1404 {d : Nat} {Q : mb_O → mb_S → Prop} {σ : mb_S} {st : List Value} {ls : mb_L} : mb_Rn d 161 1404 ls st σ Q = mb_Rn d 161 1405 ls (.int 0 :: st) σ Q := rn_step rfl (fun _ _ => rfl)
set_option maxRecDepth 20000 in
theorem sL_law_1405 {d : Nat} {Q : mb_O → mb_S → Prop} {σ : mb_S}  {ls : mb_L} {x : Int32} : mb_Rn d 161 1405 ls [.int x] σ Q = if x = 0 ∨ x = 1 then Q (.inl (some (.int x))) σ else False := rn_zret rfl
set_option maxRecDepth 20000 in
theorem sL_law_1406 {d : Nat} {Q : mb_O → mb_S → Prop} {σ : mb_S} {st : List Value} {l0 l1 l2 l3 l4 l6 : Option Value} {x : Int32} : mb_Rn d 161 1406 [l0, l1, l2, l3, l4, some (.int x), l6] st σ Q = mb_Rn d 161 1408 [l0, l1, l2, l3, l4, some (.int x), l6] (.int x :: st) σ Q := rn_step rfl (fun _ _ => rfl)
set_option maxRecDepth 20000 in
theorem sL_law_1408 {d : Nat} {Q : mb_O → mb_S → Prop} {σ : mb_S} {st : List Value} {ls : mb_L} {x : Int32} : mb_Rn d 161 1408 ls (.int x :: st) σ Q = if x = 0 then mb_Rn d 161 1411 ls st σ Q else mb_Rn d 161 1423 ls st σ Q := rn_ifn rfl (fun _ _ => rfl) bne_iff_ne
set_option maxRecDepth 20000 in
theorem sL_law_1411 {d : Nat} {Q : mb_O → mb_S → Prop} {σ : mb_S} {st : List Value} {l0 l1 l2 l4 l5 l6 : Option Value} {a : Nat} : mb_Rn d 161 1411 [l0, l1, l2, some (.ref a), l4, l5, l6] st σ Q = mb_Rn d 161 1412 [l0, l1, l2, some (.ref a), l4, l5, l6] (.ref a :: st) σ Q := rn_step rfl (fun _ _ => rfl)
set_option maxRecDepth 20000 in
theorem sL_law_1411n {d : Nat} {Q : mb_O → mb_S → Prop} {σ : mb_S} {st : List Value} {l0 l1 l2 l4 l5 l6 : Option Value} : mb_Rn d 161 1411 [l0, l1, l2, some (.null), l4, l5, l6] st σ Q = mb_Rn d 161 1412 [l0, l1, l2, some (.null), l4, l5, l6] (.null :: st) σ Q := rn_step rfl (fun _ _ => rfl)
set_option maxRecDepth 20000 in
theorem sL_law_1412 {d : Nat} {Q : mb_O → mb_S → Prop} {σ : mb_S} {st : List Value} {ls : mb_L} : mb_Rn d 161 1412 ls st σ Q = mb_Rn d 161 1413 ls (.int 0 :: st) σ Q := rn_step rfl (fun _ _ => rfl)
set_option maxRecDepth 20000 in
theorem sL_law_1413 {d : Nat} {Q : mb_O → mb_S → Prop} {σ : mb_S} {st : List Value} {ls : mb_L} {a : Nat} {j : Int32} : mb_Rn d 161 1413 ls (.int j :: .ref a :: st) σ Q = mb_gj σ a j False (fun kd _ f => if kd = 1 then mb_Rn d 161 1414 ls (.long (f j.toNatClampNeg) :: st) σ Q else False) := rn_lald rfl
set_option maxRecDepth 20000 in
theorem sL_law_1414 {d : Nat} {Q : mb_O → mb_S → Prop} {σ : mb_S} {st : List Value} {l0 l1 l2 l3 l4 l5 : Option Value} {x : Int32} : mb_Rn d 161 1414 [l0, l1, l2, l3, l4, l5, some (.int x)] st σ Q = mb_Rn d 161 1416 [l0, l1, l2, l3, l4, l5, some (.int x)] (.int x :: st) σ Q := rn_step rfl (fun _ _ => rfl)
set_option maxRecDepth 20000 in
theorem sL_law_1416 {d : Nat} {Q : mb_O → mb_S → Prop} {σ : mb_S} {st : List Value} {ls : mb_L} {x : Int32} : mb_Rn d 161 1416 ls (.int x :: st) σ Q = mb_Rn d 161 1417 ls (.long x.toInt64 :: st) σ Q := rn_step rfl (fun _ _ => rfl)
set_option maxRecDepth 20000 in
theorem sL_law_1417 {d : Nat} {Q : mb_O → mb_S → Prop} {σ : mb_S} {st : List Value} {ls : mb_L} {x z : Int64} : mb_Rn d 161 1417 ls (.long z :: .long x :: st) σ Q = mb_Rn d 161 1418 ls (.int (lg_cmp x z) :: st) σ Q := rn_step rfl (fun _ _ => rfl)
set_option maxRecDepth 20000 in
theorem sL_law_1418 {d : Nat} {Q : mb_O → mb_S → Prop} {σ : mb_S} {st : List Value} {ls : mb_L} {x : Int32} : mb_Rn d 161 1418 ls (.int x :: st) σ Q = if x = 0 then mb_Rn d 161 1423 ls st σ Q else mb_Rn d 161 1421 ls st σ Q := rn_ifb rfl (fun _ _ => rfl) beq_iff_eq
set_option maxRecDepth 20000 in
theorem sL_law_1421 {d : Nat} {Q : mb_O → mb_S → Prop} {σ : mb_S} {st : List Value} {ls : mb_L} : mb_Rn d 161 1421 ls st σ Q = mb_Rn d 161 1422 ls (.int 0 :: st) σ Q := rn_step rfl (fun _ _ => rfl)
set_option maxRecDepth 20000 in
theorem sL_law_1422 {d : Nat} {Q : mb_O → mb_S → Prop} {σ : mb_S}  {ls : mb_L} {x : Int32} : mb_Rn d 161 1422 ls [.int x] σ Q = if x = 0 ∨ x = 1 then Q (.inl (some (.int x))) σ else False := rn_zret rfl
set_option maxRecDepth 20000 in
theorem sL_law_1423 {d : Nat} {Q : mb_O → mb_S → Prop} {σ : mb_S} {st : List Value} {ls : mb_L} : mb_Rn d 161 1423 ls st σ Q = mb_Rn d 161 1642 ls st σ Q := rn_step rfl (fun _ _ => rfl)
set_option maxRecDepth 20000 in
theorem sL_law_1426 {d : Nat} {Q : mb_O → mb_S → Prop} {σ : mb_S} {st : List Value} {l0 l2 l3 l4 l5 l6 : Option Value} {a : Nat} : mb_Rn d 161 1426 [l0, some (.ref a), l2, l3, l4, l5, l6] st σ Q = mb_Rn d 161 1427 [l0, some (.ref a), l2, l3, l4, l5, l6] (.ref a :: st) σ Q := rn_step rfl (fun _ _ => rfl)
set_option maxRecDepth 20000 in
theorem sL_law_1426n {d : Nat} {Q : mb_O → mb_S → Prop} {σ : mb_S} {st : List Value} {l0 l2 l3 l4 l5 l6 : Option Value} : mb_Rn d 161 1426 [l0, some (.null), l2, l3, l4, l5, l6] st σ Q = mb_Rn d 161 1427 [l0, some (.null), l2, l3, l4, l5, l6] (.null :: st) σ Q := rn_step rfl (fun _ _ => rfl)
set_option maxRecDepth 20000 in
theorem sL_law_1427 {d : Nat} {Q : mb_O → mb_S → Prop} {σ : mb_S} {st : List Value} {l1 l2 l3 l4 l5 l6 : Option Value} {a : Nat} : mb_Rn d 161 1427 [some (.ref a), l1, l2, l3, l4, l5, l6] st σ Q = mb_Rn d 161 1428 [some (.ref a), l1, l2, l3, l4, l5, l6] (.ref a :: st) σ Q := rn_step rfl (fun _ _ => rfl)
set_option maxRecDepth 20000 in
theorem sL_law_1427n {d : Nat} {Q : mb_O → mb_S → Prop} {σ : mb_S} {st : List Value} {l1 l2 l3 l4 l5 l6 : Option Value} : mb_Rn d 161 1427 [some (.null), l1, l2, l3, l4, l5, l6] st σ Q = mb_Rn d 161 1428 [some (.null), l1, l2, l3, l4, l5, l6] (.null :: st) σ Q := rn_step rfl (fun _ _ => rfl)
set_option maxRecDepth 20000 in
theorem sL_law_1428 {d : Nat} {Q : mb_O → mb_S → Prop} {σ : mb_S} {st : List Value} {l0 l1 l2 l3 l5 l6 : Option Value} {x : Int32} : mb_Rn d 161 1428 [l0, l1, l2, l3, some (.int x), l5, l6] st σ Q = mb_Rn d 161 1430 [l0, l1, l2, l3, some (.int x), l5, l6] (.int x :: st) σ Q := rn_step rfl (fun _ _ => rfl)
set_option maxRecDepth 20000 in
theorem sL_law_1430 {d : Nat} {Q : mb_O → mb_S → Prop} {σ : mb_S} {st : List Value} {ls : mb_L} : mb_Rn d 161 1430 ls st σ Q = mb_Rn d 161 1431 ls (.int 1 :: st) σ Q := rn_step rfl (fun _ _ => rfl)
set_option maxRecDepth 20000 in
theorem sL_law_1431 {d : Nat} {Q : mb_O → mb_S → Prop} {σ : mb_S} {st : List Value} {ls : mb_L} {x z : Int32} : mb_Rn d 161 1431 ls (.int z :: .int x :: st) σ Q = mb_Rn d 161 1432 ls (.int (x + z) :: st) σ Q := rn_step rfl (fun _ _ => rfl)
set_option maxRecDepth 20000 in
theorem sL_law_1432 {d : Nat} {Q : mb_O → mb_S → Prop} {σ : mb_S} {st : List Value} {ls : mb_L} {a : Nat} {j : Int32} : mb_Rn d 161 1432 ls (.int j :: .ref a :: st) σ Q = mb_gi σ a j False (fun kd _ f => if kd = 0 ∨ kd = 9 then mb_Rn d 161 1433 ls (.int (f j.toNatClampNeg) :: st) σ Q else False) := rn_iald rfl
set_option maxRecDepth 20000 in
theorem sL_law_1433 {d : Nat} {Q : mb_O → mb_S → Prop} {σ : mb_S} {st : List Value} {l1 l2 l3 l4 l5 l6 : Option Value} {a : Nat} : mb_Rn d 161 1433 [some (.ref a), l1, l2, l3, l4, l5, l6] st σ Q = mb_Rn d 161 1434 [some (.ref a), l1, l2, l3, l4, l5, l6] (.ref a :: st) σ Q := rn_step rfl (fun _ _ => rfl)
set_option maxRecDepth 20000 in
theorem sL_law_1433n {d : Nat} {Q : mb_O → mb_S → Prop} {σ : mb_S} {st : List Value} {l1 l2 l3 l4 l5 l6 : Option Value} : mb_Rn d 161 1433 [some (.null), l1, l2, l3, l4, l5, l6] st σ Q = mb_Rn d 161 1434 [some (.null), l1, l2, l3, l4, l5, l6] (.null :: st) σ Q := rn_step rfl (fun _ _ => rfl)
set_option maxRecDepth 20000 in
theorem sL_law_1434 {d : Nat} {Q : mb_O → mb_S → Prop} {σ : mb_S} {st : List Value} {l0 l1 l2 l3 l5 l6 : Option Value} {x : Int32} : mb_Rn d 161 1434 [l0, l1, l2, l3, some (.int x), l5, l6] st σ Q = mb_Rn d 161 1436 [l0, l1, l2, l3, some (.int x), l5, l6] (.int x :: st) σ Q := rn_step rfl (fun _ _ => rfl)
set_option maxRecDepth 20000 in
theorem sL_law_1436 {d : Nat} {Q : mb_O → mb_S → Prop} {σ : mb_S} {st : List Value} {ls : mb_L} : mb_Rn d 161 1436 ls st σ Q = mb_Rn d 161 1437 ls (.int 2 :: st) σ Q := rn_step rfl (fun _ _ => rfl)
set_option maxRecDepth 20000 in
theorem sL_law_1437 {d : Nat} {Q : mb_O → mb_S → Prop} {σ : mb_S} {st : List Value} {ls : mb_L} {x z : Int32} : mb_Rn d 161 1437 ls (.int z :: .int x :: st) σ Q = mb_Rn d 161 1438 ls (.int (x + z) :: st) σ Q := rn_step rfl (fun _ _ => rfl)
set_option maxRecDepth 20000 in
theorem sL_law_1438 {d : Nat} {Q : mb_O → mb_S → Prop} {σ : mb_S} {st : List Value} {ls : mb_L} {a : Nat} {j : Int32} : mb_Rn d 161 1438 ls (.int j :: .ref a :: st) σ Q = mb_gi σ a j False (fun kd _ f => if kd = 0 ∨ kd = 9 then mb_Rn d 161 1439 ls (.int (f j.toNatClampNeg) :: st) σ Q else False) := rn_iald rfl
set_option maxRecDepth 20000 in
theorem sL_law_1439 {d : Nat} {Q : mb_O → mb_S → Prop} {σ : mb_S} {st : List Value} {l1 l2 l3 l4 l5 l6 : Option Value} {a : Nat} : mb_Rn d 161 1439 [some (.ref a), l1, l2, l3, l4, l5, l6] st σ Q = mb_Rn d 161 1440 [some (.ref a), l1, l2, l3, l4, l5, l6] (.ref a :: st) σ Q := rn_step rfl (fun _ _ => rfl)
set_option maxRecDepth 20000 in
theorem sL_law_1439n {d : Nat} {Q : mb_O → mb_S → Prop} {σ : mb_S} {st : List Value} {l1 l2 l3 l4 l5 l6 : Option Value} : mb_Rn d 161 1439 [some (.null), l1, l2, l3, l4, l5, l6] st σ Q = mb_Rn d 161 1440 [some (.null), l1, l2, l3, l4, l5, l6] (.null :: st) σ Q := rn_step rfl (fun _ _ => rfl)
set_option maxRecDepth 20000 in
theorem sL_law_1440 {d : Nat} {Q : mb_O → mb_S → Prop} {σ : mb_S} {st : List Value} {l0 l1 l2 l3 l5 l6 : Option Value} {x : Int32} : mb_Rn d 161 1440 [l0, l1, l2, l3, some (.int x), l5, l6] st σ Q = mb_Rn d 161 1442 [l0, l1, l2, l3, some (.int x), l5, l6] (.int x :: st) σ Q := rn_step rfl (fun _ _ => rfl)
set_option maxRecDepth 20000 in
theorem sL_law_1442 {d : Nat} {Q : mb_O → mb_S → Prop} {σ : mb_S} {st : List Value} {ls : mb_L} : mb_Rn d 161 1442 ls st σ Q = mb_Rn d 161 1443 ls (.int 3 :: st) σ Q := rn_step rfl (fun _ _ => rfl)
set_option maxRecDepth 20000 in
theorem sL_law_1443 {d : Nat} {Q : mb_O → mb_S → Prop} {σ : mb_S} {st : List Value} {ls : mb_L} {x z : Int32} : mb_Rn d 161 1443 ls (.int z :: .int x :: st) σ Q = mb_Rn d 161 1444 ls (.int (x + z) :: st) σ Q := rn_step rfl (fun _ _ => rfl)
set_option maxRecDepth 20000 in
theorem sL_law_1444 {d : Nat} {Q : mb_O → mb_S → Prop} {σ : mb_S} {st : List Value} {ls : mb_L} {a : Nat} {j : Int32} : mb_Rn d 161 1444 ls (.int j :: .ref a :: st) σ Q = mb_gi σ a j False (fun kd _ f => if kd = 0 ∨ kd = 9 then mb_Rn d 161 1445 ls (.int (f j.toNatClampNeg) :: st) σ Q else False) := rn_iald rfl
set_option maxRecDepth 20000 in
theorem sL_law_1445 {d : Nat} {Q : mb_O → mb_S → Prop} {σ : mb_S} {st : List Value} {l0 l1 l2 l4 l5 l6 : Option Value} {a : Nat} : mb_Rn d 161 1445 [l0, l1, l2, some (.ref a), l4, l5, l6] st σ Q = mb_Rn d 161 1446 [l0, l1, l2, some (.ref a), l4, l5, l6] (.ref a :: st) σ Q := rn_step rfl (fun _ _ => rfl)
set_option maxRecDepth 20000 in
theorem sL_law_1445n {d : Nat} {Q : mb_O → mb_S → Prop} {σ : mb_S} {st : List Value} {l0 l1 l2 l4 l5 l6 : Option Value} : mb_Rn d 161 1445 [l0, l1, l2, some (.null), l4, l5, l6] st σ Q = mb_Rn d 161 1446 [l0, l1, l2, some (.null), l4, l5, l6] (.null :: st) σ Q := rn_step rfl (fun _ _ => rfl)
set_option maxRecDepth 20000 in
theorem sL_law_1446 {d : Nat} {Q : mb_O → mb_S → Prop} {σ : mb_S} {st : List Value} {ls : mb_L} {p0 : Nat} {p1 : Int32} {p2 : Int32} {p3 : Int32} {p4 : Nat} (hd : 1 ≤ d) (h4 : st.length ≤ 4) : mb_Rn d 161 1446 ls (.ref p4 :: .int p3 :: .int p2 :: .int p1 :: .ref p0 :: st) σ Q = mb_Ex (d - 1) 158 [.ref p0, .int p1, .int p2, .int p3, .ref p4] σ (mb_qk d 161 1449 ls st Q) := rn_calls mb_good rfl hd rfl rfl ⟨rfl, rfl⟩ h4 ⟨Nat.le_of_ble_eq_true rfl, rfl⟩
set_option maxRecDepth 20000 in
theorem sL_law_1449 {d : Nat} {Q : mb_O → mb_S → Prop} {σ : mb_S} {st : List Value} {l0 l1 l2 l3 l4 l5 l6 : Option Value} {x : Int32} : mb_Rn d 161 1449 [l0, l1, l2, l3, l4, l5, l6] (.int x :: st) σ Q = mb_Rn d 161 1451 [l0, l1, l2, l3, l4, some (.int x), l6] st σ Q := rn_step rfl (fun _ _ => rfl)
set_option maxRecDepth 20000 in
theorem sL_law_1451 {d : Nat} {Q : mb_O → mb_S → Prop} {σ : mb_S} {st : List Value} {l0 l1 l3 l4 l5 l6 : Option Value} {a : Nat} : mb_Rn d 161 1451 [l0, l1, some (.ref a), l3, l4, l5, l6] st σ Q = mb_Rn d 161 1452 [l0, l1, some (.ref a), l3, l4, l5, l6] (.ref a :: st) σ Q := rn_step rfl (fun _ _ => rfl)
set_option maxRecDepth 20000 in
theorem sL_law_1451n {d : Nat} {Q : mb_O → mb_S → Prop} {σ : mb_S} {st : List Value} {l0 l1 l3 l4 l5 l6 : Option Value} : mb_Rn d 161 1451 [l0, l1, some (.null), l3, l4, l5, l6] st σ Q = mb_Rn d 161 1452 [l0, l1, some (.null), l3, l4, l5, l6] (.null :: st) σ Q := rn_step rfl (fun _ _ => rfl)
set_option maxRecDepth 20000 in
theorem sL_law_1452 {d : Nat} {Q : mb_O → mb_S → Prop} {σ : mb_S} {st : List Value} {l1 l2 l3 l4 l5 l6 : Option Value} {a : Nat} : mb_Rn d 161 1452 [some (.ref a), l1, l2, l3, l4, l5, l6] st σ Q = mb_Rn d 161 1453 [some (.ref a), l1, l2, l3, l4, l5, l6] (.ref a :: st) σ Q := rn_step rfl (fun _ _ => rfl)
set_option maxRecDepth 20000 in
theorem sL_law_1452n {d : Nat} {Q : mb_O → mb_S → Prop} {σ : mb_S} {st : List Value} {l1 l2 l3 l4 l5 l6 : Option Value} : mb_Rn d 161 1452 [some (.null), l1, l2, l3, l4, l5, l6] st σ Q = mb_Rn d 161 1453 [some (.null), l1, l2, l3, l4, l5, l6] (.null :: st) σ Q := rn_step rfl (fun _ _ => rfl)
set_option maxRecDepth 20000 in
theorem sL_law_1453 {d : Nat} {Q : mb_O → mb_S → Prop} {σ : mb_S} {st : List Value} {l0 l1 l2 l3 l5 l6 : Option Value} {x : Int32} : mb_Rn d 161 1453 [l0, l1, l2, l3, some (.int x), l5, l6] st σ Q = mb_Rn d 161 1455 [l0, l1, l2, l3, some (.int x), l5, l6] (.int x :: st) σ Q := rn_step rfl (fun _ _ => rfl)
set_option maxRecDepth 20000 in
theorem sL_law_1455 {d : Nat} {Q : mb_O → mb_S → Prop} {σ : mb_S} {st : List Value} {ls : mb_L} : mb_Rn d 161 1455 ls st σ Q = mb_Rn d 161 1456 ls (.int 1 :: st) σ Q := rn_step rfl (fun _ _ => rfl)
set_option maxRecDepth 20000 in
theorem sL_law_1456 {d : Nat} {Q : mb_O → mb_S → Prop} {σ : mb_S} {st : List Value} {ls : mb_L} {x z : Int32} : mb_Rn d 161 1456 ls (.int z :: .int x :: st) σ Q = mb_Rn d 161 1457 ls (.int (x + z) :: st) σ Q := rn_step rfl (fun _ _ => rfl)
set_option maxRecDepth 20000 in
theorem sL_law_1457 {d : Nat} {Q : mb_O → mb_S → Prop} {σ : mb_S} {st : List Value} {ls : mb_L} {a : Nat} {j : Int32} : mb_Rn d 161 1457 ls (.int j :: .ref a :: st) σ Q = mb_gi σ a j False (fun kd _ f => if kd = 0 ∨ kd = 9 then mb_Rn d 161 1458 ls (.int (f j.toNatClampNeg) :: st) σ Q else False) := rn_iald rfl
set_option maxRecDepth 20000 in
theorem sL_law_1458 {d : Nat} {Q : mb_O → mb_S → Prop} {σ : mb_S} {st : List Value} {l1 l2 l3 l4 l5 l6 : Option Value} {a : Nat} : mb_Rn d 161 1458 [some (.ref a), l1, l2, l3, l4, l5, l6] st σ Q = mb_Rn d 161 1459 [some (.ref a), l1, l2, l3, l4, l5, l6] (.ref a :: st) σ Q := rn_step rfl (fun _ _ => rfl)
set_option maxRecDepth 20000 in
theorem sL_law_1458n {d : Nat} {Q : mb_O → mb_S → Prop} {σ : mb_S} {st : List Value} {l1 l2 l3 l4 l5 l6 : Option Value} : mb_Rn d 161 1458 [some (.null), l1, l2, l3, l4, l5, l6] st σ Q = mb_Rn d 161 1459 [some (.null), l1, l2, l3, l4, l5, l6] (.null :: st) σ Q := rn_step rfl (fun _ _ => rfl)
set_option maxRecDepth 20000 in
theorem sL_law_1459 {d : Nat} {Q : mb_O → mb_S → Prop} {σ : mb_S} {st : List Value} {l0 l1 l2 l3 l5 l6 : Option Value} {x : Int32} : mb_Rn d 161 1459 [l0, l1, l2, l3, some (.int x), l5, l6] st σ Q = mb_Rn d 161 1461 [l0, l1, l2, l3, some (.int x), l5, l6] (.int x :: st) σ Q := rn_step rfl (fun _ _ => rfl)
set_option maxRecDepth 20000 in
theorem sL_law_1461 {d : Nat} {Q : mb_O → mb_S → Prop} {σ : mb_S} {st : List Value} {ls : mb_L} : mb_Rn d 161 1461 ls st σ Q = mb_Rn d 161 1462 ls (.int 2 :: st) σ Q := rn_step rfl (fun _ _ => rfl)
set_option maxRecDepth 20000 in
theorem sL_law_1462 {d : Nat} {Q : mb_O → mb_S → Prop} {σ : mb_S} {st : List Value} {ls : mb_L} {x z : Int32} : mb_Rn d 161 1462 ls (.int z :: .int x :: st) σ Q = mb_Rn d 161 1463 ls (.int (x + z) :: st) σ Q := rn_step rfl (fun _ _ => rfl)
set_option maxRecDepth 20000 in
theorem sL_law_1463 {d : Nat} {Q : mb_O → mb_S → Prop} {σ : mb_S} {st : List Value} {ls : mb_L} {a : Nat} {j : Int32} : mb_Rn d 161 1463 ls (.int j :: .ref a :: st) σ Q = mb_gi σ a j False (fun kd _ f => if kd = 0 ∨ kd = 9 then mb_Rn d 161 1464 ls (.int (f j.toNatClampNeg) :: st) σ Q else False) := rn_iald rfl
set_option maxRecDepth 20000 in
theorem sL_law_1464 {d : Nat} {Q : mb_O → mb_S → Prop} {σ : mb_S} {st : List Value} {l1 l2 l3 l4 l5 l6 : Option Value} {a : Nat} : mb_Rn d 161 1464 [some (.ref a), l1, l2, l3, l4, l5, l6] st σ Q = mb_Rn d 161 1465 [some (.ref a), l1, l2, l3, l4, l5, l6] (.ref a :: st) σ Q := rn_step rfl (fun _ _ => rfl)
set_option maxRecDepth 20000 in
theorem sL_law_1464n {d : Nat} {Q : mb_O → mb_S → Prop} {σ : mb_S} {st : List Value} {l1 l2 l3 l4 l5 l6 : Option Value} : mb_Rn d 161 1464 [some (.null), l1, l2, l3, l4, l5, l6] st σ Q = mb_Rn d 161 1465 [some (.null), l1, l2, l3, l4, l5, l6] (.null :: st) σ Q := rn_step rfl (fun _ _ => rfl)
set_option maxRecDepth 20000 in
theorem sL_law_1465 {d : Nat} {Q : mb_O → mb_S → Prop} {σ : mb_S} {st : List Value} {l0 l1 l2 l3 l5 l6 : Option Value} {x : Int32} : mb_Rn d 161 1465 [l0, l1, l2, l3, some (.int x), l5, l6] st σ Q = mb_Rn d 161 1467 [l0, l1, l2, l3, some (.int x), l5, l6] (.int x :: st) σ Q := rn_step rfl (fun _ _ => rfl)
set_option maxRecDepth 20000 in
theorem sL_law_1467 {d : Nat} {Q : mb_O → mb_S → Prop} {σ : mb_S} {st : List Value} {ls : mb_L} : mb_Rn d 161 1467 ls st σ Q = mb_Rn d 161 1468 ls (.int 3 :: st) σ Q := rn_step rfl (fun _ _ => rfl)
set_option maxRecDepth 20000 in
theorem sL_law_1468 {d : Nat} {Q : mb_O → mb_S → Prop} {σ : mb_S} {st : List Value} {ls : mb_L} {x z : Int32} : mb_Rn d 161 1468 ls (.int z :: .int x :: st) σ Q = mb_Rn d 161 1469 ls (.int (x + z) :: st) σ Q := rn_step rfl (fun _ _ => rfl)
set_option maxRecDepth 20000 in
theorem sL_law_1469 {d : Nat} {Q : mb_O → mb_S → Prop} {σ : mb_S} {st : List Value} {ls : mb_L} {a : Nat} {j : Int32} : mb_Rn d 161 1469 ls (.int j :: .ref a :: st) σ Q = mb_gi σ a j False (fun kd _ f => if kd = 0 ∨ kd = 9 then mb_Rn d 161 1470 ls (.int (f j.toNatClampNeg) :: st) σ Q else False) := rn_iald rfl
set_option maxRecDepth 20000 in
theorem sL_law_1470 {d : Nat} {Q : mb_O → mb_S → Prop} {σ : mb_S} {st : List Value} {ls : mb_L} {p0 : Int32} {p1 : Int32} {p2 : Int32} {b : Nat} (hd : 1 ≤ d) (h4 : st.length ≤ 4) : mb_Rn d 161 1470 ls (.int p2 :: .int p1 :: .int p0 :: .ref b :: st) σ Q = mb_gf σ b 8 False (fun _ => mb_Ex (d - 1) 135 [.ref b, .int p0, .int p1, .int p2] σ (mb_qx [] d 161 1473 ls st Q)) := rn_callv mb_good rfl hd rfl rfl ⟨rfl, rfl⟩ h4 ⟨Nat.le_of_ble_eq_true rfl, rfl⟩
set_option maxRecDepth 20000 in
theorem sL_law_1473 {d : Nat} {Q : mb_O → mb_S → Prop} {σ : mb_S} {st : List Value} {l0 l1 l2 l3 l4 l5 l6 : Option Value} {x : Int32} : mb_Rn d 161 1473 [l0, l1, l2, l3, l4, l5, l6] (.int x :: st) σ Q = mb_Rn d 161 1475 [l0, l1, l2, l3, l4, l5, some (.int x)] st σ Q := rn_step rfl (fun _ _ => rfl)
set_option maxRecDepth 20000 in
theorem sL_law_1475 {d : Nat} {Q : mb_O → mb_S → Prop} {σ : mb_S} {st : List Value} {l0 l1 l3 l4 l5 l6 : Option Value} {a : Nat} : mb_Rn d 161 1475 [l0, l1, some (.ref a), l3, l4, l5, l6] st σ Q = mb_Rn d 161 1476 [l0, l1, some (.ref a), l3, l4, l5, l6] (.ref a :: st) σ Q := rn_step rfl (fun _ _ => rfl)
set_option maxRecDepth 20000 in
theorem sL_law_1475n {d : Nat} {Q : mb_O → mb_S → Prop} {σ : mb_S} {st : List Value} {l0 l1 l3 l4 l5 l6 : Option Value} : mb_Rn d 161 1475 [l0, l1, some (.null), l3, l4, l5, l6] st σ Q = mb_Rn d 161 1476 [l0, l1, some (.null), l3, l4, l5, l6] (.null :: st) σ Q := rn_step rfl (fun _ _ => rfl)
set_option maxRecDepth 20000 in
theorem sL_law_1476 {d : Nat} {Q : mb_O → mb_S → Prop} {σ : mb_S} {st : List Value} {ls : mb_L} {b : Nat} (hd : 1 ≤ d) (h4 : st.length ≤ 4) : mb_Rn d 161 1476 ls (.ref b :: st) σ Q = mb_gf σ b 8 False (fun _ => mb_Ex (d - 1) 85 [.ref b] σ (mb_qx [] d 161 1479 ls st Q)) := rn_callv mb_good rfl hd rfl rfl ⟨rfl, rfl⟩ h4 ⟨Nat.le_of_ble_eq_true rfl, rfl⟩
set_option maxRecDepth 20000 in
theorem sL_law_1479 {d : Nat} {Q : mb_O → mb_S → Prop} {σ : mb_S} {st : List Value} {l0 l1 l2 l3 l4 l6 : Option Value} {x : Int32} : mb_Rn d 161 1479 [l0, l1, l2, l3, l4, some (.int x), l6] st σ Q = mb_Rn d 161 1481 [l0, l1, l2, l3, l4, some (.int x), l6] (.int x :: st) σ Q := rn_step rfl (fun _ _ => rfl)
set_option maxRecDepth 20000 in
theorem sL_law_1481 {d : Nat} {Q : mb_O → mb_S → Prop} {σ : mb_S} {st : List Value} {ls : mb_L} {x z : Int32} : mb_Rn d 161 1481 ls (.int z :: .int x :: st) σ Q = if x = z then mb_Rn d 161 1486 ls st σ Q else mb_Rn d 161 1484 ls st σ Q := rn_ifb rfl (fun _ _ => rfl) beq_iff_eq
set_option maxRecDepth 20000 in
theorem sL_law_1484 {d : Nat} {Q : mb_O → mb_S → Prop} {σ : mb_S} {st : List Value} {ls : mb_L} : mb_Rn d 161 1484 ls st σ Q = mb_Rn d 161 1485 ls (.int 0 :: st) σ Q := rn_step rfl (fun _ _ => rfl)
set_option maxRecDepth 20000 in
theorem sL_law_1485 {d : Nat} {Q : mb_O → mb_S → Prop} {σ : mb_S}  {ls : mb_L} {x : Int32} : mb_Rn d 161 1485 ls [.int x] σ Q = if x = 0 ∨ x = 1 then Q (.inl (some (.int x))) σ else False := rn_zret rfl
set_option maxRecDepth 20000 in
theorem sL_law_1486 {d : Nat} {Q : mb_O → mb_S → Prop} {σ : mb_S} {st : List Value} {l0 l1 l2 l3 l4 l6 : Option Value} {x : Int32} : mb_Rn d 161 1486 [l0, l1, l2, l3, l4, some (.int x), l6] st σ Q = mb_Rn d 161 1488 [l0, l1, l2, l3, l4, some (.int x), l6] (.int x :: st) σ Q := rn_step rfl (fun _ _ => rfl)
set_option maxRecDepth 20000 in
theorem sL_law_1488 {d : Nat} {Q : mb_O → mb_S → Prop} {σ : mb_S} {st : List Value} {ls : mb_L} {x : Int32} : mb_Rn d 161 1488 ls (.int x :: st) σ Q = if x = 0 then mb_Rn d 161 1491 ls st σ Q else mb_Rn d 161 1503 ls st σ Q := rn_ifn rfl (fun _ _ => rfl) bne_iff_ne
set_option maxRecDepth 20000 in
theorem sL_law_1491 {d : Nat} {Q : mb_O → mb_S → Prop} {σ : mb_S} {st : List Value} {l0 l1 l2 l4 l5 l6 : Option Value} {a : Nat} : mb_Rn d 161 1491 [l0, l1, l2, some (.ref a), l4, l5, l6] st σ Q = mb_Rn d 161 1492 [l0, l1, l2, some (.ref a), l4, l5, l6] (.ref a :: st) σ Q := rn_step rfl (fun _ _ => rfl)
set_option maxRecDepth 20000 in
theorem sL_law_1491n {d : Nat} {Q : mb_O → mb_S → Prop} {σ : mb_S} {st : List Value} {l0 l1 l2 l4 l5 l6 : Option Value} : mb_Rn d 161 1491 [l0, l1, l2, some (.null), l4, l5, l6] st σ Q = mb_Rn d 161 1492 [l0, l1, l2, some (.null), l4, l5, l6] (.null :: st) σ Q := rn_step rfl (fun _ _ => rfl)
set_option maxRecDepth 20000 in
theorem sL_law_1492 {d : Nat} {Q : mb_O → mb_S → Prop} {σ : mb_S} {st : List Value} {ls : mb_L} : mb_Rn d 161 1492 ls st σ Q = mb_Rn d 161 1493 ls (.int 0 :: st) σ Q := rn_step rfl (fun _ _ => rfl)
set_option maxRecDepth 20000 in
theorem sL_law_1493 {d : Nat} {Q : mb_O → mb_S → Prop} {σ : mb_S} {st : List Value} {ls : mb_L} {a : Nat} {j : Int32} : mb_Rn d 161 1493 ls (.int j :: .ref a :: st) σ Q = mb_gj σ a j False (fun kd _ f => if kd = 1 then mb_Rn d 161 1494 ls (.long (f j.toNatClampNeg) :: st) σ Q else False) := rn_lald rfl
set_option maxRecDepth 20000 in
theorem sL_law_1494 {d : Nat} {Q : mb_O → mb_S → Prop} {σ : mb_S} {st : List Value} {l0 l1 l2 l3 l4 l5 : Option Value} {x : Int32} : mb_Rn d 161 1494 [l0, l1, l2, l3, l4, l5, some (.int x)] st σ Q = mb_Rn d 161 1496 [l0, l1, l2, l3, l4, l5, some (.int x)] (.int x :: st) σ Q := rn_step rfl (fun _ _ => rfl)
set_option maxRecDepth 20000 in
theorem sL_law_1496 {d : Nat} {Q : mb_O → mb_S → Prop} {σ : mb_S} {st : List Value} {ls : mb_L} {x : Int32} : mb_Rn d 161 1496 ls (.int x :: st) σ Q = mb_Rn d 161 1497 ls (.long x.toInt64 :: st) σ Q := rn_step rfl (fun _ _ => rfl)
set_option maxRecDepth 20000 in
theorem sL_law_1497 {d : Nat} {Q : mb_O → mb_S → Prop} {σ : mb_S} {st : List Value} {ls : mb_L} {x z : Int64} : mb_Rn d 161 1497 ls (.long z :: .long x :: st) σ Q = mb_Rn d 161 1498 ls (.int (lg_cmp x z) :: st) σ Q := rn_step rfl (fun _ _ => rfl)
set_option maxRecDepth 20000 in
theorem sL_law_1498 {d : Nat} {Q : mb_O → mb_S → Prop} {σ : mb_S} {st : List Value} {ls : mb_L} {x : Int32} : mb_Rn d 161 1498 ls (.int x :: st) σ Q = if x = 0 then mb_Rn d 161 1503 ls st σ Q else mb_Rn d 161 1501 ls st σ Q := rn_ifb rfl (fun _ _ => rfl) beq_iff_eq
set_option maxRecDepth 20000 in
theorem sL_law_1501 {d : Nat} {Q : mb_O → mb_S → Prop} {σ : mb_S} {st : List Value} {ls : mb_L} : mb_Rn d 161 1501 ls st σ Q = mb_Rn d 161 1502 ls (.int 0 :: st) σ Q := rn_step rfl (fun _ _ => rfl)
set_option maxRecDepth 20000 in
theorem sL_law_1502 {d : Nat} {Q : mb_O → mb_S → Prop} {σ : mb_S}  {ls : mb_L} {x : Int32} : mb_Rn d 161 1502 ls [.int x] σ Q = if x = 0 ∨ x = 1 then Q (.inl (some (.int x))) σ else False := rn_zret rfl
set_option maxRecDepth 20000 in
theorem sL_law_1503 {d : Nat} {Q : mb_O → mb_S → Prop} {σ : mb_S} {st : List Value} {ls : mb_L} : mb_Rn d 161 1503 ls st σ Q = mb_Rn d 161 1642 ls st σ Q := rn_step rfl (fun _ _ => rfl)
set_option maxRecDepth 20000 in
theorem sL_law_1506 {d : Nat} {Q : mb_O → mb_S → Prop} {σ : mb_S} {st : List Value} {l0 l2 l3 l4 l5 l6 : Option Value} {a : Nat} : mb_Rn d 161 1506 [l0, some (.ref a), l2, l3, l4, l5, l6] st σ Q = mb_Rn d 161 1507 [l0, some (.ref a), l2, l3, l4, l5, l6] (.ref a :: st) σ Q := rn_step rfl (fun _ _ => rfl)
set_option maxRecDepth 20000 in
theorem sL_law_1506n {d : Nat} {Q : mb_O → mb_S → Prop} {σ : mb_S} {st : List Value} {l0 l2 l3 l4 l5 l6 : Option Value} : mb_Rn d 161 1506 [l0, some (.null), l2, l3, l4, l5, l6] st σ Q = mb_Rn d 161 1507 [l0, some (.null), l2, l3, l4, l5, l6] (.null :: st) σ Q := rn_step rfl (fun _ _ => rfl)
set_option maxRecDepth 20000 in
theorem sL_law_1507 {d : Nat} {Q : mb_O → mb_S → Prop} {σ : mb_S} {st : List Value} {l1 l2 l3 l4 l5 l6 : Option Value} {a : Nat} : mb_Rn d 161 1507 [some (.ref a), l1, l2, l3, l4, l5, l6] st σ Q = mb_Rn d 161 1508 [some (.ref a), l1, l2, l3, l4, l5, l6] (.ref a :: st) σ Q := rn_step rfl (fun _ _ => rfl)
set_option maxRecDepth 20000 in
theorem sL_law_1507n {d : Nat} {Q : mb_O → mb_S → Prop} {σ : mb_S} {st : List Value} {l1 l2 l3 l4 l5 l6 : Option Value} : mb_Rn d 161 1507 [some (.null), l1, l2, l3, l4, l5, l6] st σ Q = mb_Rn d 161 1508 [some (.null), l1, l2, l3, l4, l5, l6] (.null :: st) σ Q := rn_step rfl (fun _ _ => rfl)
set_option maxRecDepth 20000 in
theorem sL_law_1508 {d : Nat} {Q : mb_O → mb_S → Prop} {σ : mb_S} {st : List Value} {l0 l1 l2 l3 l5 l6 : Option Value} {x : Int32} : mb_Rn d 161 1508 [l0, l1, l2, l3, some (.int x), l5, l6] st σ Q = mb_Rn d 161 1510 [l0, l1, l2, l3, some (.int x), l5, l6] (.int x :: st) σ Q := rn_step rfl (fun _ _ => rfl)
set_option maxRecDepth 20000 in
theorem sL_law_1510 {d : Nat} {Q : mb_O → mb_S → Prop} {σ : mb_S} {st : List Value} {ls : mb_L} : mb_Rn d 161 1510 ls st σ Q = mb_Rn d 161 1511 ls (.int 1 :: st) σ Q := rn_step rfl (fun _ _ => rfl)
set_option maxRecDepth 20000 in
theorem sL_law_1511 {d : Nat} {Q : mb_O → mb_S → Prop} {σ : mb_S} {st : List Value} {ls : mb_L} {x z : Int32} : mb_Rn d 161 1511 ls (.int z :: .int x :: st) σ Q = mb_Rn d 161 1512 ls (.int (x + z) :: st) σ Q := rn_step rfl (fun _ _ => rfl)
set_option maxRecDepth 20000 in
theorem sL_law_1512 {d : Nat} {Q : mb_O → mb_S → Prop} {σ : mb_S} {st : List Value} {ls : mb_L} {a : Nat} {j : Int32} : mb_Rn d 161 1512 ls (.int j :: .ref a :: st) σ Q = mb_gi σ a j False (fun kd _ f => if kd = 0 ∨ kd = 9 then mb_Rn d 161 1513 ls (.int (f j.toNatClampNeg) :: st) σ Q else False) := rn_iald rfl
set_option maxRecDepth 20000 in
theorem sL_law_1513 {d : Nat} {Q : mb_O → mb_S → Prop} {σ : mb_S} {st : List Value} {l1 l2 l3 l4 l5 l6 : Option Value} {a : Nat} : mb_Rn d 161 1513 [some (.ref a), l1, l2, l3, l4, l5, l6] st σ Q = mb_Rn d 161 1514 [some (.ref a), l1, l2, l3, l4, l5, l6] (.ref a :: st) σ Q := rn_step rfl (fun _ _ => rfl)
set_option maxRecDepth 20000 in
theorem sL_law_1513n {d : Nat} {Q : mb_O → mb_S → Prop} {σ : mb_S} {st : List Value} {l1 l2 l3 l4 l5 l6 : Option Value} : mb_Rn d 161 1513 [some (.null), l1, l2, l3, l4, l5, l6] st σ Q = mb_Rn d 161 1514 [some (.null), l1, l2, l3, l4, l5, l6] (.null :: st) σ Q := rn_step rfl (fun _ _ => rfl)
set_option maxRecDepth 20000 in
theorem sL_law_1514 {d : Nat} {Q : mb_O → mb_S → Prop} {σ : mb_S} {st : List Value} {l0 l1 l2 l3 l5 l6 : Option Value} {x : Int32} : mb_Rn d 161 1514 [l0, l1, l2, l3, some (.int x), l5, l6] st σ Q = mb_Rn d 161 1516 [l0, l1, l2, l3, some (.int x), l5, l6] (.int x :: st) σ Q := rn_step rfl (fun _ _ => rfl)
set_option maxRecDepth 20000 in
theorem sL_law_1516 {d : Nat} {Q : mb_O → mb_S → Prop} {σ : mb_S} {st : List Value} {ls : mb_L} : mb_Rn d 161 1516 ls st σ Q = mb_Rn d 161 1517 ls (.int 2 :: st) σ Q := rn_step rfl (fun _ _ => rfl)
set_option maxRecDepth 20000 in
theorem sL_law_1517 {d : Nat} {Q : mb_O → mb_S → Prop} {σ : mb_S} {st : List Value} {ls : mb_L} {x z : Int32} : mb_Rn d 161 1517 ls (.int z :: .int x :: st) σ Q = mb_Rn d 161 1518 ls (.int (x + z) :: st) σ Q := rn_step rfl (fun _ _ => rfl)
set_option maxRecDepth 20000 in
theorem sL_law_1518 {d : Nat} {Q : mb_O → mb_S → Prop} {σ : mb_S} {st : List Value} {ls : mb_L} {a : Nat} {j : Int32} : mb_Rn d 161 1518 ls (.int j :: .ref a :: st) σ Q = mb_gi σ a j False (fun kd _ f => if kd = 0 ∨ kd = 9 then mb_Rn d 161 1519 ls (.int (f j.toNatClampNeg) :: st) σ Q else False) := rn_iald rfl
set_option maxRecDepth 20000 in
theorem sL_law_1519 {d : Nat} {Q : mb_O → mb_S → Prop} {σ : mb_S} {st : List Value} {l1 l2 l3 l4 l5 l6 : Option Value} {a : Nat} : mb_Rn d 161 1519 [some (.ref a), l1, l2, l3, l4, l5, l6] st σ Q = mb_Rn d 161 1520 [some (.ref a), l1, l2, l3, l4, l5, l6] (.ref a :: st) σ Q := rn_step rfl (fun _ _ => rfl)
set_option maxRecDepth 20000 in
theorem sL_law_1519n {d : Nat} {Q : mb_O → mb_S → Prop} {σ : mb_S} {st : List Value} {l1 l2 l3 l4 l5 l6 : Option Value} : mb_Rn d 161 1519 [some (.null), l1, l2, l3, l4, l5, l6] st σ Q = mb_Rn d 161 1520 [some (.null), l1, l2, l3, l4, l5, l6] (.null :: st) σ Q := rn_step rfl (fun _ _ => rfl)
set_option maxRecDepth 20000 in
theorem sL_law_1520 {d : Nat} {Q : mb_O → mb_S → Prop} {σ : mb_S} {st : List Value} {l0 l1 l2 l3 l5 l6 : Option Value} {x : Int32} : mb_Rn d 161 1520 [l0, l1, l2, l3, some (.int x), l5, l6] st σ Q = mb_Rn d 161 1522 [l0, l1, l2, l3, some (.int x), l5, l6] (.int x :: st) σ Q := rn_step rfl (fun _ _ => rfl)
set_option maxRecDepth 20000 in
theorem sL_law_1522 {d : Nat} {Q : mb_O → mb_S → Prop} {σ : mb_S} {st : List Value} {ls : mb_L} : mb_Rn d 161 1522 ls st σ Q = mb_Rn d 161 1523 ls (.int 3 :: st) σ Q := rn_step rfl (fun _ _ => rfl)
set_option maxRecDepth 20000 in
theorem sL_law_1523 {d : Nat} {Q : mb_O → mb_S → Prop} {σ : mb_S} {st : List Value} {ls : mb_L} {x z : Int32} : mb_Rn d 161 1523 ls (.int z :: .int x :: st) σ Q = mb_Rn d 161 1524 ls (.int (x + z) :: st) σ Q := rn_step rfl (fun _ _ => rfl)
set_option maxRecDepth 20000 in
theorem sL_law_1524 {d : Nat} {Q : mb_O → mb_S → Prop} {σ : mb_S} {st : List Value} {ls : mb_L} {a : Nat} {j : Int32} : mb_Rn d 161 1524 ls (.int j :: .ref a :: st) σ Q = mb_gi σ a j False (fun kd _ f => if kd = 0 ∨ kd = 9 then mb_Rn d 161 1525 ls (.int (f j.toNatClampNeg) :: st) σ Q else False) := rn_iald rfl
set_option maxRecDepth 20000 in
theorem sL_law_1525 {d : Nat} {Q : mb_O → mb_S → Prop} {σ : mb_S} {st : List Value} {l0 l1 l2 l4 l5 l6 : Option Value} {a : Nat} : mb_Rn d 161 1525 [l0, l1, l2, some (.ref a), l4, l5, l6] st σ Q = mb_Rn d 161 1526 [l0, l1, l2, some (.ref a), l4, l5, l6] (.ref a :: st) σ Q := rn_step rfl (fun _ _ => rfl)
set_option maxRecDepth 20000 in
theorem sL_law_1525n {d : Nat} {Q : mb_O → mb_S → Prop} {σ : mb_S} {st : List Value} {l0 l1 l2 l4 l5 l6 : Option Value} : mb_Rn d 161 1525 [l0, l1, l2, some (.null), l4, l5, l6] st σ Q = mb_Rn d 161 1526 [l0, l1, l2, some (.null), l4, l5, l6] (.null :: st) σ Q := rn_step rfl (fun _ _ => rfl)
set_option maxRecDepth 20000 in
theorem sL_law_1526 {d : Nat} {Q : mb_O → mb_S → Prop} {σ : mb_S} {st : List Value} {ls : mb_L} {p0 : Nat} {p1 : Int32} {p2 : Int32} {p3 : Int32} {p4 : Nat} (hd : 1 ≤ d) (h4 : st.length ≤ 4) : mb_Rn d 161 1526 ls (.ref p4 :: .int p3 :: .int p2 :: .int p1 :: .ref p0 :: st) σ Q = mb_Ex (d - 1) 159 [.ref p0, .int p1, .int p2, .int p3, .ref p4] σ (mb_qk d 161 1529 ls st Q) := rn_calls mb_good rfl hd rfl rfl ⟨rfl, rfl⟩ h4 ⟨Nat.le_of_ble_eq_true rfl, rfl⟩
set_option maxRecDepth 20000 in
theorem sL_law_1529 {d : Nat} {Q : mb_O → mb_S → Prop} {σ : mb_S} {st : List Value} {l0 l1 l2 l3 l4 l5 l6 : Option Value} {x : Int32} : mb_Rn d 161 1529 [l0, l1, l2, l3, l4, l5, l6] (.int x :: st) σ Q = mb_Rn d 161 1531 [l0, l1, l2, l3, l4, some (.int x), l6] st σ Q := rn_step rfl (fun _ _ => rfl)
set_option maxRecDepth 20000 in
theorem sL_law_1531 {d : Nat} {Q : mb_O → mb_S → Prop} {σ : mb_S} {st : List Value} {l0 l1 l3 l4 l5 l6 : Option Value} {a : Nat} : mb_Rn d 161 1531 [l0, l1, some (.ref a), l3, l4, l5, l6] st σ Q = mb_Rn d 161 1532 [l0, l1, some (.ref a), l3, l4, l5, l6] (.ref a :: st) σ Q := rn_step rfl (fun _ _ => rfl)
set_option maxRecDepth 20000 in
theorem sL_law_1531n {d : Nat} {Q : mb_O → mb_S → Prop} {σ : mb_S} {st : List Value} {l0 l1 l3 l4 l5 l6 : Option Value} : mb_Rn d 161 1531 [l0, l1, some (.null), l3, l4, l5, l6] st σ Q = mb_Rn d 161 1532 [l0, l1, some (.null), l3, l4, l5, l6] (.null :: st) σ Q := rn_step rfl (fun _ _ => rfl)
set_option maxRecDepth 20000 in
theorem sL_law_1532 {d : Nat} {Q : mb_O → mb_S → Prop} {σ : mb_S} {st : List Value} {l1 l2 l3 l4 l5 l6 : Option Value} {a : Nat} : mb_Rn d 161 1532 [some (.ref a), l1, l2, l3, l4, l5, l6] st σ Q = mb_Rn d 161 1533 [some (.ref a), l1, l2, l3, l4, l5, l6] (.ref a :: st) σ Q := rn_step rfl (fun _ _ => rfl)
set_option maxRecDepth 20000 in
theorem sL_law_1532n {d : Nat} {Q : mb_O → mb_S → Prop} {σ : mb_S} {st : List Value} {l1 l2 l3 l4 l5 l6 : Option Value} : mb_Rn d 161 1532 [some (.null), l1, l2, l3, l4, l5, l6] st σ Q = mb_Rn d 161 1533 [some (.null), l1, l2, l3, l4, l5, l6] (.null :: st) σ Q := rn_step rfl (fun _ _ => rfl)
set_option maxRecDepth 20000 in
theorem sL_law_1533 {d : Nat} {Q : mb_O → mb_S → Prop} {σ : mb_S} {st : List Value} {l0 l1 l2 l3 l5 l6 : Option Value} {x : Int32} : mb_Rn d 161 1533 [l0, l1, l2, l3, some (.int x), l5, l6] st σ Q = mb_Rn d 161 1535 [l0, l1, l2, l3, some (.int x), l5, l6] (.int x :: st) σ Q := rn_step rfl (fun _ _ => rfl)
set_option maxRecDepth 20000 in
theorem sL_law_1535 {d : Nat} {Q : mb_O → mb_S → Prop} {σ : mb_S} {st : List Value} {ls : mb_L} : mb_Rn d 161 1535 ls st σ Q = mb_Rn d 161 1536 ls (.int 1 :: st) σ Q := rn_step rfl (fun _ _ => rfl)
set_option maxRecDepth 20000 in
theorem sL_law_1536 {d : Nat} {Q : mb_O → mb_S → Prop} {σ : mb_S} {st : List Value} {ls : mb_L} {x z : Int32} : mb_Rn d 161 1536 ls (.int z :: .int x :: st) σ Q = mb_Rn d 161 1537 ls (.int (x + z) :: st) σ Q := rn_step rfl (fun _ _ => rfl)
set_option maxRecDepth 20000 in
theorem sL_law_1537 {d : Nat} {Q : mb_O → mb_S → Prop} {σ : mb_S} {st : List Value} {ls : mb_L} {a : Nat} {j : Int32} : mb_Rn d 161 1537 ls (.int j :: .ref a :: st) σ Q = mb_gi σ a j False (fun kd _ f => if kd = 0 ∨ kd = 9 then mb_Rn d 161 1538 ls (.int (f j.toNatClampNeg) :: st) σ Q else False) := rn_iald rfl
set_option maxRecDepth 20000 in
theorem sL_law_1538 {d : Nat} {Q : mb_O → mb_S → Prop} {σ : mb_S} {st : List Value} {l1 l2 l3 l4 l5 l6 : Option Value} {a : Nat} : mb_Rn d 161 1538 [some (.ref a), l1, l2, l3, l4, l5, l6] st σ Q = mb_Rn d 161 1539 [some (.ref a), l1, l2, l3, l4, l5, l6] (.ref a :: st) σ Q := rn_step rfl (fun _ _ => rfl)
set_option maxRecDepth 20000 in
theorem sL_law_1538n {d : Nat} {Q : mb_O → mb_S → Prop} {σ : mb_S} {st : List Value} {l1 l2 l3 l4 l5 l6 : Option Value} : mb_Rn d 161 1538 [some (.null), l1, l2, l3, l4, l5, l6] st σ Q = mb_Rn d 161 1539 [some (.null), l1, l2, l3, l4, l5, l6] (.null :: st) σ Q := rn_step rfl (fun _ _ => rfl)
set_option maxRecDepth 20000 in
theorem sL_law_1539 {d : Nat} {Q : mb_O → mb_S → Prop} {σ : mb_S} {st : List Value} {l0 l1 l2 l3 l5 l6 : Option Value} {x : Int32} : mb_Rn d 161 1539 [l0, l1, l2, l3, some (.int x), l5, l6] st σ Q = mb_Rn d 161 1541 [l0, l1, l2, l3, some (.int x), l5, l6] (.int x :: st) σ Q := rn_step rfl (fun _ _ => rfl)
set_option maxRecDepth 20000 in
theorem sL_law_1541 {d : Nat} {Q : mb_O → mb_S → Prop} {σ : mb_S} {st : List Value} {ls : mb_L} : mb_Rn d 161 1541 ls st σ Q = mb_Rn d 161 1542 ls (.int 2 :: st) σ Q := rn_step rfl (fun _ _ => rfl)
set_option maxRecDepth 20000 in
theorem sL_law_1542 {d : Nat} {Q : mb_O → mb_S → Prop} {σ : mb_S} {st : List Value} {ls : mb_L} {x z : Int32} : mb_Rn d 161 1542 ls (.int z :: .int x :: st) σ Q = mb_Rn d 161 1543 ls (.int (x + z) :: st) σ Q := rn_step rfl (fun _ _ => rfl)
set_option maxRecDepth 20000 in
theorem sL_law_1543 {d : Nat} {Q : mb_O → mb_S → Prop} {σ : mb_S} {st : List Value} {ls : mb_L} {a : Nat} {j : Int32} : mb_Rn d 161 1543 ls (.int j :: .ref a :: st) σ Q = mb_gi σ a j False (fun kd _ f => if kd = 0 ∨ kd = 9 then mb_Rn d 161 1544 ls (.int (f j.toNatClampNeg) :: st) σ Q else False) := rn_iald rfl
set_option maxRecDepth 20000 in
theorem sL_law_1544 {d : Nat} {Q : mb_O → mb_S → Prop} {σ : mb_S} {st : List Value} {l1 l2 l3 l4 l5 l6 : Option Value} {a : Nat} : mb_Rn d 161 1544 [some (.ref a), l1, l2, l3, l4, l5, l6] st σ Q = mb_Rn d 161 1545 [some (.ref a), l1, l2, l3, l4, l5, l6] (.ref a :: st) σ Q := rn_step rfl (fun _ _ => rfl)
set_option maxRecDepth 20000 in
theorem sL_law_1544n {d : Nat} {Q : mb_O → mb_S → Prop} {σ : mb_S} {st : List Value} {l1 l2 l3 l4 l5 l6 : Option Value} : mb_Rn d 161 1544 [some (.null), l1, l2, l3, l4, l5, l6] st σ Q = mb_Rn d 161 1545 [some (.null), l1, l2, l3, l4, l5, l6] (.null :: st) σ Q := rn_step rfl (fun _ _ => rfl)
set_option maxRecDepth 20000 in
theorem sL_law_1545 {d : Nat} {Q : mb_O → mb_S → Prop} {σ : mb_S} {st : List Value} {l0 l1 l2 l3 l5 l6 : Option Value} {x : Int32} : mb_Rn d 161 1545 [l0, l1, l2, l3, some (.int x), l5, l6] st σ Q = mb_Rn d 161 1547 [l0, l1, l2, l3, some (.int x), l5, l6] (.int x :: st) σ Q := rn_step rfl (fun _ _ => rfl)
set_option maxRecDepth 20000 in
theorem sL_law_1547 {d : Nat} {Q : mb_O → mb_S → Prop} {σ : mb_S} {st : List Value} {ls : mb_L} : mb_Rn d 161 1547 ls st σ Q = mb_Rn d 161 1548 ls (.int 3 :: st) σ Q := rn_step rfl (fun _ _ => rfl)
set_option maxRecDepth 20000 in
theorem sL_law_1548 {d : Nat} {Q : mb_O → mb_S → Prop} {σ : mb_S} {st : List Value} {ls : mb_L} {x z : Int32} : mb_Rn d 161 1548 ls (.int z :: .int x :: st) σ Q = mb_Rn d 161 1549 ls (.int (x + z) :: st) σ Q := rn_step rfl (fun _ _ => rfl)
set_option maxRecDepth 20000 in
theorem sL_law_1549 {d : Nat} {Q : mb_O → mb_S → Prop} {σ : mb_S} {st : List Value} {ls : mb_L} {a : Nat} {j : Int32} : mb_Rn d 161 1549 ls (.int j :: .ref a :: st) σ Q = mb_gi σ a j False (fun kd _ f => if kd = 0 ∨ kd = 9 then mb_Rn d 161 1550 ls (.int (f j.toNatClampNeg) :: st) σ Q else False) := rn_iald rfl
set_option maxRecDepth 20000 in
theorem sL_law_1550 {d : Nat} {Q : mb_O → mb_S → Prop} {σ : mb_S} {st : List Value} {ls : mb_L} {p0 : Int32} {p1 : Int32} {p2 : Int32} {b : Nat} (hd : 1 ≤ d) (h4 : st.length ≤ 4) : mb_Rn d 161 1550 ls (.int p2 :: .int p1 :: .int p0 :: .ref b :: st) σ Q = mb_gf σ b 8 False (fun _ => mb_Ex (d - 1) 136 [.ref b, .int p0, .int p1, .int p2] σ (mb_qx [] d 161 1553 ls st Q)) := rn_callv mb_good rfl hd rfl rfl ⟨rfl, rfl⟩ h4 ⟨Nat.le_of_ble_eq_true rfl, rfl⟩
set_option maxRecDepth 20000 in
theorem sL_law_1553 {d : Nat} {Q : mb_O → mb_S → Prop} {σ : mb_S} {st : List Value} {l0 l1 l2 l3 l4 l5 l6 : Option Value} {x : Int32} : mb_Rn d 161 1553 [l0, l1, l2, l3, l4, l5, l6] (.int x :: st) σ Q = mb_Rn d 161 1555 [l0, l1, l2, l3, l4, l5, some (.int x)] st σ Q := rn_step rfl (fun _ _ => rfl)
set_option maxRecDepth 20000 in
theorem sL_law_1555 {d : Nat} {Q : mb_O → mb_S → Prop} {σ : mb_S} {st : List Value} {l0 l1 l3 l4 l5 l6 : Option Value} {a : Nat} : mb_Rn d 161 1555 [l0, l1, some (.ref a), l3, l4, l5, l6] st σ Q = mb_Rn d 161 1556 [l0, l1, some (.ref a), l3, l4, l5, l6] (.ref a :: st) σ Q := rn_step rfl (fun _ _ => rfl)
set_option maxRecDepth 20000 in
theorem sL_law_1555n {d : Nat} {Q : mb_O → mb_S → Prop} {σ : mb_S} {st : List Value} {l0 l1 l3 l4 l5 l6 : Option Value} : mb_Rn d 161 1555 [l0, l1, some (.null), l3, l4, l5, l6] st σ Q = mb_Rn d 161 1556 [l0, l1, some (.null), l3, l4, l5, l6] (.null :: st) σ Q := rn_step rfl (fun _ _ => rfl)
set_option maxRecDepth 20000 in
theorem sL_law_1556 {d : Nat} {Q : mb_O → mb_S → Prop} {σ : mb_S} {st : List Value} {ls : mb_L} {b : Nat} (hd : 1 ≤ d) (h4 : st.length ≤ 4) : mb_Rn d 161 1556 ls (.ref b :: st) σ Q = mb_gf σ b 8 False (fun _ => mb_Ex (d - 1) 85 [.ref b] σ (mb_qx [] d 161 1559 ls st Q)) := rn_callv mb_good rfl hd rfl rfl ⟨rfl, rfl⟩ h4 ⟨Nat.le_of_ble_eq_true rfl, rfl⟩
set_option maxRecDepth 20000 in
theorem sL_law_1559 {d : Nat} {Q : mb_O → mb_S → Prop} {σ : mb_S} {st : List Value} {l0 l1 l2 l3 l4 l6 : Option Value} {x : Int32} : mb_Rn d 161 1559 [l0, l1, l2, l3, l4, some (.int x), l6] st σ Q = mb_Rn d 161 1561 [l0, l1, l2, l3, l4, some (.int x), l6] (.int x :: st) σ Q := rn_step rfl (fun _ _ => rfl)
set_option maxRecDepth 20000 in
theorem sL_law_1561 {d : Nat} {Q : mb_O → mb_S → Prop} {σ : mb_S} {st : List Value} {ls : mb_L} {x z : Int32} : mb_Rn d 161 1561 ls (.int z :: .int x :: st) σ Q = if x = z then mb_Rn d 161 1566 ls st σ Q else mb_Rn d 161 1564 ls st σ Q := rn_ifb rfl (fun _ _ => rfl) beq_iff_eq
set_option maxRecDepth 20000 in
theorem sL_law_1564 {d : Nat} {Q : mb_O → mb_S → Prop} {σ : mb_S} {st : List Value} {ls : mb_L} : mb_Rn d 161 1564 ls st σ Q = mb_Rn d 161 1565 ls (.int 0 :: st) σ Q := rn_step rfl (fun _ _ => rfl)
set_option maxRecDepth 20000 in
theorem sL_law_1565 {d : Nat} {Q : mb_O → mb_S → Prop} {σ : mb_S}  {ls : mb_L} {x : Int32} : mb_Rn d 161 1565 ls [.int x] σ Q = if x = 0 ∨ x = 1 then Q (.inl (some (.int x))) σ else False := rn_zret rfl
set_option maxRecDepth 20000 in
theorem sL_law_1566 {d : Nat} {Q : mb_O → mb_S → Prop} {σ : mb_S} {st : List Value} {l0 l1 l2 l3 l4 l6 : Option Value} {x : Int32} : mb_Rn d 161 1566 [l0, l1, l2, l3, l4, some (.int x), l6] st σ Q = mb_Rn d 161 1568 [l0, l1, l2, l3, l4, some (.int x), l6] (.int x :: st) σ Q := rn_step rfl (fun _ _ => rfl)
set_option maxRecDepth 20000 in
theorem sL_law_1568 {d : Nat} {Q : mb_O → mb_S → Prop} {σ : mb_S} {st : List Value} {ls : mb_L} {x : Int32} : mb_Rn d 161 1568 ls (.int x :: st) σ Q = if x = 0 then mb_Rn d 161 1571 ls st σ Q else mb_Rn d 161 1583 ls st σ Q := rn_ifn rfl (fun _ _ => rfl) bne_iff_ne
set_option maxRecDepth 20000 in
theorem sL_law_1571 {d : Nat} {Q : mb_O → mb_S → Prop} {σ : mb_S} {st : List Value} {l0 l1 l2 l4 l5 l6 : Option Value} {a : Nat} : mb_Rn d 161 1571 [l0, l1, l2, some (.ref a), l4, l5, l6] st σ Q = mb_Rn d 161 1572 [l0, l1, l2, some (.ref a), l4, l5, l6] (.ref a :: st) σ Q := rn_step rfl (fun _ _ => rfl)
set_option maxRecDepth 20000 in
theorem sL_law_1571n {d : Nat} {Q : mb_O → mb_S → Prop} {σ : mb_S} {st : List Value} {l0 l1 l2 l4 l5 l6 : Option Value} : mb_Rn d 161 1571 [l0, l1, l2, some (.null), l4, l5, l6] st σ Q = mb_Rn d 161 1572 [l0, l1, l2, some (.null), l4, l5, l6] (.null :: st) σ Q := rn_step rfl (fun _ _ => rfl)
set_option maxRecDepth 20000 in
theorem sL_law_1572 {d : Nat} {Q : mb_O → mb_S → Prop} {σ : mb_S} {st : List Value} {ls : mb_L} : mb_Rn d 161 1572 ls st σ Q = mb_Rn d 161 1573 ls (.int 0 :: st) σ Q := rn_step rfl (fun _ _ => rfl)
set_option maxRecDepth 20000 in
theorem sL_law_1573 {d : Nat} {Q : mb_O → mb_S → Prop} {σ : mb_S} {st : List Value} {ls : mb_L} {a : Nat} {j : Int32} : mb_Rn d 161 1573 ls (.int j :: .ref a :: st) σ Q = mb_gj σ a j False (fun kd _ f => if kd = 1 then mb_Rn d 161 1574 ls (.long (f j.toNatClampNeg) :: st) σ Q else False) := rn_lald rfl
set_option maxRecDepth 20000 in
theorem sL_law_1574 {d : Nat} {Q : mb_O → mb_S → Prop} {σ : mb_S} {st : List Value} {l0 l1 l2 l3 l4 l5 : Option Value} {x : Int32} : mb_Rn d 161 1574 [l0, l1, l2, l3, l4, l5, some (.int x)] st σ Q = mb_Rn d 161 1576 [l0, l1, l2, l3, l4, l5, some (.int x)] (.int x :: st) σ Q := rn_step rfl (fun _ _ => rfl)
set_option maxRecDepth 20000 in
theorem sL_law_1576 {d : Nat} {Q : mb_O → mb_S → Prop} {σ : mb_S} {st : List Value} {ls : mb_L} {x : Int32} : mb_Rn d 161 1576 ls (.int x :: st) σ Q = mb_Rn d 161 1577 ls (.long x.toInt64 :: st) σ Q := rn_step rfl (fun _ _ => rfl)
set_option maxRecDepth 20000 in
theorem sL_law_1577 {d : Nat} {Q : mb_O → mb_S → Prop} {σ : mb_S} {st : List Value} {ls : mb_L} {x z : Int64} : mb_Rn d 161 1577 ls (.long z :: .long x :: st) σ Q = mb_Rn d 161 1578 ls (.int (lg_cmp x z) :: st) σ Q := rn_step rfl (fun _ _ => rfl)
set_option maxRecDepth 20000 in
theorem sL_law_1578 {d : Nat} {Q : mb_O → mb_S → Prop} {σ : mb_S} {st : List Value} {ls : mb_L} {x : Int32} : mb_Rn d 161 1578 ls (.int x :: st) σ Q = if x = 0 then mb_Rn d 161 1583 ls st σ Q else mb_Rn d 161 1581 ls st σ Q := rn_ifb rfl (fun _ _ => rfl) beq_iff_eq
set_option maxRecDepth 20000 in
theorem sL_law_1581 {d : Nat} {Q : mb_O → mb_S → Prop} {σ : mb_S} {st : List Value} {ls : mb_L} : mb_Rn d 161 1581 ls st σ Q = mb_Rn d 161 1582 ls (.int 0 :: st) σ Q := rn_step rfl (fun _ _ => rfl)
set_option maxRecDepth 20000 in
theorem sL_law_1582 {d : Nat} {Q : mb_O → mb_S → Prop} {σ : mb_S}  {ls : mb_L} {x : Int32} : mb_Rn d 161 1582 ls [.int x] σ Q = if x = 0 ∨ x = 1 then Q (.inl (some (.int x))) σ else False := rn_zret rfl
set_option maxRecDepth 20000 in
theorem sL_law_1583 {d : Nat} {Q : mb_O → mb_S → Prop} {σ : mb_S} {st : List Value} {ls : mb_L} : mb_Rn d 161 1583 ls st σ Q = mb_Rn d 161 1642 ls st σ Q := rn_step rfl (fun _ _ => rfl)
set_option maxRecDepth 20000 in
theorem sL_law_1586 {d : Nat} {Q : mb_O → mb_S → Prop} {σ : mb_S} {st : List Value} {l0 l2 l3 l4 l5 l6 : Option Value} {a : Nat} : mb_Rn d 161 1586 [l0, some (.ref a), l2, l3, l4, l5, l6] st σ Q = mb_Rn d 161 1587 [l0, some (.ref a), l2, l3, l4, l5, l6] (.ref a :: st) σ Q := rn_step rfl (fun _ _ => rfl)
set_option maxRecDepth 20000 in
theorem sL_law_1586n {d : Nat} {Q : mb_O → mb_S → Prop} {σ : mb_S} {st : List Value} {l0 l2 l3 l4 l5 l6 : Option Value} : mb_Rn d 161 1586 [l0, some (.null), l2, l3, l4, l5, l6] st σ Q = mb_Rn d 161 1587 [l0, some (.null), l2, l3, l4, l5, l6] (.null :: st) σ Q := rn_step rfl (fun _ _ => rfl)
set_option maxRecDepth 20000 in
theorem sL_law_1587 {d : Nat} {Q : mb_O → mb_S → Prop} {σ : mb_S} {st : List Value} {l1 l2 l3 l4 l5 l6 : Option Value} {a : Nat} : mb_Rn d 161 1587 [some (.ref a), l1, l2, l3, l4, l5, l6] st σ Q = mb_Rn d 161 1588 [some (.ref a), l1, l2, l3, l4, l5, l6] (.ref a :: st) σ Q := rn_step rfl (fun _ _ => rfl)
set_option maxRecDepth 20000 in
theorem sL_law_1587n {d : Nat} {Q : mb_O → mb_S → Prop} {σ : mb_S} {st : List Value} {l1 l2 l3 l4 l5 l6 : Option Value} : mb_Rn d 161 1587 [some (.null), l1, l2, l3, l4, l5, l6] st σ Q = mb_Rn d 161 1588 [some (.null), l1, l2, l3, l4, l5, l6] (.null :: st) σ Q := rn_step rfl (fun _ _ => rfl)
set_option maxRecDepth 20000 in
theorem sL_law_1588 {d : Nat} {Q : mb_O → mb_S → Prop} {σ : mb_S} {st : List Value} {l0 l1 l2 l3 l5 l6 : Option Value} {x : Int32} : mb_Rn d 161 1588 [l0, l1, l2, l3, some (.int x), l5, l6] st σ Q = mb_Rn d 161 1590 [l0, l1, l2, l3, some (.int x), l5, l6] (.int x :: st) σ Q := rn_step rfl (fun _ _ => rfl)
set_option maxRecDepth 20000 in
theorem sL_law_1590 {d : Nat} {Q : mb_O → mb_S → Prop} {σ : mb_S} {st : List Value} {ls : mb_L} : mb_Rn d 161 1590 ls st σ Q = mb_Rn d 161 1591 ls (.int 1 :: st) σ Q := rn_step rfl (fun _ _ => rfl)
set_option maxRecDepth 20000 in
theorem sL_law_1591 {d : Nat} {Q : mb_O → mb_S → Prop} {σ : mb_S} {st : List Value} {ls : mb_L} {x z : Int32} : mb_Rn d 161 1591 ls (.int z :: .int x :: st) σ Q = mb_Rn d 161 1592 ls (.int (x + z) :: st) σ Q := rn_step rfl (fun _ _ => rfl)
set_option maxRecDepth 20000 in
theorem sL_law_1592 {d : Nat} {Q : mb_O → mb_S → Prop} {σ : mb_S} {st : List Value} {ls : mb_L} {a : Nat} {j : Int32} : mb_Rn d 161 1592 ls (.int j :: .ref a :: st) σ Q = mb_gi σ a j False (fun kd _ f => if kd = 0 ∨ kd = 9 then mb_Rn d 161 1593 ls (.int (f j.toNatClampNeg) :: st) σ Q else False) := rn_iald rfl
set_option maxRecDepth 20000 in
theorem sL_law_1593 {d : Nat} {Q : mb_O → mb_S → Prop} {σ : mb_S} {st : List Value} {l0 l1 l2 l4 l5 l6 : Option Value} {a : Nat} : mb_Rn d 161 1593 [l0, l1, l2, some (.ref a), l4, l5, l6] st σ Q = mb_Rn d 161 1594 [l0, l1, l2, some (.ref a), l4, l5, l6] (.ref a :: st) σ Q := rn_step rfl (fun _ _ => rfl)
set_option maxRecDepth 20000 in
theorem sL_law_1593n {d : Nat} {Q : mb_O → mb_S → Prop} {σ : mb_S} {st : List Value} {l0 l1 l2 l4 l5 l6 : Option Value} : mb_Rn d 161 1593 [l0, l1, l2, some (.null), l4, l5, l6] st σ Q = mb_Rn d 161 1594 [l0, l1, l2, some (.null), l4, l5, l6] (.null :: st) σ Q := rn_step rfl (fun _ _ => rfl)
set_option maxRecDepth 20000 in
theorem sL_law_1594 {d : Nat} {Q : mb_O → mb_S → Prop} {σ : mb_S} {st : List Value} {ls : mb_L} {p0 : Nat} {p1 : Int32} {p2 : Nat} (hd : 1 ≤ d) (h4 : st.length ≤ 4) : mb_Rn d 161 1594 ls (.ref p2 :: .int p1 :: .ref p0 :: st) σ Q = mb_Ex (d - 1) 160 [.ref p0, .int p1, .ref p2] σ (mb_qk d 161 1597 ls st Q) := rn_calls mb_good rfl hd rfl rfl ⟨rfl, rfl⟩ h4 ⟨Nat.le_of_ble_eq_true rfl, rfl⟩
set_option maxRecDepth 20000 in
theorem sL_law_1597 {d : Nat} {Q : mb_O → mb_S → Prop} {σ : mb_S} {st : List Value} {l0 l1 l2 l3 l4 l5 l6 : Option Value} {x : Int32} : mb_Rn d 161 1597 [l0, l1, l2, l3, l4, l5, l6] (.int x :: st) σ Q = mb_Rn d 161 1599 [l0, l1, l2, l3, l4, some (.int x), l6] st σ Q := rn_step rfl (fun _ _ => rfl)
set_option maxRecDepth 20000 in
theorem sL_law_1599 {d : Nat} {Q : mb_O → mb_S → Prop} {σ : mb_S} {st : List Value} {l0 l1 l3 l4 l5 l6 : Option Value} {a : Nat} : mb_Rn d 161 1599 [l0, l1, some (.ref a), l3, l4, l5, l6] st σ Q = mb_Rn d 161 1600 [l0, l1, some (.ref a), l3, l4, l5, l6] (.ref a :: st) σ Q := rn_step rfl (fun _ _ => rfl)
set_option maxRecDepth 20000 in
theorem sL_law_1599n {d : Nat} {Q : mb_O → mb_S → Prop} {σ : mb_S} {st : List Value} {l0 l1 l3 l4 l5 l6 : Option Value} : mb_Rn d 161 1599 [l0, l1, some (.null), l3, l4, l5, l6] st σ Q = mb_Rn d 161 1600 [l0, l1, some (.null), l3, l4, l5, l6] (.null :: st) σ Q := rn_step rfl (fun _ _ => rfl)
set_option maxRecDepth 20000 in
theorem sL_law_1600 {d : Nat} {Q : mb_O → mb_S → Prop} {σ : mb_S} {st : List Value} {l1 l2 l3 l4 l5 l6 : Option Value} {a : Nat} : mb_Rn d 161 1600 [some (.ref a), l1, l2, l3, l4, l5, l6] st σ Q = mb_Rn d 161 1601 [some (.ref a), l1, l2, l3, l4, l5, l6] (.ref a :: st) σ Q := rn_step rfl (fun _ _ => rfl)
set_option maxRecDepth 20000 in
theorem sL_law_1600n {d : Nat} {Q : mb_O → mb_S → Prop} {σ : mb_S} {st : List Value} {l1 l2 l3 l4 l5 l6 : Option Value} : mb_Rn d 161 1600 [some (.null), l1, l2, l3, l4, l5, l6] st σ Q = mb_Rn d 161 1601 [some (.null), l1, l2, l3, l4, l5, l6] (.null :: st) σ Q := rn_step rfl (fun _ _ => rfl)
set_option maxRecDepth 20000 in
theorem sL_law_1601 {d : Nat} {Q : mb_O → mb_S → Prop} {σ : mb_S} {st : List Value} {l0 l1 l2 l3 l5 l6 : Option Value} {x : Int32} : mb_Rn d 161 1601 [l0, l1, l2, l3, some (.int x), l5, l6] st σ Q = mb_Rn d 161 1603 [l0, l1, l2, l3, some (.int x), l5, l6] (.int x :: st) σ Q := rn_step rfl (fun _ _ => rfl)
set_option maxRecDepth 20000 in
theorem sL_law_1603 {d : Nat} {Q : mb_O → mb_S → Prop} {σ : mb_S} {st : List Value} {ls : mb_L} : mb_Rn d 161 1603 ls st σ Q = mb_Rn d 161 1604 ls (.int 1 :: st) σ Q := rn_step rfl (fun _ _ => rfl)
set_option maxRecDepth 20000 in
theorem sL_law_1604 {d : Nat} {Q : mb_O → mb_S → Prop} {σ : mb_S} {st : List Value} {ls : mb_L} {x z : Int32} : mb_Rn d 161 1604 ls (.int z :: .int x :: st) σ Q = mb_Rn d 161 1605 ls (.int (x + z) :: st) σ Q := rn_step rfl (fun _ _ => rfl)
set_option maxRecDepth 20000 in
theorem sL_law_1605 {d : Nat} {Q : mb_O → mb_S → Prop} {σ : mb_S} {st : List Value} {ls : mb_L} {a : Nat} {j : Int32} : mb_Rn d 161 1605 ls (.int j :: .ref a :: st) σ Q = mb_gi σ a j False (fun kd _ f => if kd = 0 ∨ kd = 9 then mb_Rn d 161 1606 ls (.int (f j.toNatClampNeg) :: st) σ Q else False) := rn_iald rfl
set_option maxRecDepth 20000 in
theorem sL_law_1606 {d : Nat} {Q : mb_O → mb_S → Prop} {σ : mb_S} {st : List Value} {ls : mb_L} {p0 : Int32} {b : Nat} (hd : 1 ≤ d) (h4 : st.length ≤ 4) : mb_Rn d 161 1606 ls (.int p0 :: .ref b :: st) σ Q = mb_gf σ b 8 False (fun _ => mb_Ex (d - 1) 138 [.ref b, .int p0] σ (mb_qx [] d 161 1609 ls st Q)) := rn_callv mb_good rfl hd rfl rfl ⟨rfl, rfl⟩ h4 ⟨Nat.le_of_ble_eq_true rfl, rfl⟩
set_option maxRecDepth 20000 in
theorem sL_law_1609 {d : Nat} {Q : mb_O → mb_S → Prop} {σ : mb_S} {st : List Value} {l0 l1 l2 l3 l4 l5 l6 : Option Value} {x : Int32} : mb_Rn d 161 1609 [l0, l1, l2, l3, l4, l5, l6] (.int x :: st) σ Q = mb_Rn d 161 1611 [l0, l1, l2, l3, l4, l5, some (.int x)] st σ Q := rn_step rfl (fun _ _ => rfl)
set_option maxRecDepth 20000 in
theorem sL_law_1611 {d : Nat} {Q : mb_O → mb_S → Prop} {σ : mb_S} {st : List Value} {l0 l1 l3 l4 l5 l6 : Option Value} {a : Nat} : mb_Rn d 161 1611 [l0, l1, some (.ref a), l3, l4, l5, l6] st σ Q = mb_Rn d 161 1612 [l0, l1, some (.ref a), l3, l4, l5, l6] (.ref a :: st) σ Q := rn_step rfl (fun _ _ => rfl)
set_option maxRecDepth 20000 in
theorem sL_law_1611n {d : Nat} {Q : mb_O → mb_S → Prop} {σ : mb_S} {st : List Value} {l0 l1 l3 l4 l5 l6 : Option Value} : mb_Rn d 161 1611 [l0, l1, some (.null), l3, l4, l5, l6] st σ Q = mb_Rn d 161 1612 [l0, l1, some (.null), l3, l4, l5, l6] (.null :: st) σ Q := rn_step rfl (fun _ _ => rfl)
set_option maxRecDepth 20000 in
theorem sL_law_1612 {d : Nat} {Q : mb_O → mb_S → Prop} {σ : mb_S} {st : List Value} {ls : mb_L} {b : Nat} (hd : 1 ≤ d) (h4 : st.length ≤ 4) : mb_Rn d 161 1612 ls (.ref b :: st) σ Q = mb_gf σ b 8 False (fun _ => mb_Ex (d - 1) 85 [.ref b] σ (mb_qx [] d 161 1615 ls st Q)) := rn_callv mb_good rfl hd rfl rfl ⟨rfl, rfl⟩ h4 ⟨Nat.le_of_ble_eq_true rfl, rfl⟩
set_option maxRecDepth 20000 in
theorem sL_law_1615 {d : Nat} {Q : mb_O → mb_S → Prop} {σ : mb_S} {st : List Value} {l0 l1 l2 l3 l4 l6 : Option Value} {x : Int32} : mb_Rn d 161 1615 [l0, l1, l2, l3, l4, some (.int x), l6] st σ Q = mb_Rn d 161 1617 [l0, l1, l2, l3, l4, some (.int x), l6] (.int x :: st) σ Q := rn_step rfl (fun _ _ => rfl)
set_option maxRecDepth 20000 in
theorem sL_law_1617 {d : Nat} {Q : mb_O → mb_S → Prop} {σ : mb_S} {st : List Value} {ls : mb_L} {x z : Int32} : mb_Rn d 161 1617 ls (.int z :: .int x :: st) σ Q = if x = z then mb_Rn d 161 1622 ls st σ Q else mb_Rn d 161 1620 ls st σ Q := rn_ifb rfl (fun _ _ => rfl) beq_iff_eq
set_option maxRecDepth 20000 in
theorem sL_law_1620 {d : Nat} {Q : mb_O → mb_S → Prop} {σ : mb_S} {st : List Value} {ls : mb_L} : mb_Rn d 161 1620 ls st σ Q = mb_Rn d 161 1621 ls (.int 0 :: st) σ Q := rn_step rfl (fun _ _ => rfl)
set_option maxRecDepth 20000 in
theorem sL_law_1621 {d : Nat} {Q : mb_O → mb_S → Prop} {σ : mb_S}  {ls : mb_L} {x : Int32} : mb_Rn d 161 1621 ls [.int x] σ Q = if x = 0 ∨ x = 1 then Q (.inl (some (.int x))) σ else False := rn_zret rfl
set_option maxRecDepth 20000 in
theorem sL_law_1622 {d : Nat} {Q : mb_O → mb_S → Prop} {σ : mb_S} {st : List Value} {l0 l1 l2 l3 l4 l6 : Option Value} {x : Int32} : mb_Rn d 161 1622 [l0, l1, l2, l3, l4, some (.int x), l6] st σ Q = mb_Rn d 161 1624 [l0, l1, l2, l3, l4, some (.int x), l6] (.int x :: st) σ Q := rn_step rfl (fun _ _ => rfl)
set_option maxRecDepth 20000 in
theorem sL_law_1624 {d : Nat} {Q : mb_O → mb_S → Prop} {σ : mb_S} {st : List Value} {ls : mb_L} {x : Int32} : mb_Rn d 161 1624 ls (.int x :: st) σ Q = if x = 0 then mb_Rn d 161 1627 ls st σ Q else mb_Rn d 161 1639 ls st σ Q := rn_ifn rfl (fun _ _ => rfl) bne_iff_ne
set_option maxRecDepth 20000 in
theorem sL_law_1627 {d : Nat} {Q : mb_O → mb_S → Prop} {σ : mb_S} {st : List Value} {l0 l1 l2 l4 l5 l6 : Option Value} {a : Nat} : mb_Rn d 161 1627 [l0, l1, l2, some (.ref a), l4, l5, l6] st σ Q = mb_Rn d 161 1628 [l0, l1, l2, some (.ref a), l4, l5, l6] (.ref a :: st) σ Q := rn_step rfl (fun _ _ => rfl)
set_option maxRecDepth 20000 in
theorem sL_law_1627n {d : Nat} {Q : mb_O → mb_S → Prop} {σ : mb_S} {st : List Value} {l0 l1 l2 l4 l5 l6 : Option Value} : mb_Rn d 161 1627 [l0, l1, l2, some (.null), l4, l5, l6] st σ Q = mb_Rn d 161 1628 [l0, l1, l2, some (.null), l4, l5, l6] (.null :: st) σ Q := rn_step rfl (fun _ _ => rfl)
set_option maxRecDepth 20000 in
theorem sL_law_1628 {d : Nat} {Q : mb_O → mb_S → Prop} {σ : mb_S} {st : List Value} {ls : mb_L} : mb_Rn d 161 1628 ls st σ Q = mb_Rn d 161 1629 ls (.int 0 :: st) σ Q := rn_step rfl (fun _ _ => rfl)
set_option maxRecDepth 20000 in
theorem sL_law_1629 {d : Nat} {Q : mb_O → mb_S → Prop} {σ : mb_S} {st : List Value} {ls : mb_L} {a : Nat} {j : Int32} : mb_Rn d 161 1629 ls (.int j :: .ref a :: st) σ Q = mb_gj σ a j False (fun kd _ f => if kd = 1 then mb_Rn d 161 1630 ls (.long (f j.toNatClampNeg) :: st) σ Q else False) := rn_lald rfl
set_option maxRecDepth 20000 in
theorem sL_law_1630 {d : Nat} {Q : mb_O → mb_S → Prop} {σ : mb_S} {st : List Value} {l0 l1 l2 l3 l4 l5 : Option Value} {x : Int32} : mb_Rn d 161 1630 [l0, l1, l2, l3, l4, l5, some (.int x)] st σ Q = mb_Rn d 161 1632 [l0, l1, l2, l3, l4, l5, some (.int x)] (.int x :: st) σ Q := rn_step rfl (fun _ _ => rfl)
set_option maxRecDepth 20000 in
theorem sL_law_1632 {d : Nat} {Q : mb_O → mb_S → Prop} {σ : mb_S} {st : List Value} {ls : mb_L} {x : Int32} : mb_Rn d 161 1632 ls (.int x :: st) σ Q = mb_Rn d 161 1633 ls (.long x.toInt64 :: st) σ Q := rn_step rfl (fun _ _ => rfl)
set_option maxRecDepth 20000 in
theorem sL_law_1633 {d : Nat} {Q : mb_O → mb_S → Prop} {σ : mb_S} {st : List Value} {ls : mb_L} {x z : Int64} : mb_Rn d 161 1633 ls (.long z :: .long x :: st) σ Q = mb_Rn d 161 1634 ls (.int (lg_cmp x z) :: st) σ Q := rn_step rfl (fun _ _ => rfl)
set_option maxRecDepth 20000 in
theorem sL_law_1634 {d : Nat} {Q : mb_O → mb_S → Prop} {σ : mb_S} {st : List Value} {ls : mb_L} {x : Int32} : mb_Rn d 161 1634 ls (.int x :: st) σ Q = if x = 0 then mb_Rn d 161 1639 ls st σ Q else mb_Rn d 161 1637 ls st σ Q := rn_ifb rfl (fun _ _ => rfl) beq_iff_eq
set_option maxRecDepth 20000 in
theorem sL_law_1637 {d : Nat} {Q : mb_O → mb_S → Prop} {σ : mb_S} {st : List Value} {ls : mb_L} : mb_Rn d 161 1637 ls st σ Q = mb_Rn d 161 1638 ls (.int 0 :: st) σ Q := rn_step rfl (fun _ _ => rfl)
set_option maxRecDepth 20000 in
theorem sL_law_1638 {d : Nat} {Q : mb_O → mb_S → Prop} {σ : mb_S}  {ls : mb_L} {x : Int32} : mb_Rn d 161 1638 ls [.int x] σ Q = if x = 0 ∨ x = 1 then Q (.inl (some (.int x))) σ else False := rn_zret rfl
set_option maxRecDepth 20000 in
theorem sL_law_1639 {d : Nat} {Q : mb_O → mb_S → Prop} {σ : mb_S} {st : List Value} {ls : mb_L} : mb_Rn d 161 1639 ls st σ Q = mb_Rn d 161 1642 ls st σ Q := rn_step rfl (fun _ _ => rfl)
set_option maxRecDepth 20000 in
theorem sL_law_1642 {d : Nat} {Q : mb_O → mb_S → Prop} {σ : mb_S} {st : List Value} {l0 l1 l2 l3 l5 l6 : Option Value} {x : Int32} : mb_Rn d 161 1642 [l0, l1, l2, l3, some (.int x), l5, l6] st σ Q = mb_Rn d 161 1645 [l0, l1, l2, l3, some (.int (x + 6)), l5, l6] st σ Q := rn_step rfl (fun _ _ => rfl)
set_option maxRecDepth 20000 in
theorem sL_law_1645 {d : Nat} {Q : mb_O → mb_S → Prop} {σ : mb_S} {st : List Value} {ls : mb_L} : mb_Rn d 161 1645 ls st σ Q = mb_Rn d 161 23 ls st σ Q := rn_step rfl (fun _ _ => rfl)
set_option maxRecDepth 20000 in
theorem sL_law_1648 {d : Nat} {Q : mb_O → mb_S → Prop} {σ : mb_S} {st : List Value} {ls : mb_L} : mb_Rn d 161 1648 ls st σ Q = mb_Rn d 161 1649 ls (.int 1 :: st) σ Q := rn_step rfl (fun _ _ => rfl)
set_option maxRecDepth 20000 in
theorem sL_law_1649 {d : Nat} {Q : mb_O → mb_S → Prop} {σ : mb_S}  {ls : mb_L} {x : Int32} : mb_Rn d 161 1649 ls [.int x] σ Q = if x = 0 ∨ x = 1 then Q (.inl (some (.int x))) σ else False := rn_zret rfl
