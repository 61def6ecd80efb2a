/-! the rows as equations of walks (written by wip/whole/gen/steps.py) -/
set_option maxRecDepth 20000 in
theorem sL_call_0 {d : Nat} {Q : mb_O → mb_S → Prop} {σ : mb_S} {st : List Value} {l0 l2 l3 l4 l5 l6 : Option Value} {x : Int32} : mb_Rn d 85 0 [l0, some (.int x), l2, l3, l4, l5, l6] st σ Q = mb_Rn d 85 1 [l0, some (.int x), l2, l3, l4, l5, l6] (.int x :: st) σ Q := rn_step rfl (fun _ _ => rfl)
set_option maxRecDepth 20000 in
theorem sL_call_1 {d : Nat} {Q : mb_O → mb_S → Prop} {σ : mb_S} {st : List Value} {ls : mb_L} {x : Int32} : mb_Rn d 85 1 ls (.int x :: st) σ Q = if x < 0 then mb_Rn d 85 126 ls st σ Q else mb_sw (fun t => mb_Rn d 85 t ls st σ Q) [48, 55, 68, 85, 91, 104, 113, 120] 0 x (mb_Rn d 85 126 ls st σ Q) := rn_tsw rfl (by decide)
set_option maxRecDepth 20000 in
theorem sL_call_48 {d : Nat} {Q : mb_O → mb_S → Prop} {σ : mb_S} {st : List Value} {l1 l2 l3 l4 l5 l6 : Option Value} {a : Nat} : mb_Rn d 85 48 [some (.ref a), l1, l2, l3, l4, l5, l6] st σ Q = mb_Rn d 85 49 [some (.ref a), l1, l2, l3, l4, l5, l6] (.ref a :: st) σ Q := rn_step rfl (fun _ _ => rfl)
set_option maxRecDepth 20000 in
theorem sL_call_48n {d : Nat} {Q : mb_O → mb_S → Prop} {σ : mb_S} {st : List Value} {l1 l2 l3 l4 l5 l6 : Option Value} : mb_Rn d 85 48 [some (.null), l1, l2, l3, l4, l5, l6] st σ Q = mb_Rn d 85 49 [some (.null), l1, l2, l3, l4, l5, l6] (.null :: st) σ Q := rn_step rfl (fun _ _ => rfl)
set_option maxRecDepth 20000 in
theorem sL_call_49 {d : Nat} {Q : mb_O → mb_S → Prop} {σ : mb_S} {st : List Value} {l0 l1 l3 l4 l5 l6 : Option Value} {x : Int32} : mb_Rn d 85 49 [l0, l1, some (.int x), l3, l4, l5, l6] st σ Q = mb_Rn d 85 50 [l0, l1, some (.int x), l3, l4, l5, l6] (.int x :: st) σ Q := rn_step rfl (fun _ _ => rfl)
set_option maxRecDepth 20000 in
theorem sL_call_50 {d : Nat} {Q : mb_O → mb_S → Prop} {σ : mb_S} {st : List Value} {l0 l1 l2 l4 l5 l6 : Option Value} {x : Int32} : mb_Rn d 85 50 [l0, l1, l2, some (.int x), l4, l5, l6] st σ Q = mb_Rn d 85 51 [l0, l1, l2, some (.int x), l4, l5, l6] (.int x :: st) σ Q := rn_step rfl (fun _ _ => rfl)
set_option maxRecDepth 20000 in
theorem sL_call_51 {d : Nat} {Q : mb_O → mb_S → Prop} {σ : mb_S} {st : List Value} {ls : mb_L} {p0 : Int32} {p1 : Int32} {b : Nat} (hd : 1 ≤ d) (h4 : st.length ≤ 4) : mb_Rn d 85 51 ls (.int p1 :: .int p0 :: .ref b :: st) σ Q = mb_gf σ b 7 False (fun _ => mb_Ex (d - 1) 42 [.ref b, .int p0, .int p1] σ (mb_qp d 85 54 ls st Q)) := rn_callvp mb_good rfl hd rfl rfl ⟨rfl, rfl⟩ h4 ⟨Nat.le_of_ble_eq_true rfl, rfl⟩
set_option maxRecDepth 20000 in
theorem sL_call_54 {d : Nat} {Q : mb_O → mb_S → Prop} {σ : mb_S}  {ls : mb_L} {x : Int32} : mb_Rn d 85 54 ls [.int x] σ Q = Q (.inl (some (.int x))) σ := rn_end rfl (fun _ _ => rfl)
set_option maxRecDepth 20000 in
theorem sL_call_55 {d : Nat} {Q : mb_O → mb_S → Prop} {σ : mb_S} {st : List Value} {l1 l2 l3 l4 l5 l6 : Option Value} {a : Nat} : mb_Rn d 85 55 [some (.ref a), l1, l2, l3, l4, l5, l6] st σ Q = mb_Rn d 85 56 [some (.ref a), l1, l2, l3, l4, l5, l6] (.ref a :: st) σ Q := rn_step rfl (fun _ _ => rfl)
set_option maxRecDepth 20000 in
theorem sL_call_55n {d : Nat} {Q : mb_O → mb_S → Prop} {σ : mb_S} {st : List Value} {l1 l2 l3 l4 l5 l6 : Option Value} : mb_Rn d 85 55 [some (.null), l1, l2, l3, l4, l5, l6] st σ Q = mb_Rn d 85 56 [some (.null), l1, l2, l3, l4, l5, l6] (.null :: st) σ Q := rn_step rfl (fun _ _ => rfl)
set_option maxRecDepth 20000 in
theorem sL_call_56 {d : Nat} {Q : mb_O → mb_S → Prop} {σ : mb_S} {st : List Value} {l0 l1 l3 l4 l5 l6 : Option Value} {x : Int32} : mb_Rn d 85 56 [l0, l1, some (.int x), l3, l4, l5, l6] st σ Q = mb_Rn d 85 57 [l0, l1, some (.int x), l3, l4, l5, l6] (.int x :: st) σ Q := rn_step rfl (fun _ _ => rfl)
set_option maxRecDepth 20000 in
theorem sL_call_57 {d : Nat} {Q : mb_O → mb_S → Prop} {σ : mb_S} {st : List Value} {l0 l1 l2 l4 l5 l6 : Option Value} {x : Int32} : mb_Rn d 85 57 [l0, l1, l2, some (.int x), l4, l5, l6] st σ Q = mb_Rn d 85 58 [l0, l1, l2, some (.int x), l4, l5, l6] (.int x :: st) σ Q := rn_step rfl (fun _ _ => rfl)
set_option maxRecDepth 20000 in
theorem sL_call_58 {d : Nat} {Q : mb_O → mb_S → Prop} {σ : mb_S} {st : List Value} {l0 l1 l2 l3 l5 l6 : Option Value} {x : Int32} : mb_Rn d 85 58 [l0, l1, l2, l3, some (.int x), l5, l6] st σ Q = mb_Rn d 85 60 [l0, l1, l2, l3, some (.int x), l5, l6] (.int x :: st) σ Q := rn_step rfl (fun _ _ => rfl)
set_option maxRecDepth 20000 in
theorem sL_call_60 {d : Nat} {Q : mb_O → mb_S → Prop} {σ : mb_S} {st : List Value} {l0 l1 l2 l3 l4 l6 : Option Value} {x : Int32} : mb_Rn d 85 60 [l0, l1, l2, l3, l4, some (.int x), l6] st σ Q = mb_Rn d 85 62 [l0, l1, l2, l3, l4, some (.int x), l6] (.int x :: st) σ Q := rn_step rfl (fun _ _ => rfl)
set_option maxRecDepth 20000 in
theorem sL_call_62 {d : Nat} {Q : mb_O → mb_S → Prop} {σ : mb_S} {st : List Value} {l0 l1 l2 l3 l4 l5 : Option Value} {x : Int32} : mb_Rn d 85 62 [l0, l1, l2, l3, l4, l5, some (.int x)] st σ Q = mb_Rn d 85 64 [l0, l1, l2, l3, l4, l5, some (.int x)] (.int x :: st) σ Q := rn_step rfl (fun _ _ => rfl)
set_option maxRecDepth 20000 in
theorem sL_call_64 {d : Nat} {Q : mb_O → mb_S → Prop} {σ : mb_S} {st : List Value} {ls : mb_L} {p0 : Int32} {p1 : Int32} {p2 : Int32} {p3 : Int32} {p4 : Int32} {b : Nat} (hd : 1 ≤ d) (h4 : st.length ≤ 4) : mb_Rn d 85 64 ls (.int p4 :: .int p3 :: .int p2 :: .int p1 :: .int p0 :: .ref b :: st) σ Q = mb_gf σ b 7 False (fun _ => mb_Ex (d - 1) 43 [.ref b, .int p0, .int p1, .int p2, .int p3, .int p4] σ (mb_qp d 85 67 ls st Q)) := rn_callvp mb_good rfl hd rfl rfl ⟨rfl, rfl⟩ h4 ⟨Nat.le_of_ble_eq_true rfl, rfl⟩
set_option maxRecDepth 20000 in
theorem sL_call_67 {d : Nat} {Q : mb_O → mb_S → Prop} {σ : mb_S}  {ls : mb_L} {x : Int32} : mb_Rn d 85 67 ls [.int x] σ Q = Q (.inl (some (.int x))) σ := rn_end rfl (fun _ _ => rfl)
set_option maxRecDepth 20000 in
theorem sL_call_68 {d : Nat} {Q : mb_O → mb_S → Prop} {σ : mb_S} {st : List Value} {l1 l2 l3 l4 l5 l6 : Option Value} {a : Nat} : mb_Rn d 85 68 [some (.ref a), l1, l2, l3, l4, l5, l6] st σ Q = mb_Rn d 85 69 [some (.ref a), l1, l2, l3, l4, l5, l6] (.ref a :: st) σ Q := rn_step rfl (fun _ _ => rfl)
set_option maxRecDepth 20000 in
theorem sL_call_68n {d : Nat} {Q : mb_O → mb_S → Prop} {σ : mb_S} {st : List Value} {l1 l2 l3 l4 l5 l6 : Option Value} : mb_Rn d 85 68 [some (.null), l1, l2, l3, l4, l5, l6] st σ Q = mb_Rn d 85 69 [some (.null), l1, l2, l3, l4, l5, l6] (.null :: st) σ Q := rn_step rfl (fun _ _ => rfl)
set_option maxRecDepth 20000 in
theorem sL_call_69 {d : Nat} {Q : mb_O → mb_S → Prop} {σ : mb_S} {st : List Value} {l0 l1 l3 l4 l5 l6 : Option Value} {x : Int32} : mb_Rn d 85 69 [l0, l1, some (.int x), l3, l4, l5, l6] st σ Q = mb_Rn d 85 70 [l0, l1, some (.int x), l3, l4, l5, l6] (.int x :: st) σ Q := rn_step rfl (fun _ _ => rfl)
set_option maxRecDepth 20000 in
theorem sL_call_70 {d : Nat} {Q : mb_O → mb_S → Prop} {σ : mb_S} {st : List Value} {l0 l1 l2 l4 l5 l6 : Option Value} {x : Int32} : mb_Rn d 85 70 [l0, l1, l2, some (.int x), l4, l5, l6] st σ Q = mb_Rn d 85 71 [l0, l1, l2, some (.int x), l4, l5, l6] (.int x :: st) σ Q := rn_step rfl (fun _ _ => rfl)
set_option maxRecDepth 20000 in
theorem sL_call_71 {d : Nat} {Q : mb_O → mb_S → Prop} {σ : mb_S} {st : List Value} {l0 l1 l2 l3 l5 l6 : Option Value} {x : Int32} : mb_Rn d 85 71 [l0, l1, l2, l3, some (.int x), l5, l6] st σ Q = mb_Rn d 85 73 [l0, l1, l2, l3, some (.int x), l5, l6] (.int x :: st) σ Q := rn_step rfl (fun _ _ => rfl)
set_option maxRecDepth 20000 in
theorem sL_call_73 {d : Nat} {Q : mb_O → mb_S → Prop} {σ : mb_S} {st : List Value} {ls : mb_L} {p0 : Int32} {p1 : Int32} {p2 : Int32} {b : Nat} (hd : 1 ≤ d) (h4 : st.length ≤ 4) : mb_Rn d 85 73 ls (.int p2 :: .int p1 :: .int p0 :: .ref b :: st) σ Q = mb_gf σ b 7 False (fun _ => mb_Ex (d - 1) 44 [.ref b, .int p0, .int p1, .int p2] σ (mb_qp d 85 76 ls st Q)) := rn_callvp mb_good rfl hd rfl rfl ⟨rfl, rfl⟩ h4 ⟨Nat.le_of_ble_eq_true rfl, rfl⟩
set_option maxRecDepth 20000 in
theorem sL_call_76 {d : Nat} {Q : mb_O → mb_S → Prop} {σ : mb_S} {st : List Value} {ls : mb_L} {x : Int32} : mb_Rn d 85 76 ls (.int x :: st) σ Q = if x = 0 then mb_Rn d 85 83 ls st σ Q else mb_Rn d 85 79 ls st σ Q := rn_ifb rfl (fun _ _ => rfl) beq_iff_eq
set_option maxRecDepth 20000 in
theorem sL_call_79 {d : Nat} {Q : mb_O → mb_S → Prop} {σ : mb_S} {st : List Value} {ls : mb_L} : mb_Rn d 85 79 ls st σ Q = mb_Rn d 85 80 ls (.int 1 :: st) σ Q := rn_step rfl (fun _ _ => rfl)
set_option maxRecDepth 20000 in
theorem sL_call_80 {d : Nat} {Q : mb_O → mb_S → Prop} {σ : mb_S} {st : List Value} {ls : mb_L} : mb_Rn d 85 80 ls st σ Q = mb_Rn d 85 84 ls st σ Q := rn_step rfl (fun _ _ => rfl)
set_option maxRecDepth 20000 in
theorem sL_call_83 {d : Nat} {Q : mb_O → mb_S → Prop} {σ : mb_S} {st : List Value} {ls : mb_L} : mb_Rn d 85 83 ls st σ Q = mb_Rn d 85 84 ls (.int 0 :: st) σ Q := rn_step rfl (fun _ _ => rfl)
set_option maxRecDepth 20000 in
theorem sL_call_84 {d : Nat} {Q : mb_O → mb_S → Prop} {σ : mb_S}  {ls : mb_L} {x : Int32} : mb_Rn d 85 84 ls [.int x] σ Q = Q (.inl (some (.int x))) σ := rn_end rfl (fun _ _ => rfl)
set_option maxRecDepth 20000 in
theorem sL_call_85 {d : Nat} {Q : mb_O → mb_S → Prop} {σ : mb_S} {st : List Value} {l1 l2 l3 l4 l5 l6 : Option Value} {a : Nat} : mb_Rn d 85 85 [some (.ref a), l1, l2, l3, l4, l5, l6] st σ Q = mb_Rn d 85 86 [some (.ref a), l1, l2, l3, l4, l5, l6] (.ref a :: st) σ Q := rn_step rfl (fun _ _ => rfl)
set_option maxRecDepth 20000 in
theorem sL_call_85n {d : Nat} {Q : mb_O → mb_S → Prop} {σ : mb_S} {st : List Value} {l1 l2 l3 l4 l5 l6 : Option Value} : mb_Rn d 85 85 [some (.null), l1, l2, l3, l4, l5, l6] st σ Q = mb_Rn d 85 86 [some (.null), l1, l2, l3, l4, l5, l6] (.null :: st) σ Q := rn_step rfl (fun _ _ => rfl)
set_option maxRecDepth 20000 in
theorem sL_call_86 {d : Nat} {Q : mb_O → mb_S → Prop} {σ : mb_S} {st : List Value} {l0 l1 l3 l4 l5 l6 : Option Value} {x : Int32} : mb_Rn d 85 86 [l0, l1, some (.int x), l3, l4, l5, l6] st σ Q = mb_Rn d 85 87 [l0, l1, some (.int x), l3, l4, l5, l6] (.int x :: st) σ Q := rn_step rfl (fun _ _ => rfl)
set_option maxRecDepth 20000 in
theorem sL_call_87 {d : Nat} {Q : mb_O → mb_S → Prop} {σ : mb_S} {st : List Value} {ls : mb_L} {p0 : Int32} {b : Nat} (hd : 1 ≤ d) (h4 : st.length ≤ 4) : mb_Rn d 85 87 ls (.int p0 :: .ref b :: st) σ Q = mb_gf σ b 7 False (fun _ => mb_Ex (d - 1) 45 [.ref b, .int p0] σ (mb_qp d 85 90 ls st Q)) := rn_callvp mb_good rfl hd rfl rfl ⟨rfl, rfl⟩ h4 ⟨Nat.le_of_ble_eq_true rfl, rfl⟩
set_option maxRecDepth 20000 in
theorem sL_call_90 {d : Nat} {Q : mb_O → mb_S → Prop} {σ : mb_S}  {ls : mb_L} {x : Int32} : mb_Rn d 85 90 ls [.int x] σ Q = Q (.inl (some (.int x))) σ := rn_end rfl (fun _ _ => rfl)
set_option maxRecDepth 20000 in
theorem sL_call_91 {d : Nat} {Q : mb_O → mb_S → Prop} {σ : mb_S} {st : List Value} {l1 l2 l3 l4 l5 l6 : Option Value} {a : Nat} : mb_Rn d 85 91 [some (.ref a), l1, l2, l3, l4, l5, l6] st σ Q = mb_Rn d 85 92 [some (.ref a), l1, l2, l3, l4, l5, l6] (.ref a :: st) σ Q := rn_step rfl (fun _ _ => rfl)
set_option maxRecDepth 20000 in
theorem sL_call_91n {d : Nat} {Q : mb_O → mb_S → Prop} {σ : mb_S} {st : List Value} {l1 l2 l3 l4 l5 l6 : Option Value} : mb_Rn d 85 91 [some (.null), l1, l2, l3, l4, l5, l6] st σ Q = mb_Rn d 85 92 [some (.null), l1, l2, l3, l4, l5, l6] (.null :: st) σ Q := rn_step rfl (fun _ _ => rfl)
set_option maxRecDepth 20000 in
theorem sL_call_92 {d : Nat} {Q : mb_O → mb_S → Prop} {σ : mb_S} {st : List Value} {l0 l1 l3 l4 l5 l6 : Option Value} {x : Int32} : mb_Rn d 85 92 [l0, l1, some (.int x), l3, l4, l5, l6] st σ Q = mb_Rn d 85 93 [l0, l1, some (.int x), l3, l4, l5, l6] (.int x :: st) σ Q := rn_step rfl (fun _ _ => rfl)
set_option maxRecDepth 20000 in
theorem sL_call_93 {d : Nat} {Q : mb_O → mb_S → Prop} {σ : mb_S} {st : List Value} {l0 l1 l2 l4 l5 l6 : Option Value} {x : Int32} : mb_Rn d 85 93 [l0, l1, l2, some (.int x), l4, l5, l6] st σ Q = mb_Rn d 85 94 [l0, l1, l2, some (.int x), l4, l5, l6] (.int x :: st) σ Q := rn_step rfl (fun _ _ => rfl)
set_option maxRecDepth 20000 in
theorem sL_call_94 {d : Nat} {Q : mb_O → mb_S → Prop} {σ : mb_S} {st : List Value} {l0 l1 l2 l3 l5 l6 : Option Value} {x : Int32} : mb_Rn d 85 94 [l0, l1, l2, l3, some (.int x), l5, l6] st σ Q = mb_Rn d 85 96 [l0, l1, l2, l3, some (.int x), l5, l6] (.int x :: st) σ Q := rn_step rfl (fun _ _ => rfl)
set_option maxRecDepth 20000 in
theorem sL_call_96 {d : Nat} {Q : mb_O → mb_S → Prop} {σ : mb_S} {st : List Value} {l0 l1 l2 l3 l4 l6 : Option Value} {x : Int32} : mb_Rn d 85 96 [l0, l1, l2, l3, l4, some (.int x), l6] st σ Q = mb_Rn d 85 98 [l0, l1, l2, l3, l4, some (.int x), l6] (.int x :: st) σ Q := rn_step rfl (fun _ _ => rfl)
set_option maxRecDepth 20000 in
theorem sL_call_98 {d : Nat} {Q : mb_O → mb_S → Prop} {σ : mb_S} {st : List Value} {l0 l1 l2 l3 l4 l5 : Option Value} {x : Int32} : mb_Rn d 85 98 [l0, l1, l2, l3, l4, l5, some (.int x)] st σ Q = mb_Rn d 85 100 [l0, l1, l2, l3, l4, l5, some (.int x)] (.int x :: st) σ Q := rn_step rfl (fun _ _ => rfl)
set_option maxRecDepth 20000 in
theorem sL_call_100 {d : Nat} {Q : mb_O → mb_S → Prop} {σ : mb_S} {st : List Value} {ls : mb_L} {p0 : Int32} {p1 : Int32} {p2 : Int32} {p3 : Int32} {p4 : Int32} {b : Nat} (hd : 1 ≤ d) (h4 : st.length ≤ 4) : mb_Rn d 85 100 ls (.int p4 :: .int p3 :: .int p2 :: .int p1 :: .int p0 :: .ref b :: st) σ Q = mb_gf σ b 7 False (fun _ => mb_Ex (d - 1) 50 [.ref b, .int p0, .int p1, .int p2, .int p3, .int p4] σ (mb_qp d 85 103 ls st Q)) := rn_callvp mb_good rfl hd rfl rfl ⟨rfl, rfl⟩ h4 ⟨Nat.le_of_ble_eq_true rfl, rfl⟩
set_option maxRecDepth 20000 in
theorem sL_call_103 {d : Nat} {Q : mb_O → mb_S → Prop} {σ : mb_S}  {ls : mb_L} {x : Int32} : mb_Rn d 85 103 ls [.int x] σ Q = Q (.inl (some (.int x))) σ := rn_end rfl (fun _ _ => rfl)
set_option maxRecDepth 20000 in
theorem sL_call_104 {d : Nat} {Q : mb_O → mb_S → Prop} {σ : mb_S} {st : List Value} {l1 l2 l3 l4 l5 l6 : Option Value} {a : Nat} : mb_Rn d 85 104 [some (.ref a), l1, l2, l3, l4, l5, l6] st σ Q = mb_Rn d 85 105 [some (.ref a), l1, l2, l3, l4, l5, l6] (.ref a :: st) σ Q := rn_step rfl (fun _ _ => rfl)
set_option maxRecDepth 20000 in
theorem sL_call_104n {d : Nat} {Q : mb_O → mb_S → Prop} {σ : mb_S} {st : List Value} {l1 l2 l3 l4 l5 l6 : Option Value} : mb_Rn d 85 104 [some (.null), l1, l2, l3, l4, l5, l6] st σ Q = mb_Rn d 85 105 [some (.null), l1, l2, l3, l4, l5, l6] (.null :: st) σ Q := rn_step rfl (fun _ _ => rfl)
set_option maxRecDepth 20000 in
theorem sL_call_105 {d : Nat} {Q : mb_O → mb_S → Prop} {σ : mb_S} {st : List Value} {l0 l1 l3 l4 l5 l6 : Option Value} {x : Int32} : mb_Rn d 85 105 [l0, l1, some (.int x), l3, l4, l5, l6] st σ Q = mb_Rn d 85 106 [l0, l1, some (.int x), l3, l4, l5, l6] (.int x :: st) σ Q := rn_step rfl (fun _ _ => rfl)
set_option maxRecDepth 20000 in
theorem sL_call_106 {d : Nat} {Q : mb_O → mb_S → Prop} {σ : mb_S} {st : List Value} {l0 l1 l2 l4 l5 l6 : Option Value} {x : Int32} : mb_Rn d 85 106 [l0, l1, l2, some (.int x), l4, l5, l6] st σ Q = mb_Rn d 85 107 [l0, l1, l2, some (.int x), l4, l5, l6] (.int x :: st) σ Q := rn_step rfl (fun _ _ => rfl)
set_option maxRecDepth 20000 in
theorem sL_call_107 {d : Nat} {Q : mb_O → mb_S → Prop} {σ : mb_S} {st : List Value} {l0 l1 l2 l3 l5 l6 : Option Value} {x : Int32} : mb_Rn d 85 107 [l0, l1, l2, l3, some (.int x), l5, l6] st σ Q = mb_Rn d 85 109 [l0, l1, l2, l3, some (.int x), l5, l6] (.int x :: st) σ Q := rn_step rfl (fun _ _ => rfl)
set_option maxRecDepth 20000 in
theorem sL_call_109 {d : Nat} {Q : mb_O → mb_S → Prop} {σ : mb_S} {st : List Value} {ls : mb_L} {p0 : Int32} {p1 : Int32} {p2 : Int32} {b : Nat} (hd : 1 ≤ d) (h4 : st.length ≤ 4) : mb_Rn d 85 109 ls (.int p2 :: .int p1 :: .int p0 :: .ref b :: st) σ Q = mb_gf σ b 7 False (fun _ => mb_Ex (d - 1) 51 [.ref b, .int p0, .int p1, .int p2] σ (mb_qp d 85 112 ls st Q)) := rn_callvp mb_good rfl hd rfl rfl ⟨rfl, rfl⟩ h4 ⟨Nat.le_of_ble_eq_true rfl, rfl⟩
set_option maxRecDepth 20000 in
theorem sL_call_112 {d : Nat} {Q : mb_O → mb_S → Prop} {σ : mb_S}  {ls : mb_L} {x : Int32} : mb_Rn d 85 112 ls [.int x] σ Q = Q (.inl (some (.int x))) σ := rn_end rfl (fun _ _ => rfl)
set_option maxRecDepth 20000 in
theorem sL_call_113 {d : Nat} {Q : mb_O → mb_S → Prop} {σ : mb_S} {st : List Value} {l1 l2 l3 l4 l5 l6 : Option Value} {a : Nat} : mb_Rn d 85 113 [some (.ref a), l1, l2, l3, l4, l5, l6] st σ Q = mb_Rn d 85 114 [some (.ref a), l1, l2, l3, l4, l5, l6] (.ref a :: st) σ Q := rn_step rfl (fun _ _ => rfl)
set_option maxRecDepth 20000 in
theorem sL_call_113n {d : Nat} {Q : mb_O → mb_S → Prop} {σ : mb_S} {st : List Value} {l1 l2 l3 l4 l5 l6 : Option Value} : mb_Rn d 85 113 [some (.null), l1, l2, l3, l4, l5, l6] st σ Q = mb_Rn d 85 114 [some (.null), l1, l2, l3, l4, l5, l6] (.null :: st) σ Q := rn_step rfl (fun _ _ => rfl)
set_option maxRecDepth 20000 in
theorem sL_call_114 {d : Nat} {Q : mb_O → mb_S → Prop} {σ : mb_S} {st : List Value} {l0 l1 l3 l4 l5 l6 : Option Value} {x : Int32} : mb_Rn d 85 114 [l0, l1, some (.int x), l3, l4, l5, l6] st σ Q = mb_Rn d 85 115 [l0, l1, some (.int x), l3, l4, l5, l6] (.int x :: st) σ Q := rn_step rfl (fun _ _ => rfl)
set_option maxRecDepth 20000 in
theorem sL_call_115 {d : Nat} {Q : mb_O → mb_S → Prop} {σ : mb_S} {st : List Value} {l0 l1 l2 l4 l5 l6 : Option Value} {x : Int32} : mb_Rn d 85 115 [l0, l1, l2, some (.int x), l4, l5, l6] st σ Q = mb_Rn d 85 116 [l0, l1, l2, some (.int x), l4, l5, l6] (.int x :: st) σ Q := rn_step rfl (fun _ _ => rfl)
set_option maxRecDepth 20000 in
theorem sL_call_116 {d : Nat} {Q : mb_O → mb_S → Prop} {σ : mb_S} {st : List Value} {ls : mb_L} {p0 : Int32} {p1 : Int32} {b : Nat} (hd : 1 ≤ d) (h4 : st.length ≤ 4) : mb_Rn d 85 116 ls (.int p1 :: .int p0 :: .ref b :: st) σ Q = mb_gf σ b 7 False (fun _ => mb_Ex (d - 1) 52 [.ref b, .int p0, .int p1] σ (mb_qp d 85 119 ls st Q)) := rn_callvp mb_good rfl hd rfl rfl ⟨rfl, rfl⟩ h4 ⟨Nat.le_of_ble_eq_true rfl, rfl⟩
set_option maxRecDepth 20000 in
theorem sL_call_119 {d : Nat} {Q : mb_O → mb_S → Prop} {σ : mb_S}  {ls : mb_L} {x : Int32} : mb_Rn d 85 119 ls [.int x] σ Q = Q (.inl (some (.int x))) σ := rn_end rfl (fun _ _ => rfl)
set_option maxRecDepth 20000 in
theorem sL_call_120 {d : Nat} {Q : mb_O → mb_S → Prop} {σ : mb_S} {st : List Value} {l1 l2 l3 l4 l5 l6 : Option Value} {a : Nat} : mb_Rn d 85 120 [some (.ref a), l1, l2, l3, l4, l5, l6] st σ Q = mb_Rn d 85 121 [some (.ref a), l1, l2, l3, l4, l5, l6] (.ref a :: st) σ Q := rn_step rfl (fun _ _ => rfl)
set_option maxRecDepth 20000 in
theorem sL_call_120n {d : Nat} {Q : mb_O → mb_S → Prop} {σ : mb_S} {st : List Value} {l1 l2 l3 l4 l5 l6 : Option Value} : mb_Rn d 85 120 [some (.null), l1, l2, l3, l4, l5, l6] st σ Q = mb_Rn d 85 121 [some (.null), l1, l2, l3, l4, l5, l6] (.null :: st) σ Q := rn_step rfl (fun _ _ => rfl)
set_option maxRecDepth 20000 in
theorem sL_call_121 {d : Nat} {Q : mb_O → mb_S → Prop} {σ : mb_S} {st : List Value} {l0 l1 l3 l4 l5 l6 : Option Value} {x : Int32} : mb_Rn d 85 121 [l0, l1, some (.int x), l3, l4, l5, l6] st σ Q = mb_Rn d 85 122 [l0, l1, some (.int x), l3, l4, l5, l6] (.int x :: st) σ Q := rn_step rfl (fun _ _ => rfl)
set_option maxRecDepth 20000 in
theorem sL_call_122 {d : Nat} {Q : mb_O → mb_S → Prop} {σ : mb_S} {st : List Value} {ls : mb_L} {p0 : Int32} {b : Nat} (hd : 1 ≤ d) (h4 : st.length ≤ 4) : mb_Rn d 85 122 ls (.int p0 :: .ref b :: st) σ Q = mb_gf σ b 7 False (fun _ => mb_Ex (d - 1) 53 [.ref b, .int p0] σ (mb_qp d 85 125 ls st Q)) := rn_callvp mb_good rfl hd rfl rfl ⟨rfl, rfl⟩ h4 ⟨Nat.le_of_ble_eq_true rfl, rfl⟩
set_option maxRecDepth 20000 in
theorem sL_call_125 {d : Nat} {Q : mb_O → mb_S → Prop} {σ : mb_S}  {ls : mb_L} {x : Int32} : mb_Rn d 85 125 ls [.int x] σ Q = Q (.inl (some (.int x))) σ := rn_end rfl (fun _ _ => rfl)
set_option maxRecDepth 20000 in
theorem sL_call_126 {d : Nat} {Q : mb_O → mb_S → Prop} {σ : mb_S} {st : List Value} {l1 l2 l3 l4 l5 l6 : Option Value} {a : Nat} : mb_Rn d 85 126 [some (.ref a), l1, l2, l3, l4, l5, l6] st σ Q = mb_Rn d 85 127 [some (.ref a), l1, l2, l3, l4, l5, l6] (.ref a :: st) σ Q := rn_step rfl (fun _ _ => rfl)
set_option maxRecDepth 20000 in
theorem sL_call_126n {d : Nat} {Q : mb_O → mb_S → Prop} {σ : mb_S} {st : List Value} {l1 l2 l3 l4 l5 l6 : Option Value} : mb_Rn d 85 126 [some (.null), l1, l2, l3, l4, l5, l6] st σ Q = mb_Rn d 85 127 [some (.null), l1, l2, l3, l4, l5, l6] (.null :: st) σ Q := rn_step rfl (fun _ _ => rfl)
set_option maxRecDepth 20000 in
theorem sL_call_127 {d : Nat} {Q : mb_O → mb_S → Prop} {σ : mb_S} {st : List Value} {l0 l1 l3 l4 l5 l6 : Option Value} {x : Int32} : mb_Rn d 85 127 [l0, l1, some (.int x), l3, l4, l5, l6] st σ Q = mb_Rn d 85 128 [l0, l1, some (.int x), l3, l4, l5, l6] (.int x :: st) σ Q := rn_step rfl (fun _ _ => rfl)
set_option maxRecDepth 20000 in
theorem sL_call_128 {d : Nat} {Q : mb_O → mb_S → Prop} {σ : mb_S} {st : List Value} {l0 l1 l2 l4 l5 l6 : Option Value} {x : Int32} : mb_Rn d 85 128 [l0, l1, l2, some (.int x), l4, l5, l6] st σ Q = mb_Rn d 85 129 [l0, l1, l2, some (.int x), l4, l5, l6] (.int x :: st) σ Q := rn_step rfl (fun _ _ => rfl)
set_option maxRecDepth 20000 in
theorem sL_call_129 {d : Nat} {Q : mb_O → mb_S → Prop} {σ : mb_S} {st : List Value} {ls : mb_L} {p0 : Int32} {p1 : Int32} {b : Nat} (hd : 1 ≤ d) (h4 : st.length ≤ 4) : mb_Rn d 85 129 ls (.int p1 :: .int p0 :: .ref b :: st) σ Q = mb_gf σ b 7 False (fun _ => mb_Ex (d - 1) 56 [.ref b, .int p0, .int p1] σ (mb_qp d 85 132 ls st Q)) := rn_callvp mb_good rfl hd rfl rfl ⟨rfl, rfl⟩ h4 ⟨Nat.le_of_ble_eq_true rfl, rfl⟩
set_option maxRecDepth 20000 in
theorem sL_call_132 {d : Nat} {Q : mb_O → mb_S → Prop} {σ : mb_S} {st : List Value} {ls : mb_L} {x : Int32} : mb_Rn d 85 132 ls (.int x :: st) σ Q = if x = 0 then mb_Rn d 85 139 ls st σ Q else mb_Rn d 85 135 ls st σ Q := rn_ifb rfl (fun _ _ => rfl) beq_iff_eq
set_option maxRecDepth 20000 in
theorem sL_call_135 {d : Nat} {Q : mb_O → mb_S → Prop} {σ : mb_S} {st : List Value} {ls : mb_L} : mb_Rn d 85 135 ls st σ Q = mb_Rn d 85 136 ls (.int 1 :: st) σ Q := rn_step rfl (fun _ _ => rfl)
set_option maxRecDepth 20000 in
theorem sL_call_136 {d : Nat} {Q : mb_O → mb_S → Prop} {σ : mb_S} {st : List Value} {ls : mb_L} : mb_Rn d 85 136 ls st σ Q = mb_Rn d 85 140 ls st σ Q := rn_step rfl (fun _ _ => rfl)
set_option maxRecDepth 20000 in
theorem sL_call_139 {d : Nat} {Q : mb_O → mb_S → Prop} {σ : mb_S} {st : List Value} {ls : mb_L} : mb_Rn d 85 139 ls st σ Q = mb_Rn d 85 140 ls (.int 0 :: st) σ Q := rn_step rfl (fun _ _ => rfl)
set_option maxRecDepth 20000 in
theorem sL_call_140 {d : Nat} {Q : mb_O → mb_S → Prop} {σ : mb_S}  {ls : mb_L} {x : Int32} : mb_Rn d 85 140 ls [.int x] σ Q = Q (.inl (some (.int x))) σ := rn_end rfl (fun _ _ => rfl)
set_option maxRecDepth 20000 in
theorem sL_ask_0 {d : Nat} {Q : mb_O → mb_S → Prop} {σ : mb_S} {st : List Value} {l1 l2 l3 l4 l5 l6 l7 : Option Value} {a : Nat} : mb_Rn d 86 0 [some (.ref a), l1, l2, l3, l4, l5, l6, l7] st σ Q = mb_Rn d 86 1 [some (.ref a), l1, l2, l3, l4, l5, l6, l7] (.ref a :: st) σ Q := rn_step rfl (fun _ _ => rfl)
set_option maxRecDepth 20000 in
theorem sL_ask_0n {d : Nat} {Q : mb_O → mb_S → Prop} {σ : mb_S} {st : List Value} {l1 l2 l3 l4 l5 l6 l7 : Option Value} : mb_Rn d 86 0 [some (.null), l1, l2, l3, l4, l5, l6, l7] st σ Q = mb_Rn d 86 1 [some (.null), l1, l2, l3, l4, l5, l6, l7] (.null :: st) σ Q := rn_step rfl (fun _ _ => rfl)
set_option maxRecDepth 20000 in
theorem sL_ask_1 {d : Nat} {Q : mb_O → mb_S → Prop} {σ : mb_S} {st : List Value} {l0 l2 l3 l4 l5 l6 l7 : Option Value} {x : Int32} : mb_Rn d 86 1 [l0, some (.int x), l2, l3, l4, l5, l6, l7] st σ Q = mb_Rn d 86 2 [l0, some (.int x), l2, l3, l4, l5, l6, l7] (.int x :: st) σ Q := rn_step rfl (fun _ _ => rfl)
set_option maxRecDepth 20000 in
theorem sL_ask_2 {d : Nat} {Q : mb_O → mb_S → Prop} {σ : mb_S} {st : List Value} {l0 l1 l3 l4 l5 l6 l7 : Option Value} {x : Int32} : mb_Rn d 86 2 [l0, l1, some (.int x), l3, l4, l5, l6, l7] st σ Q = mb_Rn d 86 3 [l0, l1, some (.int x), l3, l4, l5, l6, l7] (.int x :: st) σ Q := rn_step rfl (fun _ _ => rfl)
set_option maxRecDepth 20000 in
theorem sL_ask_3 {d : Nat} {Q : mb_O → mb_S → Prop} {σ : mb_S} {st : List Value} {l0 l1 l2 l4 l5 l6 l7 : Option Value} {x : Int32} : mb_Rn d 86 3 [l0, l1, l2, some (.int x), l4, l5, l6, l7] st σ Q = mb_Rn d 86 4 [l0, l1, l2, some (.int x), l4, l5, l6, l7] (.int x :: st) σ Q := rn_step rfl (fun _ _ => rfl)
set_option maxRecDepth 20000 in
theorem sL_ask_4 {d : Nat} {Q : mb_O → mb_S → Prop} {σ : mb_S} {st : List Value} {l0 l1 l2 l3 l5 l6 l7 : Option Value} {x : Int32} : mb_Rn d 86 4 [l0, l1, l2, l3, some (.int x), l5, l6, l7] st σ Q = mb_Rn d 86 6 [l0, l1, l2, l3, some (.int x), l5, l6, l7] (.int x :: st) σ Q := rn_step rfl (fun _ _ => rfl)
set_option maxRecDepth 20000 in
theorem sL_ask_6 {d : Nat} {Q : mb_O → mb_S → Prop} {σ : mb_S} {st : List Value} {l0 l1 l2 l3 l4 l6 l7 : Option Value} {x : Int32} : mb_Rn d 86 6 [l0, l1, l2, l3, l4, some (.int x), l6, l7] st σ Q = mb_Rn d 86 8 [l0, l1, l2, l3, l4, some (.int x), l6, l7] (.int x :: st) σ Q := rn_step rfl (fun _ _ => rfl)
set_option maxRecDepth 20000 in
theorem sL_ask_8 {d : Nat} {Q : mb_O → mb_S → Prop} {σ : mb_S} {st : List Value} {l0 l1 l2 l3 l4 l5 l7 : Option Value} {x : Int32} : mb_Rn d 86 8 [l0, l1, l2, l3, l4, l5, some (.int x), l7] st σ Q = mb_Rn d 86 10 [l0, l1, l2, l3, l4, l5, some (.int x), l7] (.int x :: st) σ Q := rn_step rfl (fun _ _ => rfl)
set_option maxRecDepth 20000 in
theorem sL_ask_10 {d : Nat} {Q : mb_O → mb_S → Prop} {σ : mb_S} {st : List Value} {ls : mb_L} {p0 : Nat} {p1 : Int32} {p2 : Int32} {p3 : Int32} {p4 : Int32} {p5 : Int32} {p6 : Int32} (hd : 1 ≤ d) (h4 : st.length ≤ 4) : mb_Rn d 86 10 ls (.int p6 :: .int p5 :: .int p4 :: .int p3 :: .int p2 :: .int p1 :: .ref p0 :: st) σ Q = mb_Ex (d - 1) 85 [.ref p0, .int p1, .int p2, .int p3, .int p4, .int p5, .int p6] σ (mb_qx [(2, 16, 7), (1, 21, 7), (0, 26, 7)] d 86 13 ls st Q) := rn_callsx mb_good rfl hd rfl rfl ⟨rfl, rfl⟩ h4 ⟨Nat.le_of_ble_eq_true rfl, rfl⟩
set_option maxRecDepth 20000 in
theorem sL_ask_13 {d : Nat} {Q : mb_O → mb_S → Prop} {σ : mb_S}  {ls : mb_L} {x : Int32} : mb_Rn d 86 13 ls [.int x] σ Q = Q (.inl (some (.int x))) σ := rn_end rfl (fun _ _ => rfl)
set_option maxRecDepth 20000 in
theorem sL_ask_14 {d : Nat} {Q : mb_O → mb_S → Prop} {σ : mb_S} {st : List Value} {l0 l1 l2 l3 l4 l5 l6 l7 : Option Value} {a : Nat} : mb_Rn d 86 14 [l0, l1, l2, l3, l4, l5, l6, l7] (.ref a :: st) σ Q = mb_Rn d 86 16 [l0, l1, l2, l3, l4, l5, l6, some (.ref a)] st σ Q := rn_step rfl (fun _ _ => rfl)
set_option maxRecDepth 20000 in
theorem sL_ask_14n {d : Nat} {Q : mb_O → mb_S → Prop} {σ : mb_S} {st : List Value} {l0 l1 l2 l3 l4 l5 l6 l7 : Option Value} : mb_Rn d 86 14 [l0, l1, l2, l3, l4, l5, l6, l7] (.null :: st) σ Q = mb_Rn d 86 16 [l0, l1, l2, l3, l4, l5, l6, some (.null)] st σ Q := rn_step rfl (fun _ _ => rfl)
set_option maxRecDepth 20000 in
theorem sL_ask_16 {d : Nat} {Q : mb_O → mb_S → Prop} {σ : mb_S} {st : List Value} {ls : mb_L} : mb_Rn d 86 16 ls st σ Q = mb_Rn d 86 18 ls (.int (-1000011) :: st) σ Q := rn_step rfl (fun _ _ => rfl)
set_option maxRecDepth 20000 in
theorem sL_ask_18 {d : Nat} {Q : mb_O → mb_S → Prop} {σ : mb_S}  {ls : mb_L} {x : Int32} : mb_Rn d 86 18 ls [.int x] σ Q = Q (.inl (some (.int x))) σ := rn_end rfl (fun _ _ => rfl)
set_option maxRecDepth 20000 in
theorem sL_ask_19 {d : Nat} {Q : mb_O → mb_S → Prop} {σ : mb_S} {st : List Value} {l0 l1 l2 l3 l4 l5 l6 l7 : Option Value} {a : Nat} : mb_Rn d 86 19 [l0, l1, l2, l3, l4, l5, l6, l7] (.ref a :: st) σ Q = mb_Rn d 86 21 [l0, l1, l2, l3, l4, l5, l6, some (.ref a)] st σ Q := rn_step rfl (fun _ _ => rfl)
set_option maxRecDepth 20000 in
theorem sL_ask_19n {d : Nat} {Q : mb_O → mb_S → Prop} {σ : mb_S} {st : List Value} {l0 l1 l2 l3 l4 l5 l6 l7 : Option Value} : mb_Rn d 86 19 [l0, l1, l2, l3, l4, l5, l6, l7] (.null :: st) σ Q = mb_Rn d 86 21 [l0, l1, l2, l3, l4, l5, l6, some (.null)] st σ Q := rn_step rfl (fun _ _ => rfl)
set_option maxRecDepth 20000 in
theorem sL_ask_21 {d : Nat} {Q : mb_O → mb_S → Prop} {σ : mb_S} {st : List Value} {ls : mb_L} : mb_Rn d 86 21 ls st σ Q = mb_Rn d 86 23 ls (.int (-1000012) :: st) σ Q := rn_step rfl (fun _ _ => rfl)
set_option maxRecDepth 20000 in
theorem sL_ask_23 {d : Nat} {Q : mb_O → mb_S → Prop} {σ : mb_S}  {ls : mb_L} {x : Int32} : mb_Rn d 86 23 ls [.int x] σ Q = Q (.inl (some (.int x))) σ := rn_end rfl (fun _ _ => rfl)
set_option maxRecDepth 20000 in
theorem sL_ask_24 {d : Nat} {Q : mb_O → mb_S → Prop} {σ : mb_S} {st : List Value} {l0 l1 l2 l3 l4 l5 l6 l7 : Option Value} {a : Nat} : mb_Rn d 86 24 [l0, l1, l2, l3, l4, l5, l6, l7] (.ref a :: st) σ Q = mb_Rn d 86 26 [l0, l1, l2, l3, l4, l5, l6, some (.ref a)] st σ Q := rn_step rfl (fun _ _ => rfl)
set_option maxRecDepth 20000 in
theorem sL_ask_24n {d : Nat} {Q : mb_O → mb_S → Prop} {σ : mb_S} {st : List Value} {l0 l1 l2 l3 l4 l5 l6 l7 : Option Value} : mb_Rn d 86 24 [l0, l1, l2, l3, l4, l5, l6, l7] (.null :: st) σ Q = mb_Rn d 86 26 [l0, l1, l2, l3, l4, l5, l6, some (.null)] st σ Q := rn_step rfl (fun _ _ => rfl)
set_option maxRecDepth 20000 in
theorem sL_ask_26 {d : Nat} {Q : mb_O → mb_S → Prop} {σ : mb_S} {st : List Value} {ls : mb_L} : mb_Rn d 86 26 ls st σ Q = mb_Rn d 86 28 ls (.int (-1000013) :: st) σ Q := rn_step rfl (fun _ _ => rfl)
set_option maxRecDepth 20000 in
theorem sL_ask_28 {d : Nat} {Q : mb_O → mb_S → Prop} {σ : mb_S}  {ls : mb_L} {x : Int32} : mb_Rn d 86 28 ls [.int x] σ Q = Q (.inl (some (.int x))) σ := rn_end rfl (fun _ _ => rfl)
set_option maxRecDepth 20000 in
theorem sL_draw_0 {d : Nat} {Q : mb_O → mb_S → Prop} {σ : mb_S} {st : List Value} {l0 : Option Value} {x : Int32} : mb_Rn d 87 0 [l0, some (.int x)] st σ Q = mb_Rn d 87 1 [l0, some (.int x)] (.int x :: st) σ Q := rn_step rfl (fun _ _ => rfl)
set_option maxRecDepth 20000 in
theorem sL_draw_1 {d : Nat} {Q : mb_O → mb_S → Prop} {σ : mb_S} {st : List Value} {l1 : Option Value} {a : Nat} : mb_Rn d 87 1 [some (.ref a), l1] st σ Q = mb_Rn d 87 2 [some (.ref a), l1] (.ref a :: st) σ Q := rn_step rfl (fun _ _ => rfl)
set_option maxRecDepth 20000 in
theorem sL_draw_1n {d : Nat} {Q : mb_O → mb_S → Prop} {σ : mb_S} {st : List Value} {l1 : Option Value} : mb_Rn d 87 1 [some (.null), l1] st σ Q = mb_Rn d 87 2 [some (.null), l1] (.null :: st) σ Q := rn_step rfl (fun _ _ => rfl)
set_option maxRecDepth 20000 in
theorem sL_draw_2 {d : Nat} {Q : mb_O → mb_S → Prop} {σ : mb_S} {st : List Value} {ls : mb_L} {a n : Nat} {f : Nat → Int32} (ha : σ.1 a = some (.inl (9, n, .inl f))) : mb_Rn d 87 2 ls (.ref a :: st) σ Q = mb_Rn d 87 3 ls (.int (Int32.ofNat n) :: st) σ Q := rn_step rfl (fun _ _ => by unfold mi_alen; dsimp only; rw [ha]; rfl)
set_option maxRecDepth 20000 in
theorem sL_draw_3 {d : Nat} {Q : mb_O → mb_S → Prop} {σ : mb_S} {st : List Value} {ls : mb_L} {x z : Int32} : mb_Rn d 87 3 ls (.int z :: .int x :: st) σ Q = if z ≤ x then mb_Rn d 87 12 ls st σ Q else mb_Rn d 87 6 ls st σ Q := rn_ifb rfl (fun _ _ => rfl) decide_eq_true_iff
set_option maxRecDepth 20000 in
theorem sL_draw_6 {d : Nat} {Q : mb_O → mb_S → Prop} {σ : mb_S} {st : List Value} {l1 : Option Value} {a : Nat} : mb_Rn d 87 6 [some (.ref a), l1] st σ Q = mb_Rn d 87 7 [some (.ref a), l1] (.ref a :: st) σ Q := rn_step rfl (fun _ _ => rfl)
set_option maxRecDepth 20000 in
theorem sL_draw_6n {d : Nat} {Q : mb_O → mb_S → Prop} {σ : mb_S} {st : List Value} {l1 : Option Value} : mb_Rn d 87 6 [some (.null), l1] st σ Q = mb_Rn d 87 7 [some (.null), l1] (.null :: st) σ Q := rn_step rfl (fun _ _ => rfl)
set_option maxRecDepth 20000 in
theorem sL_draw_7 {d : Nat} {Q : mb_O → mb_S → Prop} {σ : mb_S} {st : List Value} {l0 : Option Value} {x : Int32} : mb_Rn d 87 7 [l0, some (.int x)] st σ Q = mb_Rn d 87 8 [l0, some (.int x)] (.int x :: st) σ Q := rn_step rfl (fun _ _ => rfl)
set_option maxRecDepth 20000 in
theorem sL_draw_8 {d : Nat} {Q : mb_O → mb_S → Prop} {σ : mb_S} {st : List Value} {ls : mb_L} {a : Nat} {j : Int32} : mb_Rn d 87 8 ls (.int j :: .ref a :: st) σ Q = mb_gi σ a j False (fun kd _ f => if kd = 0 ∨ kd = 9 then mb_Rn d 87 9 ls (.int (f j.toNatClampNeg) :: st) σ Q else False) := rn_iald rfl
set_option maxRecDepth 20000 in
theorem sL_draw_9 {d : Nat} {Q : mb_O → mb_S → Prop} {σ : mb_S} {st : List Value} {ls : mb_L} : mb_Rn d 87 9 ls st σ Q = mb_Rn d 87 27 ls st σ Q := rn_step rfl (fun _ _ => rfl)
set_option maxRecDepth 20000 in
theorem sL_draw_12 {d : Nat} {Q : mb_O → mb_S → Prop} {σ : mb_S} {st : List Value} {ls : mb_L} : mb_Rn d 87 12 ls st σ Q = mb_Rn d 87 14 ls (.int 3760017 :: st) σ Q := rn_step rfl (fun _ _ => rfl)
set_option maxRecDepth 20000 in
theorem sL_draw_14 {d : Nat} {Q : mb_O → mb_S → Prop} {σ : mb_S} {st : List Value} {l0 : Option Value} {x : Int32} : mb_Rn d 87 14 [l0, some (.int x)] st σ Q = mb_Rn d 87 15 [l0, some (.int x)] (.int x :: st) σ Q := rn_step rfl (fun _ _ => rfl)
set_option maxRecDepth 20000 in
theorem sL_draw_15 {d : Nat} {Q : mb_O → mb_S → Prop} {σ : mb_S} {st : List Value} {ls : mb_L} {x z : Int32} : mb_Rn d 87 15 ls (.int z :: .int x :: st) σ Q = mb_Rn d 87 16 ls (.int (x * z) :: st) σ Q := rn_step rfl (fun _ _ => rfl)
set_option maxRecDepth 20000 in
theorem sL_draw_16 {d : Nat} {Q : mb_O → mb_S → Prop} {σ : mb_S} {st : List Value} {l0 : Option Value} {x : Int32} : mb_Rn d 87 16 [l0, some (.int x)] st σ Q = mb_Rn d 87 17 [l0, some (.int x)] (.int x :: st) σ Q := rn_step rfl (fun _ _ => rfl)
set_option maxRecDepth 20000 in
theorem sL_draw_17 {d : Nat} {Q : mb_O → mb_S → Prop} {σ : mb_S} {st : List Value} {ls : mb_L} {x z : Int32} : mb_Rn d 87 17 ls (.int z :: .int x :: st) σ Q = mb_Rn d 87 18 ls (.int (x * z) :: st) σ Q := rn_step rfl (fun _ _ => rfl)
set_option maxRecDepth 20000 in
theorem sL_draw_18 {d : Nat} {Q : mb_O → mb_S → Prop} {σ : mb_S} {st : List Value} {ls : mb_L} : mb_Rn d 87 18 ls st σ Q = mb_Rn d 87 20 ls (.int 154057 :: st) σ Q := rn_step rfl (fun _ _ => rfl)
set_option maxRecDepth 20000 in
theorem sL_draw_20 {d : Nat} {Q : mb_O → mb_S → Prop} {σ : mb_S} {st : List Value} {l0 : Option Value} {x : Int32} : mb_Rn d 87 20 [l0, some (.int x)] st σ Q = mb_Rn d 87 21 [l0, some (.int x)] (.int x :: st) σ Q := rn_step rfl (fun _ _ => rfl)
set_option maxRecDepth 20000 in
theorem sL_draw_21 {d : Nat} {Q : mb_O → mb_S → Prop} {σ : mb_S} {st : List Value} {ls : mb_L} {x z : Int32} : mb_Rn d 87 21 ls (.int z :: .int x :: st) σ Q = mb_Rn d 87 22 ls (.int (x * z) :: st) σ Q := rn_step rfl (fun _ _ => rfl)
set_option maxRecDepth 20000 in
theorem sL_draw_22 {d : Nat} {Q : mb_O → mb_S → Prop} {σ : mb_S} {st : List Value} {ls : mb_L} {x z : Int32} : mb_Rn d 87 22 ls (.int z :: .int x :: st) σ Q = mb_Rn d 87 23 ls (.int (x + z) :: st) σ Q := rn_step rfl (fun _ _ => rfl)
set_option maxRecDepth 20000 in
theorem sL_draw_23 {d : Nat} {Q : mb_O → mb_S → Prop} {σ : mb_S} {st : List Value} {ls : mb_L} : mb_Rn d 87 23 ls st σ Q = mb_Rn d 87 26 ls (.int 329 :: st) σ Q := rn_step rfl (fun _ _ => rfl)
set_option maxRecDepth 20000 in
theorem sL_draw_26 {d : Nat} {Q : mb_O → mb_S → Prop} {σ : mb_S} {st : List Value} {ls : mb_L} {x z : Int32} : mb_Rn d 87 26 ls (.int z :: .int x :: st) σ Q = mb_Rn d 87 27 ls (.int (x + z) :: st) σ Q := rn_step rfl (fun _ _ => rfl)
set_option maxRecDepth 20000 in
theorem sL_draw_27 {d : Nat} {Q : mb_O → mb_S → Prop} {σ : mb_S}  {ls : mb_L} {x : Int32} : mb_Rn d 87 27 ls [.int x] σ Q = Q (.inl (some (.int x))) σ := rn_end rfl (fun _ _ => rfl)
set_option maxRecDepth 20000 in
theorem sL_poses_0 {d : Nat} {Q : mb_O → mb_S → Prop} {σ : mb_S} {st : List Value} {ls : mb_L} : mb_Rn d 88 0 ls st σ Q = mb_Rn d 88 2 ls (.int 17 :: st) σ Q := rn_step rfl (fun _ _ => rfl)
set_option maxRecDepth 20000 in
theorem sL_poses_2 {d : Nat} {Q : mb_O → mb_S → Prop} {σ : mb_S} {st : List Value} {l0 l1 l2 l3 l4 l5 l6 : Option Value} {x : Int32} : mb_Rn d 88 2 [l0, l1, l2, l3, l4, l5, l6] (.int x :: st) σ Q = mb_Rn d 88 4 [l0, l1, l2, l3, some (.int x), l5, l6] st σ Q := rn_step rfl (fun _ _ => rfl)
set_option maxRecDepth 20000 in
theorem sL_poses_4 {d : Nat} {Q : mb_O → mb_S → Prop} {σ : mb_S} {st : List Value} {ls : mb_L} : mb_Rn d 88 4 ls st σ Q = mb_Rn d 88 5 ls (.int 0 :: st) σ Q := rn_step rfl (fun _ _ => rfl)
set_option maxRecDepth 20000 in
theorem sL_poses_5 {d : Nat} {Q : mb_O → mb_S → Prop} {σ : mb_S} {st : List Value} {l0 l1 l2 l3 l4 l5 l6 : Option Value} {x : Int32} : mb_Rn d 88 5 [l0, l1, l2, l3, l4, l5, l6] (.int x :: st) σ Q = mb_Rn d 88 7 [l0, l1, l2, l3, l4, some (.int x), l6] st σ Q := rn_step rfl (fun _ _ => rfl)
set_option maxRecDepth 20000 in
theorem sL_poses_7 {d : Nat} {Q : mb_O → mb_S → Prop} {σ : mb_S} {st : List Value} {l0 l1 l2 l3 l4 l6 : Option Value} {x : Int32} : mb_Rn d 88 7 [l0, l1, l2, l3, l4, some (.int x), l6] st σ Q = mb_Rn d 88 9 [l0, l1, l2, l3, l4, some (.int x), l6] (.int x :: st) σ Q := rn_step rfl (fun _ _ => rfl)
set_option maxRecDepth 20000 in
theorem sL_poses_9 {d : Nat} {Q : mb_O → mb_S → Prop} {σ : mb_S} {st : List Value} {l0 l1 l2 l4 l5 l6 : Option Value} {x : Int32} : mb_Rn d 88 9 [l0, l1, l2, some (.int x), l4, l5, l6] st σ Q = mb_Rn d 88 10 [l0, l1, l2, some (.int x), l4, l5, l6] (.int x :: st) σ Q := rn_step rfl (fun _ _ => rfl)
set_option maxRecDepth 20000 in
theorem sL_poses_10 {d : Nat} {Q : mb_O → mb_S → Prop} {σ : mb_S} {st : List Value} {ls : mb_L} {x z : Int32} : mb_Rn d 88 10 ls (.int z :: .int x :: st) σ Q = if z ≤ x then mb_Rn d 88 53 ls st σ Q else mb_Rn d 88 13 ls st σ Q := rn_ifb rfl (fun _ _ => rfl) decide_eq_true_iff
set_option maxRecDepth 20000 in
theorem sL_poses_13 {d : Nat} {Q : mb_O → mb_S → Prop} {σ : mb_S} {st : List Value} {ls : mb_L} : mb_Rn d 88 13 ls st σ Q = mb_Rn d 88 14 ls (.int 0 :: st) σ Q := rn_step rfl (fun _ _ => rfl)
set_option maxRecDepth 20000 in
theorem sL_poses_14 {d : Nat} {Q : mb_O → mb_S → Prop} {σ : mb_S} {st : List Value} {l0 l1 l2 l3 l4 l5 l6 : Option Value} {x : Int32} : mb_Rn d 88 14 [l0, l1, l2, l3, l4, l5, l6] (.int x :: st) σ Q = mb_Rn d 88 16 [l0, l1, l2, l3, l4, l5, some (.int x)] st σ Q := rn_step rfl (fun _ _ => rfl)
set_option maxRecDepth 20000 in
theorem sL_poses_16 {d : Nat} {Q : mb_O → mb_S → Prop} {σ : mb_S} {st : List Value} {l0 l1 l2 l3 l4 l5 : Option Value} {x : Int32} : mb_Rn d 88 16 [l0, l1, l2, l3, l4, l5, some (.int x)] st σ Q = mb_Rn d 88 18 [l0, l1, l2, l3, l4, l5, some (.int x)] (.int x :: st) σ Q := rn_step rfl (fun _ _ => rfl)
set_option maxRecDepth 20000 in
theorem sL_poses_18 {d : Nat} {Q : mb_O → mb_S → Prop} {σ : mb_S} {st : List Value} {ls : mb_L} : mb_Rn d 88 18 ls st σ Q = mb_Rn d 88 20 ls (.int 100 :: st) σ Q := rn_step rfl (fun _ _ => rfl)
set_option maxRecDepth 20000 in
theorem sL_poses_20 {d : Nat} {Q : mb_O → mb_S → Prop} {σ : mb_S} {st : List Value} {ls : mb_L} {x z : Int32} : mb_Rn d 88 20 ls (.int z :: .int x :: st) σ Q = if z ≤ x then mb_Rn d 88 47 ls st σ Q else mb_Rn d 88 23 ls st σ Q := rn_ifb rfl (fun _ _ => rfl) decide_eq_true_iff
set_option maxRecDepth 20000 in
theorem sL_poses_23 {d : Nat} {Q : mb_O → mb_S → Prop} {σ : mb_S} {st : List Value} {ls : mb_L} : mb_Rn d 88 23 ls st σ Q = mb_Rn d 88 25 ls (.int 31 :: st) σ Q := rn_step rfl (fun _ _ => rfl)
set_option maxRecDepth 20000 in
theorem sL_poses_25 {d : Nat} {Q : mb_O → mb_S → Prop} {σ : mb_S} {st : List Value} {l0 l1 l2 l3 l5 l6 : Option Value} {x : Int32} : mb_Rn d 88 25 [l0, l1, l2, l3, some (.int x), l5, l6] st σ Q = mb_Rn d 88 27 [l0, l1, l2, l3, some (.int x), l5, l6] (.int x :: st) σ Q := rn_step rfl (fun _ _ => rfl)
set_option maxRecDepth 20000 in
theorem sL_poses_27 {d : Nat} {Q : mb_O → mb_S → Prop} {σ : mb_S} {st : List Value} {ls : mb_L} {x z : Int32} : mb_Rn d 88 27 ls (.int z :: .int x :: st) σ Q = mb_Rn d 88 28 ls (.int (x * z) :: st) σ Q := rn_step rfl (fun _ _ => rfl)
set_option maxRecDepth 20000 in
theorem sL_poses_28 {d : Nat} {Q : mb_O → mb_S → Prop} {σ : mb_S} {st : List Value} {l1 l2 l3 l4 l5 l6 : Option Value} {a : Nat} : mb_Rn d 88 28 [some (.ref a), l1, l2, l3, l4, l5, l6] st σ Q = mb_Rn d 88 29 [some (.ref a), l1, l2, l3, l4, l5, l6] (.ref a :: st) σ Q := rn_step rfl (fun _ _ => rfl)
set_option maxRecDepth 20000 in
theorem sL_poses_28n {d : Nat} {Q : mb_O → mb_S → Prop} {σ : mb_S} {st : List Value} {l1 l2 l3 l4 l5 l6 : Option Value} : mb_Rn d 88 28 [some (.null), l1, l2, l3, l4, l5, l6] st σ Q = mb_Rn d 88 29 [some (.null), l1, l2, l3, l4, l5, l6] (.null :: st) σ Q := rn_step rfl (fun _ _ => rfl)
set_option maxRecDepth 20000 in
theorem sL_poses_29 {d : Nat} {Q : mb_O → mb_S → Prop} {σ : mb_S} {st : List Value} {l0 l2 l3 l4 l5 l6 : Option Value} {x : Int32} : mb_Rn d 88 29 [l0, some (.int x), l2, l3, l4, l5, l6] st σ Q = mb_Rn d 88 30 [l0, some (.int x), l2, l3, l4, l5, l6] (.int x :: st) σ Q := rn_step rfl (fun _ _ => rfl)
set_option maxRecDepth 20000 in
theorem sL_poses_30 {d : Nat} {Q : mb_O → mb_S → Prop} {σ : mb_S} {st : List Value} {l0 l1 l3 l4 l5 l6 : Option Value} {x : Int32} : mb_Rn d 88 30 [l0, l1, some (.int x), l3, l4, l5, l6] st σ Q = mb_Rn d 88 31 [l0, l1, some (.int x), l3, l4, l5, l6] (.int x :: st) σ Q := rn_step rfl (fun _ _ => rfl)
set_option maxRecDepth 20000 in
theorem sL_poses_31 {d : Nat} {Q : mb_O → mb_S → Prop} {σ : mb_S} {st : List Value} {l0 l1 l2 l3 l4 l6 : Option Value} {x : Int32} : mb_Rn d 88 31 [l0, l1, l2, l3, l4, some (.int x), l6] st σ Q = mb_Rn d 88 33 [l0, l1, l2, l3, l4, some (.int x), l6] (.int x :: st) σ Q := rn_step rfl (fun _ _ => rfl)
set_option maxRecDepth 20000 in
theorem sL_poses_33 {d : Nat} {Q : mb_O → mb_S → Prop} {σ : mb_S} {st : List Value} {l0 l1 l2 l3 l4 l5 : Option Value} {x : Int32} : mb_Rn d 88 33 [l0, l1, l2, l3, l4, l5, some (.int x)] st σ Q = mb_Rn d 88 35 [l0, l1, l2, l3, l4, l5, some (.int x)] (.int x :: st) σ Q := rn_step rfl (fun _ _ => rfl)
set_option maxRecDepth 20000 in
theorem sL_poses_35 {d : Nat} {Q : mb_O → mb_S → Prop} {σ : mb_S} {st : List Value} {ls : mb_L} {p0 : Int32} {p1 : Int32} {p2 : Int32} {p3 : Int32} {b : Nat} (hd : 1 ≤ d) (h4 : st.length ≤ 4) : mb_Rn d 88 35 ls (.int p3 :: .int p2 :: .int p1 :: .int p0 :: .ref b :: st) σ Q = mb_gf σ b 7 False (fun _ => mb_Ex (d - 1) 46 [.ref b, .int p0, .int p1, .int p2, .int p3] σ (mb_qx [] d 88 38 ls st Q)) := rn_callv mb_good rfl hd rfl rfl ⟨rfl, rfl⟩ h4 ⟨Nat.le_of_ble_eq_true rfl, rfl⟩
set_option maxRecDepth 20000 in
theorem sL_poses_38 {d : Nat} {Q : mb_O → mb_S → Prop} {σ : mb_S} {st : List Value} {ls : mb_L} {x z : Int32} : mb_Rn d 88 38 ls (.int z :: .int x :: st) σ Q = mb_Rn d 88 39 ls (.int (x + z) :: st) σ Q := rn_step rfl (fun _ _ => rfl)
set_option maxRecDepth 20000 in
theorem sL_poses_39 {d : Nat} {Q : mb_O → mb_S → Prop} {σ : mb_S} {st : List Value} {l0 l1 l2 l3 l4 l5 l6 : Option Value} {x : Int32} : mb_Rn d 88 39 [l0, l1, l2, l3, l4, l5, l6] (.int x :: st) σ Q = mb_Rn d 88 41 [l0, l1, l2, l3, some (.int x), l5, l6] st σ Q := rn_step rfl (fun _ _ => rfl)
set_option maxRecDepth 20000 in
theorem sL_poses_41 {d : Nat} {Q : mb_O → mb_S → Prop} {σ : mb_S} {st : List Value} {l0 l1 l2 l3 l4 l5 : Option Value} {x : Int32} : mb_Rn d 88 41 [l0, l1, l2, l3, l4, l5, some (.int x)] st σ Q = mb_Rn d 88 44 [l0, l1, l2, l3, l4, l5, some (.int (x + 33))] st σ Q := rn_step rfl (fun _ _ => rfl)
set_option maxRecDepth 20000 in
theorem sL_poses_44 {d : Nat} {Q : mb_O → mb_S → Prop} {σ : mb_S} {st : List Value} {ls : mb_L} : mb_Rn d 88 44 ls st σ Q = mb_Rn d 88 16 ls st σ Q := rn_step rfl (fun _ _ => rfl)
set_option maxRecDepth 20000 in
theorem sL_poses_47 {d : Nat} {Q : mb_O → mb_S → Prop} {σ : mb_S} {st : List Value} {l0 l1 l2 l3 l4 l6 : Option Value} {x : Int32} : mb_Rn d 88 47 [l0, l1, l2, l3, l4, some (.int x), l6] st σ Q = mb_Rn d 88 50 [l0, l1, l2, l3, l4, some (.int (x + 1)), l6] st σ Q := rn_step rfl (fun _ _ => rfl)
set_option maxRecDepth 20000 in
theorem sL_poses_50 {d : Nat} {Q : mb_O → mb_S → Prop} {σ : mb_S} {st : List Value} {ls : mb_L} : mb_Rn d 88 50 ls st σ Q = mb_Rn d 88 7 ls st σ Q := rn_step rfl (fun _ _ => rfl)
set_option maxRecDepth 20000 in
theorem sL_poses_53 {d : Nat} {Q : mb_O → mb_S → Prop} {σ : mb_S} {st : List Value} {l0 l1 l2 l3 l5 l6 : Option Value} {x : Int32} : mb_Rn d 88 53 [l0, l1, l2, l3, some (.int x), l5, l6] st σ Q = mb_Rn d 88 55 [l0, l1, l2, l3, some (.int x), l5, l6] (.int x :: st) σ Q := rn_step rfl (fun _ _ => rfl)
set_option maxRecDepth 20000 in
theorem sL_poses_55 {d : Nat} {Q : mb_O → mb_S → Prop} {σ : mb_S}  {ls : mb_L} {x : Int32} : mb_Rn d 88 55 ls [.int x] σ Q = Q (.inl (some (.int x))) σ := rn_end rfl (fun _ _ => rfl)
set_option maxRecDepth 20000 in
theorem sL_areFrames_0 {d : Nat} {Q : mb_O → mb_S → Prop} {σ : mb_S} {st : List Value} {ls : mb_L} : mb_Rn d 89 0 ls st σ Q = mb_Rn d 89 1 ls (.int 0 :: st) σ Q := rn_step rfl (fun _ _ => rfl)
set_option maxRecDepth 20000 in
theorem sL_areFrames_1 {d : Nat} {Q : mb_O → mb_S → Prop} {σ : mb_S} {st : List Value} {l0 l1 l2 l3 l4 l5 l6 l7 l8 l9 l10 l11 l12 : Option Value} {x : Int32} : mb_Rn d 89 1 [l0, l1, l2, l3, l4, l5, l6, l7, l8, l9, l10, l11, l12] (.int x :: st) σ Q = mb_Rn d 89 3 [l0, l1, l2, l3, some (.int x), l5, l6, l7, l8, l9, l10, l11, l12] st σ Q := rn_step rfl (fun _ _ => rfl)
set_option maxRecDepth 20000 in
theorem sL_areFrames_3 {d : Nat} {Q : mb_O → mb_S → Prop} {σ : mb_S} {st : List Value} {ls : mb_L} : mb_Rn d 89 3 ls st σ Q = mb_Rn d 89 4 ls (.int 0 :: st) σ Q := rn_step rfl (fun _ _ => rfl)
set_option maxRecDepth 20000 in
theorem sL_areFrames_4 {d : Nat} {Q : mb_O → mb_S → Prop} {σ : mb_S} {st : List Value} {l0 l1 l2 l3 l4 l5 l6 l7 l8 l9 l10 l11 l12 : Option Value} {x : Int32} : mb_Rn d 89 4 [l0, l1, l2, l3, l4, l5, l6, l7, l8, l9, l10, l11, l12] (.int x :: st) σ Q = mb_Rn d 89 6 [l0, l1, l2, l3, l4, some (.int x), l6, l7, l8, l9, l10, l11, l12] st σ Q := rn_step rfl (fun _ _ => rfl)
set_option maxRecDepth 20000 in
theorem sL_areFrames_6 {d : Nat} {Q : mb_O → mb_S → Prop} {σ : mb_S} {st : List Value} {ls : mb_L} : mb_Rn d 89 6 ls st σ Q = mb_Rn d 89 7 ls (.int (-1) :: st) σ Q := rn_step rfl (fun _ _ => rfl)
set_option maxRecDepth 20000 in
theorem sL_areFrames_7 {d : Nat} {Q : mb_O → mb_S → Prop} {σ : mb_S} {st : List Value} {l0 l1 l2 l3 l4 l5 l6 l7 l8 l9 l10 l11 l12 : Option Value} {x : Int32} : mb_Rn d 89 7 [l0, l1, l2, l3, l4, l5, l6, l7, l8, l9, l10, l11, l12] (.int x :: st) σ Q = mb_Rn d 89 9 [l0, l1, l2, l3, l4, l5, some (.int x), l7, l8, l9, l10, l11, l12] st σ Q := rn_step rfl (fun _ _ => rfl)
set_option maxRecDepth 20000 in
theorem sL_areFrames_9 {d : Nat} {Q : mb_O → mb_S → Prop} {σ : mb_S} {st : List Value} {ls : mb_L} : mb_Rn d 89 9 ls st σ Q = mb_Rn d 89 10 ls (.int 1 :: st) σ Q := rn_step rfl (fun _ _ => rfl)
set_option maxRecDepth 20000 in
theorem sL_areFrames_10 {d : Nat} {Q : mb_O → mb_S → Prop} {σ : mb_S} {st : List Value} {l0 l1 l2 l3 l4 l5 l6 l7 l8 l9 l10 l11 l12 : Option Value} {x : Int32} : mb_Rn d 89 10 [l0, l1, l2, l3, l4, l5, l6, l7, l8, l9, l10, l11, l12] (.int x :: st) σ Q = mb_Rn d 89 12 [l0, l1, l2, l3, l4, l5, l6, some (.int x), l8, l9, l10, l11, l12] st σ Q := rn_step rfl (fun _ _ => rfl)
set_option maxRecDepth 20000 in
theorem sL_areFrames_12 {d : Nat} {Q : mb_O → mb_S → Prop} {σ : mb_S} {st : List Value} {ls : mb_L} : mb_Rn d 89 12 ls st σ Q = mb_Rn d 89 13 ls (.int 0 :: st) σ Q := rn_step rfl (fun _ _ => rfl)
set_option maxRecDepth 20000 in
theorem sL_areFrames_13 {d : Nat} {Q : mb_O → mb_S → Prop} {σ : mb_S} {st : List Value} {l0 l1 l2 l3 l4 l5 l6 l7 l8 l9 l10 l11 l12 : Option Value} {x : Int32} : mb_Rn d 89 13 [l0, l1, l2, l3, l4, l5, l6, l7, l8, l9, l10, l11, l12] (.int x :: st) σ Q = mb_Rn d 89 15 [l0, l1, l2, l3, l4, l5, l6, l7, some (.int x), l9, l10, l11, l12] st σ Q := rn_step rfl (fun _ _ => rfl)
set_option maxRecDepth 20000 in
theorem sL_areFrames_15 {d : Nat} {Q : mb_O → mb_S → Prop} {σ : mb_S} {st : List Value} {l0 l1 l2 l3 l4 l5 l6 l7 l9 l10 l11 l12 : Option Value} {x : Int32} : mb_Rn d 89 15 [l0, l1, l2, l3, l4, l5, l6, l7, some (.int x), l9, l10, l11, l12] st σ Q = mb_Rn d 89 17 [l0, l1, l2, l3, l4, l5, l6, l7, some (.int x), l9, l10, l11, l12] (.int x :: st) σ Q := rn_step rfl (fun _ _ => rfl)
set_option maxRecDepth 20000 in
theorem sL_areFrames_17 {d : Nat} {Q : mb_O → mb_S → Prop} {σ : mb_S} {st : List Value} {l0 l1 l3 l4 l5 l6 l7 l8 l9 l10 l11 l12 : Option Value} {x : Int32} : mb_Rn d 89 17 [l0, l1, some (.int x), l3, l4, l5, l6, l7, l8, l9, l10, l11, l12] st σ Q = mb_Rn d 89 18 [l0, l1, some (.int x), l3, l4, l5, l6, l7, l8, l9, l10, l11, l12] (.int x :: st) σ Q := rn_step rfl (fun _ _ => rfl)
set_option maxRecDepth 20000 in
theorem sL_areFrames_18 {d : Nat} {Q : mb_O → mb_S → Prop} {σ : mb_S} {st : List Value} {ls : mb_L} {x z : Int32} : mb_Rn d 89 18 ls (.int z :: .int x :: st) σ Q = if z ≤ x then mb_Rn d 89 230 ls st σ Q else mb_Rn d 89 21 ls st σ Q := rn_ifb rfl (fun _ _ => rfl) decide_eq_true_iff
set_option maxRecDepth 20000 in
theorem sL_areFrames_21 {d : Nat} {Q : mb_O → mb_S → Prop} {σ : mb_S} {st : List Value} {l0 l1 l2 l3 l4 l5 l6 l8 l9 l10 l11 l12 : Option Value} {x : Int32} : mb_Rn d 89 21 [l0, l1, l2, l3, l4, l5, l6, some (.int x), l8, l9, l10, l11, l12] st σ Q = mb_Rn d 89 23 [l0, l1, l2, l3, l4, l5, l6, some (.int x), l8, l9, l10, l11, l12] (.int x :: st) σ Q := rn_step rfl (fun _ _ => rfl)
set_option maxRecDepth 20000 in
theorem sL_areFrames_23 {d : Nat} {Q : mb_O → mb_S → Prop} {σ : mb_S} {st : List Value} {ls : mb_L} {x : Int32} : mb_Rn d 89 23 ls (.int x :: st) σ Q = if x = 0 then mb_Rn d 89 230 ls st σ Q else mb_Rn d 89 26 ls st σ Q := rn_ifb rfl (fun _ _ => rfl) beq_iff_eq
set_option maxRecDepth 20000 in
theorem sL_areFrames_26 {d : Nat} {Q : mb_O → mb_S → Prop} {σ : mb_S} {st : List Value} {l1 l2 l3 l4 l5 l6 l7 l8 l9 l10 l11 l12 : Option Value} {a : Nat} : mb_Rn d 89 26 [some (.ref a), l1, l2, l3, l4, l5, l6, l7, l8, l9, l10, l11, l12] st σ Q = mb_Rn d 89 27 [some (.ref a), l1, l2, l3, l4, l5, l6, l7, l8, l9, l10, l11, l12] (.ref a :: st) σ Q := rn_step rfl (fun _ _ => rfl)
set_option maxRecDepth 20000 in
theorem sL_areFrames_26n {d : Nat} {Q : mb_O → mb_S → Prop} {σ : mb_S} {st : List Value} {l1 l2 l3 l4 l5 l6 l7 l8 l9 l10 l11 l12 : Option Value} : mb_Rn d 89 26 [some (.null), l1, l2, l3, l4, l5, l6, l7, l8, l9, l10, l11, l12] st σ Q = mb_Rn d 89 27 [some (.null), l1, l2, l3, l4, l5, l6, l7, l8, l9, l10, l11, l12] (.null :: st) σ Q := rn_step rfl (fun _ _ => rfl)
set_option maxRecDepth 20000 in
theorem sL_areFrames_27 {d : Nat} {Q : mb_O → mb_S → Prop} {σ : mb_S} {st : List Value} {l0 l2 l3 l4 l5 l6 l7 l8 l9 l10 l11 l12 : Option Value} {x : Int32} : mb_Rn d 89 27 [l0, some (.int x), l2, l3, l4, l5, l6, l7, l8, l9, l10, l11, l12] st σ Q = mb_Rn d 89 28 [l0, some (.int x), l2, l3, l4, l5, l6, l7, l8, l9, l10, l11, l12] (.int x :: st) σ Q := rn_step rfl (fun _ _ => rfl)
set_option maxRecDepth 20000 in
theorem sL_areFrames_28 {d : Nat} {Q : mb_O → mb_S → Prop} {σ : mb_S} {st : List Value} {l0 l1 l2 l3 l4 l5 l6 l7 l9 l10 l11 l12 : Option Value} {x : Int32} : mb_Rn d 89 28 [l0, l1, l2, l3, l4, l5, l6, l7, some (.int x), l9, l10, l11, l12] st σ Q = mb_Rn d 89 30 [l0, l1, l2, l3, l4, l5, l6, l7, some (.int x), l9, l10, l11, l12] (.int x :: st) σ Q := rn_step rfl (fun _ _ => rfl)
set_option maxRecDepth 20000 in
theorem sL_areFrames_30 {d : Nat} {Q : mb_O → mb_S → Prop} {σ : mb_S} {st : List Value} {ls : mb_L} : mb_Rn d 89 30 ls st σ Q = mb_Rn d 89 31 ls (.int 0 :: st) σ Q := rn_step rfl (fun _ _ => rfl)
set_option maxRecDepth 20000 in
theorem sL_areFrames_31 {d : Nat} {Q : mb_O → mb_S → Prop} {σ : mb_S} {st : List Value} {ls : mb_L} {p0 : Int32} {p1 : Int32} {p2 : Int32} {b : Nat} (hd : 1 ≤ d) (h4 : st.length ≤ 4) : mb_Rn d 89 31 ls (.int p2 :: .int p1 :: .int p0 :: .ref b :: st) σ Q = mb_gf σ b 7 False (fun _ => mb_Ex (d - 1) 59 [.ref b, .int p0, .int p1, .int p2] σ (mb_qx [] d 89 34 ls st Q)) := rn_callv mb_good rfl hd rfl rfl ⟨rfl, rfl⟩ h4 ⟨Nat.le_of_ble_eq_true rfl, rfl⟩
set_option maxRecDepth 20000 in
theorem sL_areFrames_34 {d : Nat} {Q : mb_O → mb_S → Prop} {σ : mb_S} {st : List Value} {l0 l1 l2 l3 l4 l5 l6 l7 l8 l9 l10 l11 l12 : Option Value} {x : Int32} : mb_Rn d 89 34 [l0, l1, l2, l3, l4, l5, l6, l7, l8, l9, l10, l11, l12] (.int x :: st) σ Q = mb_Rn d 89 36 [l0, l1, l2, l3, l4, l5, l6, l7, l8, some (.int x), l10, l11, l12] st σ Q := rn_step rfl (fun _ _ => rfl)
set_option maxRecDepth 20000 in
theorem sL_areFrames_36 {d : Nat} {Q : mb_O → mb_S → Prop} {σ : mb_S} {st : List Value} {l1 l2 l3 l4 l5 l6 l7 l8 l9 l10 l11 l12 : Option Value} {a : Nat} : mb_Rn d 89 36 [some (.ref a), l1, l2, l3, l4, l5, l6, l7, l8, l9, l10, l11, l12] st σ Q = mb_Rn d 89 37 [some (.ref a), l1, l2, l3, l4, l5, l6, l7, l8, l9, l10, l11, l12] (.ref a :: st) σ Q := rn_step rfl (fun _ _ => rfl)
set_option maxRecDepth 20000 in
theorem sL_areFrames_36n {d : Nat} {Q : mb_O → mb_S → Prop} {σ : mb_S} {st : List Value} {l1 l2 l3 l4 l5 l6 l7 l8 l9 l10 l11 l12 : Option Value} : mb_Rn d 89 36 [some (.null), l1, l2, l3, l4, l5, l6, l7, l8, l9, l10, l11, l12] st σ Q = mb_Rn d 89 37 [some (.null), l1, l2, l3, l4, l5, l6, l7, l8, l9, l10, l11, l12] (.null :: st) σ Q := rn_step rfl (fun _ _ => rfl)
set_option maxRecDepth 20000 in
theorem sL_areFrames_37 {d : Nat} {Q : mb_O → mb_S → Prop} {σ : mb_S} {st : List Value} {l0 l2 l3 l4 l5 l6 l7 l8 l9 l10 l11 l12 : Option Value} {x : Int32} : mb_Rn d 89 37 [l0, some (.int x), l2, l3, l4, l5, l6, l7, l8, l9, l10, l11, l12] st σ Q = mb_Rn d 89 38 [l0, some (.int x), l2, l3, l4, l5, l6, l7, l8, l9, l10, l11, l12] (.int x :: st) σ Q := rn_step rfl (fun _ _ => rfl)
set_option maxRecDepth 20000 in
theorem sL_areFrames_38 {d : Nat} {Q : mb_O → mb_S → Prop} {σ : mb_S} {st : List Value} {l0 l1 l2 l3 l4 l5 l6 l7 l9 l10 l11 l12 : Option Value} {x : Int32} : mb_Rn d 89 38 [l0, l1, l2, l3, l4, l5, l6, l7, some (.int x), l9, l10, l11, l12] st σ Q = mb_Rn d 89 40 [l0, l1, l2, l3, l4, l5, l6, l7, some (.int x), l9, l10, l11, l12] (.int x :: st) σ Q := rn_step rfl (fun _ _ => rfl)
set_option maxRecDepth 20000 in
theorem sL_areFrames_40 {d : Nat} {Q : mb_O → mb_S → Prop} {σ : mb_S} {st : List Value} {ls : mb_L} : mb_Rn d 89 40 ls st σ Q = mb_Rn d 89 41 ls (.int 5 :: st) σ Q := rn_step rfl (fun _ _ => rfl)
set_option maxRecDepth 20000 in
theorem sL_areFrames_41 {d : Nat} {Q : mb_O → mb_S → Prop} {σ : mb_S} {st : List Value} {ls : mb_L} {p0 : Int32} {p1 : Int32} {p2 : Int32} {b : Nat} (hd : 1 ≤ d) (h4 : st.length ≤ 4) : mb_Rn d 89 41 ls (.int p2 :: .int p1 :: .int p0 :: .ref b :: st) σ Q = mb_gf σ b 7 False (fun _ => mb_Ex (d - 1) 59 [.ref b, .int p0, .int p1, .int p2] σ (mb_qx [] d 89 44 ls st Q)) := rn_callv mb_good rfl hd rfl rfl ⟨rfl, rfl⟩ h4 ⟨Nat.le_of_ble_eq_true rfl, rfl⟩
set_option maxRecDepth 20000 in
theorem sL_areFrames_44 {d : Nat} {Q : mb_O → mb_S → Prop} {σ : mb_S} {st : List Value} {l0 l1 l2 l3 l4 l5 l6 l7 l8 l9 l10 l11 l12 : Option Value} {x : Int32} : mb_Rn d 89 44 [l0, l1, l2, l3, l4, l5, l6, l7, l8, l9, l10, l11, l12] (.int x :: st) σ Q = mb_Rn d 89 46 [l0, l1, l2, l3, l4, l5, l6, l7, l8, l9, some (.int x), l11, l12] st σ Q := rn_step rfl (fun _ _ => rfl)
set_option maxRecDepth 20000 in
theorem sL_areFrames_46 {d : Nat} {Q : mb_O → mb_S → Prop} {σ : mb_S} {st : List Value} {l0 l1 l2 l3 l5 l6 l7 l8 l9 l10 l11 l12 : Option Value} {x : Int32} : mb_Rn d 89 46 [l0, l1, l2, l3, some (.int x), l5, l6, l7, l8, l9, l10, l11, l12] st σ Q = mb_Rn d 89 48 [l0, l1, l2, l3, some (.int x), l5, l6, l7, l8, l9, l10, l11, l12] (.int x :: st) σ Q := rn_step rfl (fun _ _ => rfl)
set_option maxRecDepth 20000 in
theorem sL_areFrames_48 {d : Nat} {Q : mb_O → mb_S → Prop} {σ : mb_S} {st : List Value} {l1 l2 l3 l4 l5 l6 l7 l8 l9 l10 l11 l12 : Option Value} {a : Nat} : mb_Rn d 89 48 [some (.ref a), l1, l2, l3, l4, l5, l6, l7, l8, l9, l10, l11, l12] st σ Q = mb_Rn d 89 49 [some (.ref a), l1, l2, l3, l4, l5, l6, l7, l8, l9, l10, l11, l12] (.ref a :: st) σ Q := rn_step rfl (fun _ _ => rfl)
set_option maxRecDepth 20000 in
theorem sL_areFrames_48n {d : Nat} {Q : mb_O → mb_S → Prop} {σ : mb_S} {st : List Value} {l1 l2 l3 l4 l5 l6 l7 l8 l9 l10 l11 l12 : Option Value} : mb_Rn d 89 48 [some (.null), l1, l2, l3, l4, l5, l6, l7, l8, l9, l10, l11, l12] st σ Q = mb_Rn d 89 49 [some (.null), l1, l2, l3, l4, l5, l6, l7, l8, l9, l10, l11, l12] (.null :: st) σ Q := rn_step rfl (fun _ _ => rfl)
set_option maxRecDepth 20000 in
theorem sL_areFrames_49 {d : Nat} {Q : mb_O → mb_S → Prop} {σ : mb_S} {st : List Value} {l0 l2 l3 l4 l5 l6 l7 l8 l9 l10 l11 l12 : Option Value} {x : Int32} : mb_Rn d 89 49 [l0, some (.int x), l2, l3, l4, l5, l6, l7, l8, l9, l10, l11, l12] st σ Q = mb_Rn d 89 50 [l0, some (.int x), l2, l3, l4, l5, l6, l7, l8, l9, l10, l11, l12] (.int x :: st) σ Q := rn_step rfl (fun _ _ => rfl)
set_option maxRecDepth 20000 in
theorem sL_areFrames_50 {d : Nat} {Q : mb_O → mb_S → Prop} {σ : mb_S} {st : List Value} {l0 l1 l2 l3 l4 l5 l6 l7 l9 l10 l11 l12 : Option Value} {x : Int32} : mb_Rn d 89 50 [l0, l1, l2, l3, l4, l5, l6, l7, some (.int x), l9, l10, l11, l12] st σ Q = mb_Rn d 89 52 [l0, l1, l2, l3, l4, l5, l6, l7, some (.int x), l9, l10, l11, l12] (.int x :: st) σ Q := rn_step rfl (fun _ _ => rfl)
set_option maxRecDepth 20000 in
theorem sL_areFrames_52 {d : Nat} {Q : mb_O → mb_S → Prop} {σ : mb_S} {st : List Value} {ls : mb_L} : mb_Rn d 89 52 ls st σ Q = mb_Rn d 89 53 ls (.int 2 :: st) σ Q := rn_step rfl (fun _ _ => rfl)
set_option maxRecDepth 20000 in
theorem sL_areFrames_53 {d : Nat} {Q : mb_O → mb_S → Prop} {σ : mb_S} {st : List Value} {ls : mb_L} {p0 : Int32} {p1 : Int32} {p2 : Int32} {b : Nat} (hd : 1 ≤ d) (h4 : st.length ≤ 4) : mb_Rn d 89 53 ls (.int p2 :: .int p1 :: .int p0 :: .ref b :: st) σ Q = mb_gf σ b 7 False (fun _ => mb_Ex (d - 1) 59 [.ref b, .int p0, .int p1, .int p2] σ (mb_qx [] d 89 56 ls st Q)) := rn_callv mb_good rfl hd rfl rfl ⟨rfl, rfl⟩ h4 ⟨Nat.le_of_ble_eq_true rfl, rfl⟩
set_option maxRecDepth 20000 in
theorem sL_areFrames_56 {d : Nat} {Q : mb_O → mb_S → Prop} {σ : mb_S} {st : List Value} {ls : mb_L} {x z : Int32} : mb_Rn d 89 56 ls (.int z :: .int x :: st) σ Q = mb_Rn d 89 57 ls (.int (x + z) :: st) σ Q := rn_step rfl (fun _ _ => rfl)
set_option maxRecDepth 20000 in
theorem sL_areFrames_57 {d : Nat} {Q : mb_O → mb_S → Prop} {σ : mb_S} {st : List Value} {l0 l1 l2 l3 l4 l5 l6 l7 l8 l9 l10 l11 l12 : Option Value} {x : Int32} : mb_Rn d 89 57 [l0, l1, l2, l3, l4, l5, l6, l7, l8, l9, l10, l11, l12] (.int x :: st) σ Q = mb_Rn d 89 59 [l0, l1, l2, l3, some (.int x), l5, l6, l7, l8, l9, l10, l11, l12] st σ Q := rn_step rfl (fun _ _ => rfl)
set_option maxRecDepth 20000 in
theorem sL_areFrames_59 {d : Nat} {Q : mb_O → mb_S → Prop} {σ : mb_S} {st : List Value} {l0 l1 l2 l3 l4 l6 l7 l8 l9 l10 l11 l12 : Option Value} {x : Int32} : mb_Rn d 89 59 [l0, l1, l2, l3, l4, some (.int x), l6, l7, l8, l9, l10, l11, l12] st σ Q = mb_Rn d 89 61 [l0, l1, l2, l3, l4, some (.int x), l6, l7, l8, l9, l10, l11, l12] (.int x :: st) σ Q := rn_step rfl (fun _ _ => rfl)
set_option maxRecDepth 20000 in
theorem sL_areFrames_61 {d : Nat} {Q : mb_O → mb_S → Prop} {σ : mb_S} {st : List Value} {l1 l2 l3 l4 l5 l6 l7 l8 l9 l10 l11 l12 : Option Value} {a : Nat} : mb_Rn d 89 61 [some (.ref a), l1, l2, l3, l4, l5, l6, l7, l8, l9, l10, l11, l12] st σ Q = mb_Rn d 89 62 [some (.ref a), l1, l2, l3, l4, l5, l6, l7, l8, l9, l10, l11, l12] (.ref a :: st) σ Q := rn_step rfl (fun _ _ => rfl)
set_option maxRecDepth 20000 in
theorem sL_areFrames_61n {d : Nat} {Q : mb_O → mb_S → Prop} {σ : mb_S} {st : List Value} {l1 l2 l3 l4 l5 l6 l7 l8 l9 l10 l11 l12 : Option Value} : mb_Rn d 89 61 [some (.null), l1, l2, l3, l4, l5, l6, l7, l8, l9, l10, l11, l12] st σ Q = mb_Rn d 89 62 [some (.null), l1, l2, l3, l4, l5, l6, l7, l8, l9, l10, l11, l12] (.null :: st) σ Q := rn_step rfl (fun _ _ => rfl)
set_option maxRecDepth 20000 in
theorem sL_areFrames_62 {d : Nat} {Q : mb_O → mb_S → Prop} {σ : mb_S} {st : List Value} {l0 l2 l3 l4 l5 l6 l7 l8 l9 l10 l11 l12 : Option Value} {x : Int32} : mb_Rn d 89 62 [l0, some (.int x), l2, l3, l4, l5, l6, l7, l8, l9, l10, l11, l12] st σ Q = mb_Rn d 89 63 [l0, some (.int x), l2, l3, l4, l5, l6, l7, l8, l9, l10, l11, l12] (.int x :: st) σ Q := rn_step rfl (fun _ _ => rfl)
set_option maxRecDepth 20000 in
theorem sL_areFrames_63 {d : Nat} {Q : mb_O → mb_S → Prop} {σ : mb_S} {st : List Value} {l0 l1 l2 l3 l4 l5 l6 l7 l9 l10 l11 l12 : Option Value} {x : Int32} : mb_Rn d 89 63 [l0, l1, l2, l3, l4, l5, l6, l7, some (.int x), l9, l10, l11, l12] st σ Q = mb_Rn d 89 65 [l0, l1, l2, l3, l4, l5, l6, l7, some (.int x), l9, l10, l11, l12] (.int x :: st) σ Q := rn_step rfl (fun _ _ => rfl)
set_option maxRecDepth 20000 in
theorem sL_areFrames_65 {d : Nat} {Q : mb_O → mb_S → Prop} {σ : mb_S} {st : List Value} {ls : mb_L} : mb_Rn d 89 65 ls st σ Q = mb_Rn d 89 66 ls (.int 4 :: st) σ Q := rn_step rfl (fun _ _ => rfl)
set_option maxRecDepth 20000 in
theorem sL_areFrames_66 {d : Nat} {Q : mb_O → mb_S → Prop} {σ : mb_S} {st : List Value} {ls : mb_L} {p0 : Int32} {p1 : Int32} {p2 : Int32} {b : Nat} (hd : 1 ≤ d) (h4 : st.length ≤ 4) : mb_Rn d 89 66 ls (.int p2 :: .int p1 :: .int p0 :: .ref b :: st) σ Q = mb_gf σ b 7 False (fun _ => mb_Ex (d - 1) 59 [.ref b, .int p0, .int p1, .int p2] σ (mb_qx [] d 89 69 ls st Q)) := rn_callv mb_good rfl hd rfl rfl ⟨rfl, rfl⟩ h4 ⟨Nat.le_of_ble_eq_true rfl, rfl⟩
set_option maxRecDepth 20000 in
theorem sL_areFrames_69 {d : Nat} {Q : mb_O → mb_S → Prop} {σ : mb_S} {st : List Value} {ls : mb_L} {x z : Int32} : mb_Rn d 89 69 ls (.int z :: .int x :: st) σ Q = mb_Rn d 89 70 ls (.int (x + z) :: st) σ Q := rn_step rfl (fun _ _ => rfl)
set_option maxRecDepth 20000 in
theorem sL_areFrames_70 {d : Nat} {Q : mb_O → mb_S → Prop} {σ : mb_S} {st : List Value} {l0 l1 l2 l3 l4 l5 l6 l7 l8 l9 l10 l11 l12 : Option Value} {x : Int32} : mb_Rn d 89 70 [l0, l1, l2, l3, l4, l5, l6, l7, l8, l9, l10, l11, l12] (.int x :: st) σ Q = mb_Rn d 89 72 [l0, l1, l2, l3, l4, some (.int x), l6, l7, l8, l9, l10, l11, l12] st σ Q := rn_step rfl (fun _ _ => rfl)
set_option maxRecDepth 20000 in
theorem sL_areFrames_72 {d : Nat} {Q : mb_O → mb_S → Prop} {σ : mb_S} {st : List Value} {l0 l1 l2 l3 l4 l5 l6 l7 l8 l10 l11 l12 : Option Value} {x : Int32} : mb_Rn d 89 72 [l0, l1, l2, l3, l4, l5, l6, l7, l8, some (.int x), l10, l11, l12] st σ Q = mb_Rn d 89 74 [l0, l1, l2, l3, l4, l5, l6, l7, l8, some (.int x), l10, l11, l12] (.int x :: st) σ Q := rn_step rfl (fun _ _ => rfl)
set_option maxRecDepth 20000 in
theorem sL_areFrames_74 {d : Nat} {Q : mb_O → mb_S → Prop} {σ : mb_S} {st : List Value} {l0 l1 l2 l3 l4 l5 l7 l8 l9 l10 l11 l12 : Option Value} {x : Int32} : mb_Rn d 89 74 [l0, l1, l2, l3, l4, l5, some (.int x), l7, l8, l9, l10, l11, l12] st σ Q = mb_Rn d 89 76 [l0, l1, l2, l3, l4, l5, some (.int x), l7, l8, l9, l10, l11, l12] (.int x :: st) σ Q := rn_step rfl (fun _ _ => rfl)
set_option maxRecDepth 20000 in
theorem sL_areFrames_76 {d : Nat} {Q : mb_O → mb_S → Prop} {σ : mb_S} {st : List Value} {ls : mb_L} {x z : Int32} : mb_Rn d 89 76 ls (.int z :: .int x :: st) σ Q = if x ≤ z then mb_Rn d 89 150 ls st σ Q else mb_Rn d 89 79 ls st σ Q := rn_ifb rfl (fun _ _ => rfl) decide_eq_true_iff
set_option maxRecDepth 20000 in
theorem sL_areFrames_79 {d : Nat} {Q : mb_O → mb_S → Prop} {σ : mb_S} {st : List Value} {l0 l1 l2 l3 l4 l5 l6 l7 l8 l10 l11 l12 : Option Value} {x : Int32} : mb_Rn d 89 79 [l0, l1, l2, l3, l4, l5, l6, l7, l8, some (.int x), l10, l11, l12] st σ Q = mb_Rn d 89 81 [l0, l1, l2, l3, l4, l5, l6, l7, l8, some (.int x), l10, l11, l12] (.int x :: st) σ Q := rn_step rfl (fun _ _ => rfl)
set_option maxRecDepth 20000 in
theorem sL_areFrames_81 {d : Nat} {Q : mb_O → mb_S → Prop} {σ : mb_S} {st : List Value} {ls : mb_L} : mb_Rn d 89 81 ls st σ Q = mb_Rn d 89 83 ls (.int 8 :: st) σ Q := rn_step rfl (fun _ _ => rfl)
set_option maxRecDepth 20000 in
theorem sL_areFrames_83 {d : Nat} {Q : mb_O → mb_S → Prop} {σ : mb_S} {st : List Value} {ls : mb_L} {x z : Int32} : mb_Rn d 89 83 ls (.int z :: .int x :: st) σ Q = if z ≤ x then mb_Rn d 89 150 ls st σ Q else mb_Rn d 89 86 ls st σ Q := rn_ifb rfl (fun _ _ => rfl) decide_eq_true_iff
set_option maxRecDepth 20000 in
theorem sL_areFrames_86 {d : Nat} {Q : mb_O → mb_S → Prop} {σ : mb_S} {st : List Value} {l0 l1 l2 l3 l4 l5 l6 l7 l8 l9 l11 l12 : Option Value} {x : Int32} : mb_Rn d 89 86 [l0, l1, l2, l3, l4, l5, l6, l7, l8, l9, some (.int x), l11, l12] st σ Q = mb_Rn d 89 88 [l0, l1, l2, l3, l4, l5, l6, l7, l8, l9, some (.int x), l11, l12] (.int x :: st) σ Q := rn_step rfl (fun _ _ => rfl)
set_option maxRecDepth 20000 in
theorem sL_areFrames_88 {d : Nat} {Q : mb_O → mb_S → Prop} {σ : mb_S} {st : List Value} {ls : mb_L} {x : Int32} : mb_Rn d 89 88 ls (.int x :: st) σ Q = if x ≤ 0 then mb_Rn d 89 95 ls st σ Q else mb_Rn d 89 91 ls st σ Q := rn_ifb rfl (fun _ _ => rfl) decide_eq_true_iff
set_option maxRecDepth 20000 in
theorem sL_areFrames_91 {d : Nat} {Q : mb_O → mb_S → Prop} {σ : mb_S} {st : List Value} {ls : mb_L} : mb_Rn d 89 91 ls st σ Q = mb_Rn d 89 92 ls (.int 1 :: st) σ Q := rn_step rfl (fun _ _ => rfl)
set_option maxRecDepth 20000 in
theorem sL_areFrames_92 {d : Nat} {Q : mb_O → mb_S → Prop} {σ : mb_S} {st : List Value} {ls : mb_L} : mb_Rn d 89 92 ls st σ Q = mb_Rn d 89 96 ls st σ Q := rn_step rfl (fun _ _ => rfl)
set_option maxRecDepth 20000 in
theorem sL_areFrames_95 {d : Nat} {Q : mb_O → mb_S → Prop} {σ : mb_S} {st : List Value} {ls : mb_L} : mb_Rn d 89 95 ls st σ Q = mb_Rn d 89 96 ls (.int 0 :: st) σ Q := rn_step rfl (fun _ _ => rfl)
set_option maxRecDepth 20000 in
theorem sL_areFrames_96 {d : Nat} {Q : mb_O → mb_S → Prop} {σ : mb_S} {st : List Value} {l1 l2 l3 l4 l5 l6 l7 l8 l9 l10 l11 l12 : Option Value} {a : Nat} : mb_Rn d 89 96 [some (.ref a), l1, l2, l3, l4, l5, l6, l7, l8, l9, l10, l11, l12] st σ Q = mb_Rn d 89 97 [some (.ref a), l1, l2, l3, l4, l5, l6, l7, l8, l9, l10, l11, l12] (.ref a :: st) σ Q := rn_step rfl (fun _ _ => rfl)
set_option maxRecDepth 20000 in
theorem sL_areFrames_96n {d : Nat} {Q : mb_O → mb_S → Prop} {σ : mb_S} {st : List Value} {l1 l2 l3 l4 l5 l6 l7 l8 l9 l10 l11 l12 : Option Value} : mb_Rn d 89 96 [some (.null), l1, l2, l3, l4, l5, l6, l7, l8, l9, l10, l11, l12] st σ Q = mb_Rn d 89 97 [some (.null), l1, l2, l3, l4, l5, l6, l7, l8, l9, l10, l11, l12] (.null :: st) σ Q := rn_step rfl (fun _ _ => rfl)
set_option maxRecDepth 20000 in
theorem sL_areFrames_97 {d : Nat} {Q : mb_O → mb_S → Prop} {σ : mb_S} {st : List Value} {l0 l2 l3 l4 l5 l6 l7 l8 l9 l10 l11 l12 : Option Value} {x : Int32} : mb_Rn d 89 97 [l0, some (.int x), l2, l3, l4, l5, l6, l7, l8, l9, l10, l11, l12] st σ Q = mb_Rn d 89 98 [l0, some (.int x), l2, l3, l4, l5, l6, l7, l8, l9, l10, l11, l12] (.int x :: st) σ Q := rn_step rfl (fun _ _ => rfl)
set_option maxRecDepth 20000 in
theorem sL_areFrames_98 {d : Nat} {Q : mb_O → mb_S → Prop} {σ : mb_S} {st : List Value} {l0 l1 l2 l3 l4 l5 l6 l7 l9 l10 l11 l12 : Option Value} {x : Int32} : mb_Rn d 89 98 [l0, l1, l2, l3, l4, l5, l6, l7, some (.int x), l9, l10, l11, l12] st σ Q = mb_Rn d 89 100 [l0, l1, l2, l3, l4, l5, l6, l7, some (.int x), l9, l10, l11, l12] (.int x :: st) σ Q := rn_step rfl (fun _ _ => rfl)
set_option maxRecDepth 20000 in
theorem sL_areFrames_100 {d : Nat} {Q : mb_O → mb_S → Prop} {σ : mb_S} {st : List Value} {ls : mb_L} : mb_Rn d 89 100 ls st σ Q = mb_Rn d 89 101 ls (.int 1 :: st) σ Q := rn_step rfl (fun _ _ => rfl)
set_option maxRecDepth 20000 in
theorem sL_areFrames_101 {d : Nat} {Q : mb_O → mb_S → Prop} {σ : mb_S} {st : List Value} {ls : mb_L} {p0 : Int32} {p1 : Int32} {p2 : Int32} {b : Nat} (hd : 1 ≤ d) (h4 : st.length ≤ 4) : mb_Rn d 89 101 ls (.int p2 :: .int p1 :: .int p0 :: .ref b :: st) σ Q = mb_gf σ b 7 False (fun _ => mb_Ex (d - 1) 59 [.ref b, .int p0, .int p1, .int p2] σ (mb_qx [] d 89 104 ls st Q)) := rn_callv mb_good rfl hd rfl rfl ⟨rfl, rfl⟩ h4 ⟨Nat.le_of_ble_eq_true rfl, rfl⟩
set_option maxRecDepth 20000 in
theorem sL_areFrames_104 {d : Nat} {Q : mb_O → mb_S → Prop} {σ : mb_S} {st : List Value} {ls : mb_L} : mb_Rn d 89 104 ls st σ Q = mb_Rn d 89 105 ls (.int 1 :: st) σ Q := rn_step rfl (fun _ _ => rfl)
set_option maxRecDepth 20000 in
theorem sL_areFrames_105 {d : Nat} {Q : mb_O → mb_S → Prop} {σ : mb_S} {st : List Value} {ls : mb_L} {x z : Int32} : mb_Rn d 89 105 ls (.int z :: .int x :: st) σ Q = if x = z then mb_Rn d 89 108 ls st σ Q else mb_Rn d 89 112 ls st σ Q := rn_ifn rfl (fun _ _ => rfl) bne_iff_ne
set_option maxRecDepth 20000 in
theorem sL_areFrames_108 {d : Nat} {Q : mb_O → mb_S → Prop} {σ : mb_S} {st : List Value} {ls : mb_L} : mb_Rn d 89 108 ls st σ Q = mb_Rn d 89 109 ls (.int 1 :: st) σ Q := rn_step rfl (fun _ _ => rfl)
set_option maxRecDepth 20000 in
theorem sL_areFrames_109 {d : Nat} {Q : mb_O → mb_S → Prop} {σ : mb_S} {st : List Value} {ls : mb_L} : mb_Rn d 89 109 ls st σ Q = mb_Rn d 89 113 ls st σ Q := rn_step rfl (fun _ _ => rfl)
set_option maxRecDepth 20000 in
theorem sL_areFrames_112 {d : Nat} {Q : mb_O → mb_S → Prop} {σ : mb_S} {st : List Value} {ls : mb_L} : mb_Rn d 89 112 ls st σ Q = mb_Rn d 89 113 ls (.int 0 :: st) σ Q := rn_step rfl (fun _ _ => rfl)
set_option maxRecDepth 20000 in
theorem sL_areFrames_113 {d : Nat} {Q : mb_O → mb_S → Prop} {σ : mb_S} {st : List Value} {ls : mb_L} {x z : Int32} : mb_Rn d 89 113 ls (.int z :: .int x :: st) σ Q = if x = z then mb_Rn d 89 116 ls st σ Q else mb_Rn d 89 150 ls st σ Q := rn_ifn rfl (fun _ _ => rfl) bne_iff_ne
set_option maxRecDepth 20000 in
theorem sL_areFrames_116 {d : Nat} {Q : mb_O → mb_S → Prop} {σ : mb_S} {st : List Value} {l0 l1 l2 l3 l4 l5 l6 l7 l8 l9 l11 l12 : Option Value} {x : Int32} : mb_Rn d 89 116 [l0, l1, l2, l3, l4, l5, l6, l7, l8, l9, some (.int x), l11, l12] st σ Q = mb_Rn d 89 118 [l0, l1, l2, l3, l4, l5, l6, l7, l8, l9, some (.int x), l11, l12] (.int x :: st) σ Q := rn_step rfl (fun _ _ => rfl)
set_option maxRecDepth 20000 in
theorem sL_areFrames_118 {d : Nat} {Q : mb_O → mb_S → Prop} {σ : mb_S} {st : List Value} {ls : mb_L} {x : Int32} : mb_Rn d 89 118 ls (.int x :: st) σ Q = if 0 < x then mb_Rn d 89 133 ls st σ Q else mb_Rn d 89 121 ls st σ Q := rn_ifb rfl (fun _ _ => rfl) decide_eq_true_iff
set_option maxRecDepth 20000 in
theorem sL_areFrames_121 {d : Nat} {Q : mb_O → mb_S → Prop} {σ : mb_S} {st : List Value} {l1 l2 l3 l4 l5 l6 l7 l8 l9 l10 l11 l12 : Option Value} {a : Nat} : mb_Rn d 89 121 [some (.ref a), l1, l2, l3, l4, l5, l6, l7, l8, l9, l10, l11, l12] st σ Q = mb_Rn d 89 122 [some (.ref a), l1, l2, l3, l4, l5, l6, l7, l8, l9, l10, l11, l12] (.ref a :: st) σ Q := rn_step rfl (fun _ _ => rfl)
set_option maxRecDepth 20000 in
theorem sL_areFrames_121n {d : Nat} {Q : mb_O → mb_S → Prop} {σ : mb_S} {st : List Value} {l1 l2 l3 l4 l5 l6 l7 l8 l9 l10 l11 l12 : Option Value} : mb_Rn d 89 121 [some (.null), l1, l2, l3, l4, l5, l6, l7, l8, l9, l10, l11, l12] st σ Q = mb_Rn d 89 122 [some (.null), l1, l2, l3, l4, l5, l6, l7, l8, l9, l10, l11, l12] (.null :: st) σ Q := rn_step rfl (fun _ _ => rfl)
set_option maxRecDepth 20000 in
theorem sL_areFrames_122 {d : Nat} {Q : mb_O → mb_S → Prop} {σ : mb_S} {st : List Value} {l0 l2 l3 l4 l5 l6 l7 l8 l9 l10 l11 l12 : Option Value} {x : Int32} : mb_Rn d 89 122 [l0, some (.int x), l2, l3, l4, l5, l6, l7, l8, l9, l10, l11, l12] st σ Q = mb_Rn d 89 123 [l0, some (.int x), l2, l3, l4, l5, l6, l7, l8, l9, l10, l11, l12] (.int x :: st) σ Q := rn_step rfl (fun _ _ => rfl)
set_option maxRecDepth 20000 in
theorem sL_areFrames_123 {d : Nat} {Q : mb_O → mb_S → Prop} {σ : mb_S} {st : List Value} {l0 l1 l2 l3 l4 l5 l6 l7 l9 l10 l11 l12 : Option Value} {x : Int32} : mb_Rn d 89 123 [l0, l1, l2, l3, l4, l5, l6, l7, some (.int x), l9, l10, l11, l12] st σ Q = mb_Rn d 89 125 [l0, l1, l2, l3, l4, l5, l6, l7, some (.int x), l9, l10, l11, l12] (.int x :: st) σ Q := rn_step rfl (fun _ _ => rfl)
set_option maxRecDepth 20000 in
theorem sL_areFrames_125 {d : Nat} {Q : mb_O → mb_S → Prop} {σ : mb_S} {st : List Value} {ls : mb_L} : mb_Rn d 89 125 ls st σ Q = mb_Rn d 89 126 ls (.int 2 :: st) σ Q := rn_step rfl (fun _ _ => rfl)
set_option maxRecDepth 20000 in
theorem sL_areFrames_126 {d : Nat} {Q : mb_O → mb_S → Prop} {σ : mb_S} {st : List Value} {ls : mb_L} {p0 : Int32} {p1 : Int32} {p2 : Int32} {b : Nat} (hd : 1 ≤ d) (h4 : st.length ≤ 4) : mb_Rn d 89 126 ls (.int p2 :: .int p1 :: .int p0 :: .ref b :: st) σ Q = mb_gf σ b 7 False (fun _ => mb_Ex (d - 1) 59 [.ref b, .int p0, .int p1, .int p2] σ (mb_qx [] d 89 129 ls st Q)) := rn_callv mb_good rfl hd rfl rfl ⟨rfl, rfl⟩ h4 ⟨Nat.le_of_ble_eq_true rfl, rfl⟩
set_option maxRecDepth 20000 in
theorem sL_areFrames_129 {d : Nat} {Q : mb_O → mb_S → Prop} {σ : mb_S} {st : List Value} {ls : mb_L} : mb_Rn d 89 129 ls st σ Q = mb_Rn d 89 130 ls (.int 1 :: st) σ Q := rn_step rfl (fun _ _ => rfl)
set_option maxRecDepth 20000 in
theorem sL_areFrames_130 {d : Nat} {Q : mb_O → mb_S → Prop} {σ : mb_S} {st : List Value} {ls : mb_L} {x z : Int32} : mb_Rn d 89 130 ls (.int z :: .int x :: st) σ Q = if x = z then mb_Rn d 89 133 ls st σ Q else mb_Rn d 89 150 ls st σ Q := rn_ifn rfl (fun _ _ => rfl) bne_iff_ne
set_option maxRecDepth 20000 in
theorem sL_areFrames_133 {d : Nat} {Q : mb_O → mb_S → Prop} {σ : mb_S} {st : List Value} {l1 l2 l3 l4 l5 l6 l7 l8 l9 l10 l11 l12 : Option Value} {a : Nat} : mb_Rn d 89 133 [some (.ref a), l1, l2, l3, l4, l5, l6, l7, l8, l9, l10, l11, l12] st σ Q = mb_Rn d 89 134 [some (.ref a), l1, l2, l3, l4, l5, l6, l7, l8, l9, l10, l11, l12] (.ref a :: st) σ Q := rn_step rfl (fun _ _ => rfl)
set_option maxRecDepth 20000 in
theorem sL_areFrames_133n {d : Nat} {Q : mb_O → mb_S → Prop} {σ : mb_S} {st : List Value} {l1 l2 l3 l4 l5 l6 l7 l8 l9 l10 l11 l12 : Option Value} : mb_Rn d 89 133 [some (.null), l1, l2, l3, l4, l5, l6, l7, l8, l9, l10, l11, l12] st σ Q = mb_Rn d 89 134 [some (.null), l1, l2, l3, l4, l5, l6, l7, l8, l9, l10, l11, l12] (.null :: st) σ Q := rn_step rfl (fun _ _ => rfl)
set_option maxRecDepth 20000 in
theorem sL_areFrames_134 {d : Nat} {Q : mb_O → mb_S → Prop} {σ : mb_S} {st : List Value} {l0 l2 l3 l4 l5 l6 l7 l8 l9 l10 l11 l12 : Option Value} {x : Int32} : mb_Rn d 89 134 [l0, some (.int x), l2, l3, l4, l5, l6, l7, l8, l9, l10, l11, l12] st σ Q = mb_Rn d 89 135 [l0, some (.int x), l2, l3, l4, l5, l6, l7, l8, l9, l10, l11, l12] (.int x :: st) σ Q := rn_step rfl (fun _ _ => rfl)
set_option maxRecDepth 20000 in
theorem sL_areFrames_135 {d : Nat} {Q : mb_O → mb_S → Prop} {σ : mb_S} {st : List Value} {l0 l1 l2 l3 l4 l5 l6 l7 l9 l10 l11 l12 : Option Value} {x : Int32} : mb_Rn d 89 135 [l0, l1, l2, l3, l4, l5, l6, l7, some (.int x), l9, l10, l11, l12] st σ Q = mb_Rn d 89 137 [l0, l1, l2, l3, l4, l5, l6, l7, some (.int x), l9, l10, l11, l12] (.int x :: st) σ Q := rn_step rfl (fun _ _ => rfl)
set_option maxRecDepth 20000 in
theorem sL_areFrames_137 {d : Nat} {Q : mb_O → mb_S → Prop} {σ : mb_S} {st : List Value} {ls : mb_L} : mb_Rn d 89 137 ls st σ Q = mb_Rn d 89 138 ls (.int 3 :: st) σ Q := rn_step rfl (fun _ _ => rfl)
set_option maxRecDepth 20000 in
theorem sL_areFrames_138 {d : Nat} {Q : mb_O → mb_S → Prop} {σ : mb_S} {st : List Value} {ls : mb_L} {p0 : Int32} {p1 : Int32} {p2 : Int32} {b : Nat} (hd : 1 ≤ d) (h4 : st.length ≤ 4) : mb_Rn d 89 138 ls (.int p2 :: .int p1 :: .int p0 :: .ref b :: st) σ Q = mb_gf σ b 7 False (fun _ => mb_Ex (d - 1) 59 [.ref b, .int p0, .int p1, .int p2] σ (mb_qx [] d 89 141 ls st Q)) := rn_callv mb_good rfl hd rfl rfl ⟨rfl, rfl⟩ h4 ⟨Nat.le_of_ble_eq_true rfl, rfl⟩
set_option maxRecDepth 20000 in
theorem sL_areFrames_141 {d : Nat} {Q : mb_O → mb_S → Prop} {σ : mb_S} {st : List Value} {ls : mb_L} : mb_Rn d 89 141 ls st σ Q = mb_Rn d 89 143 ls (.int 6 :: st) σ Q := rn_step rfl (fun _ _ => rfl)
set_option maxRecDepth 20000 in
theorem sL_areFrames_143 {d : Nat} {Q : mb_O → mb_S → Prop} {σ : mb_S} {st : List Value} {ls : mb_L} {x z : Int32} : mb_Rn d 89 143 ls (.int z :: .int x :: st) σ Q = if z < x then mb_Rn d 89 150 ls st σ Q else mb_Rn d 89 146 ls st σ Q := rn_ifb rfl (fun _ _ => rfl) decide_eq_true_iff
set_option maxRecDepth 20000 in
theorem sL_areFrames_146 {d : Nat} {Q : mb_O → mb_S → Prop} {σ : mb_S} {st : List Value} {ls : mb_L} : mb_Rn d 89 146 ls st σ Q = mb_Rn d 89 147 ls (.int 1 :: st) σ Q := rn_step rfl (fun _ _ => rfl)
set_option maxRecDepth 20000 in
theorem sL_areFrames_147 {d : Nat} {Q : mb_O → mb_S → Prop} {σ : mb_S} {st : List Value} {ls : mb_L} : mb_Rn d 89 147 ls st σ Q = mb_Rn d 89 151 ls st σ Q := rn_step rfl (fun _ _ => rfl)
set_option maxRecDepth 20000 in
theorem sL_areFrames_150 {d : Nat} {Q : mb_O → mb_S → Prop} {σ : mb_S} {st : List Value} {ls : mb_L} : mb_Rn d 89 150 ls st σ Q = mb_Rn d 89 151 ls (.int 0 :: st) σ Q := rn_step rfl (fun _ _ => rfl)
set_option maxRecDepth 20000 in
theorem sL_areFrames_151 {d : Nat} {Q : mb_O → mb_S → Prop} {σ : mb_S} {st : List Value} {l0 l1 l2 l3 l4 l5 l6 l7 l8 l9 l10 l11 l12 : Option Value} {x : Int32} : mb_Rn d 89 151 [l0, l1, l2, l3, l4, l5, l6, l7, l8, l9, l10, l11, l12] (.int x :: st) σ Q = mb_Rn d 89 153 [l0, l1, l2, l3, l4, l5, l6, some (.int x), l8, l9, l10, l11, l12] st σ Q := rn_step rfl (fun _ _ => rfl)
set_option maxRecDepth 20000 in
theorem sL_areFrames_153 {d : Nat} {Q : mb_O → mb_S → Prop} {σ : mb_S} {st : List Value} {ls : mb_L} : mb_Rn d 89 153 ls st σ Q = mb_Rn d 89 154 ls (.int 0 :: st) σ Q := rn_step rfl (fun _ _ => rfl)
set_option maxRecDepth 20000 in
theorem sL_areFrames_154 {d : Nat} {Q : mb_O → mb_S → Prop} {σ : mb_S} {st : List Value} {l0 l1 l2 l3 l4 l5 l6 l7 l8 l9 l10 l11 l12 : Option Value} {x : Int32} : mb_Rn d 89 154 [l0, l1, l2, l3, l4, l5, l6, l7, l8, l9, l10, l11, l12] (.int x :: st) σ Q = mb_Rn d 89 156 [l0, l1, l2, l3, l4, l5, l6, l7, l8, l9, l10, some (.int x), l12] st σ Q := rn_step rfl (fun _ _ => rfl)
set_option maxRecDepth 20000 in
theorem sL_areFrames_156 {d : Nat} {Q : mb_O → mb_S → Prop} {σ : mb_S} {st : List Value} {l0 l1 l2 l3 l4 l5 l6 l7 l8 l9 l10 l12 : Option Value} {x : Int32} : mb_Rn d 89 156 [l0, l1, l2, l3, l4, l5, l6, l7, l8, l9, l10, some (.int x), l12] st σ Q = mb_Rn d 89 158 [l0, l1, l2, l3, l4, l5, l6, l7, l8, l9, l10, some (.int x), l12] (.int x :: st) σ Q := rn_step rfl (fun _ _ => rfl)
set_option maxRecDepth 20000 in
theorem sL_areFrames_158 {d : Nat} {Q : mb_O → mb_S → Prop} {σ : mb_S} {st : List Value} {ls : mb_L} : mb_Rn d 89 158 ls st σ Q = mb_Rn d 89 159 ls (.int 2 :: st) σ Q := rn_step rfl (fun _ _ => rfl)
set_option maxRecDepth 20000 in
theorem sL_areFrames_159 {d : Nat} {Q : mb_O → mb_S → Prop} {σ : mb_S} {st : List Value} {ls : mb_L} {x z : Int32} : mb_Rn d 89 159 ls (.int z :: .int x :: st) σ Q = if z ≤ x then mb_Rn d 89 220 ls st σ Q else mb_Rn d 89 162 ls st σ Q := rn_ifb rfl (fun _ _ => rfl) decide_eq_true_iff
set_option maxRecDepth 20000 in
theorem sL_areFrames_162 {d : Nat} {Q : mb_O → mb_S → Prop} {σ : mb_S} {st : List Value} {l0 l1 l2 l3 l4 l5 l6 l8 l9 l10 l11 l12 : Option Value} {x : Int32} : mb_Rn d 89 162 [l0, l1, l2, l3, l4, l5, l6, some (.int x), l8, l9, l10, l11, l12] st σ Q = mb_Rn d 89 164 [l0, l1, l2, l3, l4, l5, l6, some (.int x), l8, l9, l10, l11, l12] (.int x :: st) σ Q := rn_step rfl (fun _ _ => rfl)
set_option maxRecDepth 20000 in
theorem sL_areFrames_164 {d : Nat} {Q : mb_O → mb_S → Prop} {σ : mb_S} {st : List Value} {ls : mb_L} {x : Int32} : mb_Rn d 89 164 ls (.int x :: st) σ Q = if x = 0 then mb_Rn d 89 220 ls st σ Q else mb_Rn d 89 167 ls st σ Q := rn_ifb rfl (fun _ _ => rfl) beq_iff_eq
set_option maxRecDepth 20000 in
theorem sL_areFrames_167 {d : Nat} {Q : mb_O → mb_S → Prop} {σ : mb_S} {st : List Value} {l1 l2 l3 l4 l5 l6 l7 l8 l9 l10 l11 l12 : Option Value} {a : Nat} : mb_Rn d 89 167 [some (.ref a), l1, l2, l3, l4, l5, l6, l7, l8, l9, l10, l11, l12] st σ Q = mb_Rn d 89 168 [some (.ref a), l1, l2, l3, l4, l5, l6, l7, l8, l9, l10, l11, l12] (.ref a :: st) σ Q := rn_step rfl (fun _ _ => rfl)
set_option maxRecDepth 20000 in
theorem sL_areFrames_167n {d : Nat} {Q : mb_O → mb_S → Prop} {σ : mb_S} {st : List Value} {l1 l2 l3 l4 l5 l6 l7 l8 l9 l10 l11 l12 : Option Value} : mb_Rn d 89 167 [some (.null), l1, l2, l3, l4, l5, l6, l7, l8, l9, l10, l11, l12] st σ Q = mb_Rn d 89 168 [some (.null), l1, l2, l3, l4, l5, l6, l7, l8, l9, l10, l11, l12] (.null :: st) σ Q := rn_step rfl (fun _ _ => rfl)
set_option maxRecDepth 20000 in
theorem sL_areFrames_168 {d : Nat} {Q : mb_O → mb_S → Prop} {σ : mb_S} {st : List Value} {l0 l2 l3 l4 l5 l6 l7 l8 l9 l10 l11 l12 : Option Value} {x : Int32} : mb_Rn d 89 168 [l0, some (.int x), l2, l3, l4, l5, l6, l7, l8, l9, l10, l11, l12] st σ Q = mb_Rn d 89 169 [l0, some (.int x), l2, l3, l4, l5, l6, l7, l8, l9, l10, l11, l12] (.int x :: st) σ Q := rn_step rfl (fun _ _ => rfl)
set_option maxRecDepth 20000 in
theorem sL_areFrames_169 {d : Nat} {Q : mb_O → mb_S → Prop} {σ : mb_S} {st : List Value} {l0 l1 l2 l3 l4 l5 l6 l7 l9 l10 l11 l12 : Option Value} {x : Int32} : mb_Rn d 89 169 [l0, l1, l2, l3, l4, l5, l6, l7, some (.int x), l9, l10, l11, l12] st σ Q = mb_Rn d 89 171 [l0, l1, l2, l3, l4, l5, l6, l7, some (.int x), l9, l10, l11, l12] (.int x :: st) σ Q := rn_step rfl (fun _ _ => rfl)
set_option maxRecDepth 20000 in
theorem sL_areFrames_171 {d : Nat} {Q : mb_O → mb_S → Prop} {σ : mb_S} {st : List Value} {l0 l1 l2 l3 l4 l5 l6 l7 l8 l9 l10 l12 : Option Value} {x : Int32} : mb_Rn d 89 171 [l0, l1, l2, l3, l4, l5, l6, l7, l8, l9, l10, some (.int x), l12] st σ Q = mb_Rn d 89 173 [l0, l1, l2, l3, l4, l5, l6, l7, l8, l9, l10, some (.int x), l12] (.int x :: st) σ Q := rn_step rfl (fun _ _ => rfl)
set_option maxRecDepth 20000 in
theorem sL_areFrames_173 {d : Nat} {Q : mb_O → mb_S → Prop} {σ : mb_S} {st : List Value} {ls : mb_L} {p0 : Int32} {p1 : Int32} {p2 : Int32} {b : Nat} (hd : 1 ≤ d) (h4 : st.length ≤ 4) : mb_Rn d 89 173 ls (.int p2 :: .int p1 :: .int p0 :: .ref b :: st) σ Q = mb_gf σ b 7 False (fun _ => mb_Ex (d - 1) 60 [.ref b, .int p0, .int p1, .int p2] σ (mb_qx [] d 89 176 ls st Q)) := rn_callv mb_good rfl hd rfl rfl ⟨rfl, rfl⟩ h4 ⟨Nat.le_of_ble_eq_true rfl, rfl⟩
set_option maxRecDepth 20000 in
theorem sL_areFrames_176 {d : Nat} {Q : mb_O → mb_S → Prop} {σ : mb_S} {st : List Value} {l0 l1 l2 l3 l4 l5 l6 l7 l8 l9 l10 l11 l12 : Option Value} {x : Int32} : mb_Rn d 89 176 [l0, l1, l2, l3, l4, l5, l6, l7, l8, l9, l10, l11, l12] (.int x :: st) σ Q = mb_Rn d 89 178 [l0, l1, l2, l3, l4, l5, l6, l7, l8, l9, l10, l11, some (.int x)] st σ Q := rn_step rfl (fun _ _ => rfl)
set_option maxRecDepth 20000 in
theorem sL_areFrames_178 {d : Nat} {Q : mb_O → mb_S → Prop} {σ : mb_S} {st : List Value} {l0 l1 l2 l3 l4 l5 l6 l7 l8 l9 l10 l11 : Option Value} {x : Int32} : mb_Rn d 89 178 [l0, l1, l2, l3, l4, l5, l6, l7, l8, l9, l10, l11, some (.int x)] st σ Q = mb_Rn d 89 180 [l0, l1, l2, l3, l4, l5, l6, l7, l8, l9, l10, l11, some (.int x)] (.int x :: st) σ Q := rn_step rfl (fun _ _ => rfl)
set_option maxRecDepth 20000 in
theorem sL_areFrames_180 {d : Nat} {Q : mb_O → mb_S → Prop} {σ : mb_S} {st : List Value} {ls : mb_L} : mb_Rn d 89 180 ls st σ Q = mb_Rn d 89 181 ls (.int (-1) :: st) σ Q := rn_step rfl (fun _ _ => rfl)
set_option maxRecDepth 20000 in
theorem sL_areFrames_181 {d : Nat} {Q : mb_O → mb_S → Prop} {σ : mb_S} {st : List Value} {ls : mb_L} {x z : Int32} : mb_Rn d 89 181 ls (.int z :: .int x :: st) σ Q = if x < z then mb_Rn d 89 211 ls st σ Q else mb_Rn d 89 184 ls st σ Q := rn_ifb rfl (fun _ _ => rfl) decide_eq_true_iff
set_option maxRecDepth 20000 in
theorem sL_areFrames_184 {d : Nat} {Q : mb_O → mb_S → Prop} {σ : mb_S} {st : List Value} {l0 l1 l2 l3 l4 l5 l6 l7 l8 l9 l10 l11 : Option Value} {x : Int32} : mb_Rn d 89 184 [l0, l1, l2, l3, l4, l5, l6, l7, l8, l9, l10, l11, some (.int x)] st σ Q = mb_Rn d 89 186 [l0, l1, l2, l3, l4, l5, l6, l7, l8, l9, l10, l11, some (.int x)] (.int x :: st) σ Q := rn_step rfl (fun _ _ => rfl)
set_option maxRecDepth 20000 in
theorem sL_areFrames_186 {d : Nat} {Q : mb_O → mb_S → Prop} {σ : mb_S} {st : List Value} {l1 l2 l3 l4 l5 l6 l7 l8 l9 l10 l11 l12 : Option Value} {a : Nat} : mb_Rn d 89 186 [some (.ref a), l1, l2, l3, l4, l5, l6, l7, l8, l9, l10, l11, l12] st σ Q = mb_Rn d 89 187 [some (.ref a), l1, l2, l3, l4, l5, l6, l7, l8, l9, l10, l11, l12] (.ref a :: st) σ Q := rn_step rfl (fun _ _ => rfl)
set_option maxRecDepth 20000 in
theorem sL_areFrames_186n {d : Nat} {Q : mb_O → mb_S → Prop} {σ : mb_S} {st : List Value} {l1 l2 l3 l4 l5 l6 l7 l8 l9 l10 l11 l12 : Option Value} : mb_Rn d 89 186 [some (.null), l1, l2, l3, l4, l5, l6, l7, l8, l9, l10, l11, l12] st σ Q = mb_Rn d 89 187 [some (.null), l1, l2, l3, l4, l5, l6, l7, l8, l9, l10, l11, l12] (.null :: st) σ Q := rn_step rfl (fun _ _ => rfl)
set_option maxRecDepth 20000 in
theorem sL_areFrames_187 {d : Nat} {Q : mb_O → mb_S → Prop} {σ : mb_S} {st : List Value} {l0 l1 l2 l3 l4 l5 l6 l7 l8 l9 l10 l12 : Option Value} {x : Int32} : mb_Rn d 89 187 [l0, l1, l2, l3, l4, l5, l6, l7, l8, l9, l10, some (.int x), l12] st σ Q = mb_Rn d 89 189 [l0, l1, l2, l3, l4, l5, l6, l7, l8, l9, l10, some (.int x), l12] (.int x :: st) σ Q := rn_step rfl (fun _ _ => rfl)
set_option maxRecDepth 20000 in
theorem sL_areFrames_189 {d : Nat} {Q : mb_O → mb_S → Prop} {σ : mb_S} {st : List Value} {ls : mb_L} : mb_Rn d 89 189 ls st σ Q = mb_Rn d 89 190 ls (.int 1 :: st) σ Q := rn_step rfl (fun _ _ => rfl)
set_option maxRecDepth 20000 in
theorem sL_areFrames_190 {d : Nat} {Q : mb_O → mb_S → Prop} {σ : mb_S} {st : List Value} {ls : mb_L} {p0 : Int32} {p1 : Int32} {b : Nat} (hd : 1 ≤ d) (h4 : st.length ≤ 4) : mb_Rn d 89 190 ls (.int p1 :: .int p0 :: .ref b :: st) σ Q = mb_gf σ b 7 False (fun _ => mb_Ex (d - 1) 48 [.ref b, .int p0, .int p1] σ (mb_qx [] d 89 193 ls st Q)) := rn_callv mb_good rfl hd rfl rfl ⟨rfl, rfl⟩ h4 ⟨Nat.le_of_ble_eq_true rfl, rfl⟩
set_option maxRecDepth 20000 in
theorem sL_areFrames_193 {d : Nat} {Q : mb_O → mb_S → Prop} {σ : mb_S} {st : List Value} {ls : mb_L} {x z : Int32} : mb_Rn d 89 193 ls (.int z :: .int x :: st) σ Q = if z ≤ x then mb_Rn d 89 211 ls st σ Q else mb_Rn d 89 196 ls st σ Q := rn_ifb rfl (fun _ _ => rfl) decide_eq_true_iff
set_option maxRecDepth 20000 in
theorem sL_areFrames_196 {d : Nat} {Q : mb_O → mb_S → Prop} {σ : mb_S} {st : List Value} {l0 l1 l2 l3 l4 l5 l6 l7 l8 l9 l11 l12 : Option Value} {x : Int32} : mb_Rn d 89 196 [l0, l1, l2, l3, l4, l5, l6, l7, l8, l9, some (.int x), l11, l12] st σ Q = mb_Rn d 89 198 [l0, l1, l2, l3, l4, l5, l6, l7, l8, l9, some (.int x), l11, l12] (.int x :: st) σ Q := rn_step rfl (fun _ _ => rfl)
set_option maxRecDepth 20000 in
theorem sL_areFrames_198 {d : Nat} {Q : mb_O → mb_S → Prop} {σ : mb_S} {st : List Value} {ls : mb_L} {x : Int32} : mb_Rn d 89 198 ls (.int x :: st) σ Q = if 0 < x then mb_Rn d 89 207 ls st σ Q else mb_Rn d 89 201 ls st σ Q := rn_ifb rfl (fun _ _ => rfl) decide_eq_true_iff
set_option maxRecDepth 20000 in
theorem sL_areFrames_201 {d : Nat} {Q : mb_O → mb_S → Prop} {σ : mb_S} {st : List Value} {l0 l1 l2 l3 l4 l5 l6 l7 l8 l9 l10 l11 : Option Value} {x : Int32} : mb_Rn d 89 201 [l0, l1, l2, l3, l4, l5, l6, l7, l8, l9, l10, l11, some (.int x)] st σ Q = mb_Rn d 89 203 [l0, l1, l2, l3, l4, l5, l6, l7, l8, l9, l10, l11, some (.int x)] (.int x :: st) σ Q := rn_step rfl (fun _ _ => rfl)
set_option maxRecDepth 20000 in
theorem sL_areFrames_203 {d : Nat} {Q : mb_O → mb_S → Prop} {σ : mb_S} {st : List Value} {ls : mb_L} : mb_Rn d 89 203 ls st σ Q = mb_Rn d 89 204 ls (.int (-1) :: st) σ Q := rn_step rfl (fun _ _ => rfl)
set_option maxRecDepth 20000 in
theorem sL_areFrames_204 {d : Nat} {Q : mb_O → mb_S → Prop} {σ : mb_S} {st : List Value} {ls : mb_L} {x z : Int32} : mb_Rn d 89 204 ls (.int z :: .int x :: st) σ Q = if x = z then mb_Rn d 89 207 ls st σ Q else mb_Rn d 89 211 ls st σ Q := rn_ifn rfl (fun _ _ => rfl) bne_iff_ne
set_option maxRecDepth 20000 in
theorem sL_areFrames_207 {d : Nat} {Q : mb_O → mb_S → Prop} {σ : mb_S} {st : List Value} {ls : mb_L} : mb_Rn d 89 207 ls st σ Q = mb_Rn d 89 208 ls (.int 1 :: st) σ Q := rn_step rfl (fun _ _ => rfl)
set_option maxRecDepth 20000 in
theorem sL_areFrames_208 {d : Nat} {Q : mb_O → mb_S → Prop} {σ : mb_S} {st : List Value} {ls : mb_L} : mb_Rn d 89 208 ls st σ Q = mb_Rn d 89 212 ls st σ Q := rn_step rfl (fun _ _ => rfl)
set_option maxRecDepth 20000 in
theorem sL_areFrames_211 {d : Nat} {Q : mb_O → mb_S → Prop} {σ : mb_S} {st : List Value} {ls : mb_L} : mb_Rn d 89 211 ls st σ Q = mb_Rn d 89 212 ls (.int 0 :: st) σ Q := rn_step rfl (fun _ _ => rfl)
set_option maxRecDepth 20000 in
theorem sL_areFrames_212 {d : Nat} {Q : mb_O → mb_S → Prop} {σ : mb_S} {st : List Value} {l0 l1 l2 l3 l4 l5 l6 l7 l8 l9 l10 l11 l12 : Option Value} {x : Int32} : mb_Rn d 89 212 [l0, l1, l2, l3, l4, l5, l6, l7, l8, l9, l10, l11, l12] (.int x :: st) σ Q = mb_Rn d 89 214 [l0, l1, l2, l3, l4, l5, l6, some (.int x), l8, l9, l10, l11, l12] st σ Q := rn_step rfl (fun _ _ => rfl)
set_option maxRecDepth 20000 in
theorem sL_areFrames_214 {d : Nat} {Q : mb_O → mb_S → Prop} {σ : mb_S} {st : List Value} {l0 l1 l2 l3 l4 l5 l6 l7 l8 l9 l10 l12 : Option Value} {x : Int32} : mb_Rn d 89 214 [l0, l1, l2, l3, l4, l5, l6, l7, l8, l9, l10, some (.int x), l12] st σ Q = mb_Rn d 89 217 [l0, l1, l2, l3, l4, l5, l6, l7, l8, l9, l10, some (.int (x + 1)), l12] st σ Q := rn_step rfl (fun _ _ => rfl)
set_option maxRecDepth 20000 in
theorem sL_areFrames_217 {d : Nat} {Q : mb_O → mb_S → Prop} {σ : mb_S} {st : List Value} {ls : mb_L} : mb_Rn d 89 217 ls st σ Q = mb_Rn d 89 156 ls st σ Q := rn_step rfl (fun _ _ => rfl)
set_option maxRecDepth 20000 in
theorem sL_areFrames_220 {d : Nat} {Q : mb_O → mb_S → Prop} {σ : mb_S} {st : List Value} {l0 l1 l2 l3 l4 l5 l6 l7 l8 l10 l11 l12 : Option Value} {x : Int32} : mb_Rn d 89 220 [l0, l1, l2, l3, l4, l5, l6, l7, l8, some (.int x), l10, l11, l12] st σ Q = mb_Rn d 89 222 [l0, l1, l2, l3, l4, l5, l6, l7, l8, some (.int x), l10, l11, l12] (.int x :: st) σ Q := rn_step rfl (fun _ _ => rfl)
set_option maxRecDepth 20000 in
theorem sL_areFrames_222 {d : Nat} {Q : mb_O → mb_S → Prop} {σ : mb_S} {st : List Value} {l0 l1 l2 l3 l4 l5 l6 l7 l8 l9 l10 l11 l12 : Option Value} {x : Int32} : mb_Rn d 89 222 [l0, l1, l2, l3, l4, l5, l6, l7, l8, l9, l10, l11, l12] (.int x :: st) σ Q = mb_Rn d 89 224 [l0, l1, l2, l3, l4, l5, some (.int x), l7, l8, l9, l10, l11, l12] st σ Q := rn_step rfl (fun _ _ => rfl)
set_option maxRecDepth 20000 in
theorem sL_areFrames_224 {d : Nat} {Q : mb_O → mb_S → Prop} {σ : mb_S} {st : List Value} {l0 l1 l2 l3 l4 l5 l6 l7 l9 l10 l11 l12 : Option Value} {x : Int32} : mb_Rn d 89 224 [l0, l1, l2, l3, l4, l5, l6, l7, some (.int x), l9, l10, l11, l12] st σ Q = mb_Rn d 89 227 [l0, l1, l2, l3, l4, l5, l6, l7, some (.int (x + 1)), l9, l10, l11, l12] st σ Q := rn_step rfl (fun _ _ => rfl)
set_option maxRecDepth 20000 in
theorem sL_areFrames_227 {d : Nat} {Q : mb_O → mb_S → Prop} {σ : mb_S} {st : List Value} {ls : mb_L} : mb_Rn d 89 227 ls st σ Q = mb_Rn d 89 15 ls st σ Q := rn_step rfl (fun _ _ => rfl)
set_option maxRecDepth 20000 in
theorem sL_areFrames_230 {d : Nat} {Q : mb_O → mb_S → Prop} {σ : mb_S} {st : List Value} {ls : mb_L} : mb_Rn d 89 230 ls st σ Q = mb_Rn d 89 231 ls (.int 0 :: st) σ Q := rn_step rfl (fun _ _ => rfl)
set_option maxRecDepth 20000 in
theorem sL_areFrames_231 {d : Nat} {Q : mb_O → mb_S → Prop} {σ : mb_S} {st : List Value} {l0 l1 l2 l3 l4 l5 l6 l7 l8 l9 l10 l11 l12 : Option Value} {x : Int32} : mb_Rn d 89 231 [l0, l1, l2, l3, l4, l5, l6, l7, l8, l9, l10, l11, l12] (.int x :: st) σ Q = mb_Rn d 89 233 [l0, l1, l2, l3, l4, l5, l6, l7, some (.int x), l9, l10, l11, l12] st σ Q := rn_step rfl (fun _ _ => rfl)
set_option maxRecDepth 20000 in
theorem sL_areFrames_233 {d : Nat} {Q : mb_O → mb_S → Prop} {σ : mb_S} {st : List Value} {ls : mb_L} : mb_Rn d 89 233 ls st σ Q = mb_Rn d 89 234 ls (.int 0 :: st) σ Q := rn_step rfl (fun _ _ => rfl)
set_option maxRecDepth 20000 in
theorem sL_areFrames_234 {d : Nat} {Q : mb_O → mb_S → Prop} {σ : mb_S} {st : List Value} {l0 l1 l2 l3 l4 l5 l6 l7 l8 l9 l10 l11 l12 : Option Value} {x : Int32} : mb_Rn d 89 234 [l0, l1, l2, l3, l4, l5, l6, l7, l8, l9, l10, l11, l12] (.int x :: st) σ Q = mb_Rn d 89 236 [l0, l1, l2, l3, l4, l5, l6, l7, l8, some (.int x), l10, l11, l12] st σ Q := rn_step rfl (fun _ _ => rfl)
set_option maxRecDepth 20000 in
theorem sL_areFrames_236 {d : Nat} {Q : mb_O → mb_S → Prop} {σ : mb_S} {st : List Value} {l0 l1 l2 l3 l4 l5 l6 l7 l8 l10 l11 l12 : Option Value} {x : Int32} : mb_Rn d 89 236 [l0, l1, l2, l3, l4, l5, l6, l7, l8, some (.int x), l10, l11, l12] st σ Q = mb_Rn d 89 238 [l0, l1, l2, l3, l4, l5, l6, l7, l8, some (.int x), l10, l11, l12] (.int x :: st) σ Q := rn_step rfl (fun _ _ => rfl)
set_option maxRecDepth 20000 in
theorem sL_areFrames_238 {d : Nat} {Q : mb_O → mb_S → Prop} {σ : mb_S} {st : List Value} {l0 l1 l2 l4 l5 l6 l7 l8 l9 l10 l11 l12 : Option Value} {x : Int32} : mb_Rn d 89 238 [l0, l1, l2, some (.int x), l4, l5, l6, l7, l8, l9, l10, l11, l12] st σ Q = mb_Rn d 89 239 [l0, l1, l2, some (.int x), l4, l5, l6, l7, l8, l9, l10, l11, l12] (.int x :: st) σ Q := rn_step rfl (fun _ _ => rfl)
set_option maxRecDepth 20000 in
theorem sL_areFrames_239 {d : Nat} {Q : mb_O → mb_S → Prop} {σ : mb_S} {st : List Value} {ls : mb_L} {x z : Int32} : mb_Rn d 89 239 ls (.int z :: .int x :: st) σ Q = if z ≤ x then mb_Rn d 89 323 ls st σ Q else mb_Rn d 89 242 ls st σ Q := rn_ifb rfl (fun _ _ => rfl) decide_eq_true_iff
set_option maxRecDepth 20000 in
theorem sL_areFrames_242 {d : Nat} {Q : mb_O → mb_S → Prop} {σ : mb_S} {st : List Value} {l0 l1 l2 l3 l4 l5 l6 l8 l9 l10 l11 l12 : Option Value} {x : Int32} : mb_Rn d 89 242 [l0, l1, l2, l3, l4, l5, l6, some (.int x), l8, l9, l10, l11, l12] st σ Q = mb_Rn d 89 244 [l0, l1, l2, l3, l4, l5, l6, some (.int x), l8, l9, l10, l11, l12] (.int x :: st) σ Q := rn_step rfl (fun _ _ => rfl)
set_option maxRecDepth 20000 in
theorem sL_areFrames_244 {d : Nat} {Q : mb_O → mb_S → Prop} {σ : mb_S} {st : List Value} {ls : mb_L} {x : Int32} : mb_Rn d 89 244 ls (.int x :: st) σ Q = if x = 0 then mb_Rn d 89 323 ls st σ Q else mb_Rn d 89 247 ls st σ Q := rn_ifb rfl (fun _ _ => rfl) beq_iff_eq
set_option maxRecDepth 20000 in
theorem sL_areFrames_247 {d : Nat} {Q : mb_O → mb_S → Prop} {σ : mb_S} {st : List Value} {l0 l1 l2 l3 l4 l5 l6 l7 l9 l10 l11 l12 : Option Value} {x : Int32} : mb_Rn d 89 247 [l0, l1, l2, l3, l4, l5, l6, l7, some (.int x), l9, l10, l11, l12] st σ Q = mb_Rn d 89 249 [l0, l1, l2, l3, l4, l5, l6, l7, some (.int x), l9, l10, l11, l12] (.int x :: st) σ Q := rn_step rfl (fun _ _ => rfl)
set_option maxRecDepth 20000 in
theorem sL_areFrames_249 {d : Nat} {Q : mb_O → mb_S → Prop} {σ : mb_S} {st : List Value} {l1 l2 l3 l4 l5 l6 l7 l8 l9 l10 l11 l12 : Option Value} {a : Nat} : mb_Rn d 89 249 [some (.ref a), l1, l2, l3, l4, l5, l6, l7, l8, l9, l10, l11, l12] st σ Q = mb_Rn d 89 250 [some (.ref a), l1, l2, l3, l4, l5, l6, l7, l8, l9, l10, l11, l12] (.ref a :: st) σ Q := rn_step rfl (fun _ _ => rfl)
set_option maxRecDepth 20000 in
theorem sL_areFrames_249n {d : Nat} {Q : mb_O → mb_S → Prop} {σ : mb_S} {st : List Value} {l1 l2 l3 l4 l5 l6 l7 l8 l9 l10 l11 l12 : Option Value} : mb_Rn d 89 249 [some (.null), l1, l2, l3, l4, l5, l6, l7, l8, l9, l10, l11, l12] st σ Q = mb_Rn d 89 250 [some (.null), l1, l2, l3, l4, l5, l6, l7, l8, l9, l10, l11, l12] (.null :: st) σ Q := rn_step rfl (fun _ _ => rfl)
set_option maxRecDepth 20000 in
theorem sL_areFrames_250 {d : Nat} {Q : mb_O → mb_S → Prop} {σ : mb_S} {st : List Value} {l0 l1 l2 l3 l4 l5 l6 l7 l8 l10 l11 l12 : Option Value} {x : Int32} : mb_Rn d 89 250 [l0, l1, l2, l3, l4, l5, l6, l7, l8, some (.int x), l10, l11, l12] st σ Q = mb_Rn d 89 252 [l0, l1, l2, l3, l4, l5, l6, l7, l8, some (.int x), l10, l11, l12] (.int x :: st) σ Q := rn_step rfl (fun _ _ => rfl)
set_option maxRecDepth 20000 in
theorem sL_areFrames_252 {d : Nat} {Q : mb_O → mb_S → Prop} {σ : mb_S} {st : List Value} {ls : mb_L} : mb_Rn d 89 252 ls st σ Q = mb_Rn d 89 253 ls (.int 0 :: st) σ Q := rn_step rfl (fun _ _ => rfl)
set_option maxRecDepth 20000 in
theorem sL_areFrames_253 {d : Nat} {Q : mb_O → mb_S → Prop} {σ : mb_S} {st : List Value} {ls : mb_L} {p0 : Int32} {p1 : Int32} {b : Nat} (hd : 1 ≤ d) (h4 : st.length ≤ 4) : mb_Rn d 89 253 ls (.int p1 :: .int p0 :: .ref b :: st) σ Q = mb_gf σ b 7 False (fun _ => mb_Ex (d - 1) 54 [.ref b, .int p0, .int p1] σ (mb_qx [] d 89 256 ls st Q)) := rn_callv mb_good rfl hd rfl rfl ⟨rfl, rfl⟩ h4 ⟨Nat.le_of_ble_eq_true rfl, rfl⟩
set_option maxRecDepth 20000 in
theorem sL_areFrames_256 {d : Nat} {Q : mb_O → mb_S → Prop} {σ : mb_S} {st : List Value} {l0 l2 l3 l4 l5 l6 l7 l8 l9 l10 l11 l12 : Option Value} {x : Int32} : mb_Rn d 89 256 [l0, some (.int x), l2, l3, l4, l5, l6, l7, l8, l9, l10, l11, l12] st σ Q = mb_Rn d 89 257 [l0, some (.int x), l2, l3, l4, l5, l6, l7, l8, l9, l10, l11, l12] (.int x :: st) σ Q := rn_step rfl (fun _ _ => rfl)
set_option maxRecDepth 20000 in
theorem sL_areFrames_257 {d : Nat} {Q : mb_O → mb_S → Prop} {σ : mb_S} {st : List Value} {ls : mb_L} {x z : Int32} : mb_Rn d 89 257 ls (.int z :: .int x :: st) σ Q = if x = z then mb_Rn d 89 260 ls st σ Q else mb_Rn d 89 274 ls st σ Q := rn_ifn rfl (fun _ _ => rfl) bne_iff_ne
set_option maxRecDepth 20000 in
theorem sL_areFrames_260 {d : Nat} {Q : mb_O → mb_S → Prop} {σ : mb_S} {st : List Value} {l1 l2 l3 l4 l5 l6 l7 l8 l9 l10 l11 l12 : Option Value} {a : Nat} : mb_Rn d 89 260 [some (.ref a), l1, l2, l3, l4, l5, l6, l7, l8, l9, l10, l11, l12] st σ Q = mb_Rn d 89 261 [some (.ref a), l1, l2, l3, l4, l5, l6, l7, l8, l9, l10, l11, l12] (.ref a :: st) σ Q := rn_step rfl (fun _ _ => rfl)
set_option maxRecDepth 20000 in
theorem sL_areFrames_260n {d : Nat} {Q : mb_O → mb_S → Prop} {σ : mb_S} {st : List Value} {l1 l2 l3 l4 l5 l6 l7 l8 l9 l10 l11 l12 : Option Value} : mb_Rn d 89 260 [some (.null), l1, l2, l3, l4, l5, l6, l7, l8, l9, l10, l11, l12] st σ Q = mb_Rn d 89 261 [some (.null), l1, l2, l3, l4, l5, l6, l7, l8, l9, l10, l11, l12] (.null :: st) σ Q := rn_step rfl (fun _ _ => rfl)
set_option maxRecDepth 20000 in
theorem sL_areFrames_261 {d : Nat} {Q : mb_O → mb_S → Prop} {σ : mb_S} {st : List Value} {l0 l1 l2 l3 l4 l5 l6 l7 l8 l10 l11 l12 : Option Value} {x : Int32} : mb_Rn d 89 261 [l0, l1, l2, l3, l4, l5, l6, l7, l8, some (.int x), l10, l11, l12] st σ Q = mb_Rn d 89 263 [l0, l1, l2, l3, l4, l5, l6, l7, l8, some (.int x), l10, l11, l12] (.int x :: st) σ Q := rn_step rfl (fun _ _ => rfl)
set_option maxRecDepth 20000 in
theorem sL_areFrames_263 {d : Nat} {Q : mb_O → mb_S → Prop} {σ : mb_S} {st : List Value} {ls : mb_L} : mb_Rn d 89 263 ls st σ Q = mb_Rn d 89 264 ls (.int 2 :: st) σ Q := rn_step rfl (fun _ _ => rfl)
set_option maxRecDepth 20000 in
theorem sL_areFrames_264 {d : Nat} {Q : mb_O → mb_S → Prop} {σ : mb_S} {st : List Value} {ls : mb_L} {p0 : Int32} {p1 : Int32} {b : Nat} (hd : 1 ≤ d) (h4 : st.length ≤ 4) : mb_Rn d 89 264 ls (.int p1 :: .int p0 :: .ref b :: st) σ Q = mb_gf σ b 7 False (fun _ => mb_Ex (d - 1) 54 [.ref b, .int p0, .int p1] σ (mb_qx [] d 89 267 ls st Q)) := rn_callv mb_good rfl hd rfl rfl ⟨rfl, rfl⟩ h4 ⟨Nat.le_of_ble_eq_true rfl, rfl⟩
set_option maxRecDepth 20000 in
theorem sL_areFrames_267 {d : Nat} {Q : mb_O → mb_S → Prop} {σ : mb_S} {st : List Value} {ls : mb_L} {x : Int32} : mb_Rn d 89 267 ls (.int x :: st) σ Q = if x = 0 then mb_Rn d 89 270 ls st σ Q else mb_Rn d 89 274 ls st σ Q := rn_ifn rfl (fun _ _ => rfl) bne_iff_ne
set_option maxRecDepth 20000 in
theorem sL_areFrames_270 {d : Nat} {Q : mb_O → mb_S → Prop} {σ : mb_S} {st : List Value} {ls : mb_L} : mb_Rn d 89 270 ls st σ Q = mb_Rn d 89 271 ls (.int 1 :: st) σ Q := rn_step rfl (fun _ _ => rfl)
set_option maxRecDepth 20000 in
theorem sL_areFrames_271 {d : Nat} {Q : mb_O → mb_S → Prop} {σ : mb_S} {st : List Value} {ls : mb_L} : mb_Rn d 89 271 ls st σ Q = mb_Rn d 89 275 ls st σ Q := rn_step rfl (fun _ _ => rfl)
set_option maxRecDepth 20000 in
theorem sL_areFrames_274 {d : Nat} {Q : mb_O → mb_S → Prop} {σ : mb_S} {st : List Value} {ls : mb_L} : mb_Rn d 89 274 ls st σ Q = mb_Rn d 89 275 ls (.int 0 :: st) σ Q := rn_step rfl (fun _ _ => rfl)
set_option maxRecDepth 20000 in
theorem sL_areFrames_275 {d : Nat} {Q : mb_O → mb_S → Prop} {σ : mb_S} {st : List Value} {ls : mb_L} {x z : Int32} : mb_Rn d 89 275 ls (.int z :: .int x :: st) σ Q = mb_Rn d 89 276 ls (.int (x + z) :: st) σ Q := rn_step rfl (fun _ _ => rfl)
set_option maxRecDepth 20000 in
theorem sL_areFrames_276 {d : Nat} {Q : mb_O → mb_S → Prop} {σ : mb_S} {st : List Value} {l0 l1 l2 l3 l4 l5 l6 l7 l8 l9 l10 l11 l12 : Option Value} {x : Int32} : mb_Rn d 89 276 [l0, l1, l2, l3, l4, l5, l6, l7, l8, l9, l10, l11, l12] (.int x :: st) σ Q = mb_Rn d 89 278 [l0, l1, l2, l3, l4, l5, l6, l7, some (.int x), l9, l10, l11, l12] st σ Q := rn_step rfl (fun _ _ => rfl)
set_option maxRecDepth 20000 in
theorem sL_areFrames_278 {d : Nat} {Q : mb_O → mb_S → Prop} {σ : mb_S} {st : List Value} {l1 l2 l3 l4 l5 l6 l7 l8 l9 l10 l11 l12 : Option Value} {a : Nat} : mb_Rn d 89 278 [some (.ref a), l1, l2, l3, l4, l5, l6, l7, l8, l9, l10, l11, l12] st σ Q = mb_Rn d 89 279 [some (.ref a), l1, l2, l3, l4, l5, l6, l7, l8, l9, l10, l11, l12] (.ref a :: st) σ Q := rn_step rfl (fun _ _ => rfl)
set_option maxRecDepth 20000 in
theorem sL_areFrames_278n {d : Nat} {Q : mb_O → mb_S → Prop} {σ : mb_S} {st : List Value} {l1 l2 l3 l4 l5 l6 l7 l8 l9 l10 l11 l12 : Option Value} : mb_Rn d 89 278 [some (.null), l1, l2, l3, l4, l5, l6, l7, l8, l9, l10, l11, l12] st σ Q = mb_Rn d 89 279 [some (.null), l1, l2, l3, l4, l5, l6, l7, l8, l9, l10, l11, l12] (.null :: st) σ Q := rn_step rfl (fun _ _ => rfl)
set_option maxRecDepth 20000 in
theorem sL_areFrames_279 {d : Nat} {Q : mb_O → mb_S → Prop} {σ : mb_S} {st : List Value} {l0 l1 l2 l3 l4 l5 l6 l7 l8 l10 l11 l12 : Option Value} {x : Int32} : mb_Rn d 89 279 [l0, l1, l2, l3, l4, l5, l6, l7, l8, some (.int x), l10, l11, l12] st σ Q = mb_Rn d 89 281 [l0, l1, l2, l3, l4, l5, l6, l7, l8, some (.int x), l10, l11, l12] (.int x :: st) σ Q := rn_step rfl (fun _ _ => rfl)
set_option maxRecDepth 20000 in
theorem sL_areFrames_281 {d : Nat} {Q : mb_O → mb_S → Prop} {σ : mb_S} {st : List Value} {ls : mb_L} : mb_Rn d 89 281 ls st σ Q = mb_Rn d 89 282 ls (.int 0 :: st) σ Q := rn_step rfl (fun _ _ => rfl)
set_option maxRecDepth 20000 in
theorem sL_areFrames_282 {d : Nat} {Q : mb_O → mb_S → Prop} {σ : mb_S} {st : List Value} {ls : mb_L} {p0 : Int32} {p1 : Int32} {b : Nat} (hd : 1 ≤ d) (h4 : st.length ≤ 4) : mb_Rn d 89 282 ls (.int p1 :: .int p0 :: .ref b :: st) σ Q = mb_gf σ b 7 False (fun _ => mb_Ex (d - 1) 54 [.ref b, .int p0, .int p1] σ (mb_qx [] d 89 285 ls st Q)) := rn_callv mb_good rfl hd rfl rfl ⟨rfl, rfl⟩ h4 ⟨Nat.le_of_ble_eq_true rfl, rfl⟩
set_option maxRecDepth 20000 in
theorem sL_areFrames_285 {d : Nat} {Q : mb_O → mb_S → Prop} {σ : mb_S} {st : List Value} {l0 l2 l3 l4 l5 l6 l7 l8 l9 l10 l11 l12 : Option Value} {x : Int32} : mb_Rn d 89 285 [l0, some (.int x), l2, l3, l4, l5, l6, l7, l8, l9, l10, l11, l12] st σ Q = mb_Rn d 89 286 [l0, some (.int x), l2, l3, l4, l5, l6, l7, l8, l9, l10, l11, l12] (.int x :: st) σ Q := rn_step rfl (fun _ _ => rfl)
set_option maxRecDepth 20000 in
theorem sL_areFrames_286 {d : Nat} {Q : mb_O → mb_S → Prop} {σ : mb_S} {st : List Value} {ls : mb_L} {x z : Int32} : mb_Rn d 89 286 ls (.int z :: .int x :: st) σ Q = if x = z then mb_Rn d 89 289 ls st σ Q else mb_Rn d 89 310 ls st σ Q := rn_ifn rfl (fun _ _ => rfl) bne_iff_ne
set_option maxRecDepth 20000 in
theorem sL_areFrames_289 {d : Nat} {Q : mb_O → mb_S → Prop} {σ : mb_S} {st : List Value} {l1 l2 l3 l4 l5 l6 l7 l8 l9 l10 l11 l12 : Option Value} {a : Nat} : mb_Rn d 89 289 [some (.ref a), l1, l2, l3, l4, l5, l6, l7, l8, l9, l10, l11, l12] st σ Q = mb_Rn d 89 290 [some (.ref a), l1, l2, l3, l4, l5, l6, l7, l8, l9, l10, l11, l12] (.ref a :: st) σ Q := rn_step rfl (fun _ _ => rfl)
set_option maxRecDepth 20000 in
theorem sL_areFrames_289n {d : Nat} {Q : mb_O → mb_S → Prop} {σ : mb_S} {st : List Value} {l1 l2 l3 l4 l5 l6 l7 l8 l9 l10 l11 l12 : Option Value} : mb_Rn d 89 289 [some (.null), l1, l2, l3, l4, l5, l6, l7, l8, l9, l10, l11, l12] st σ Q = mb_Rn d 89 290 [some (.null), l1, l2, l3, l4, l5, l6, l7, l8, l9, l10, l11, l12] (.null :: st) σ Q := rn_step rfl (fun _ _ => rfl)
set_option maxRecDepth 20000 in
theorem sL_areFrames_290 {d : Nat} {Q : mb_O → mb_S → Prop} {σ : mb_S} {st : List Value} {l0 l1 l2 l3 l4 l5 l6 l7 l8 l10 l11 l12 : Option Value} {x : Int32} : mb_Rn d 89 290 [l0, l1, l2, l3, l4, l5, l6, l7, l8, some (.int x), l10, l11, l12] st σ Q = mb_Rn d 89 292 [l0, l1, l2, l3, l4, l5, l6, l7, l8, some (.int x), l10, l11, l12] (.int x :: st) σ Q := rn_step rfl (fun _ _ => rfl)
set_option maxRecDepth 20000 in
theorem sL_areFrames_292 {d : Nat} {Q : mb_O → mb_S → Prop} {σ : mb_S} {st : List Value} {ls : mb_L} : mb_Rn d 89 292 ls st σ Q = mb_Rn d 89 293 ls (.int 1 :: st) σ Q := rn_step rfl (fun _ _ => rfl)
set_option maxRecDepth 20000 in
theorem sL_areFrames_293 {d : Nat} {Q : mb_O → mb_S → Prop} {σ : mb_S} {st : List Value} {ls : mb_L} {p0 : Int32} {p1 : Int32} {b : Nat} (hd : 1 ≤ d) (h4 : st.length ≤ 4) : mb_Rn d 89 293 ls (.int p1 :: .int p0 :: .ref b :: st) σ Q = mb_gf σ b 7 False (fun _ => mb_Ex (d - 1) 54 [.ref b, .int p0, .int p1] σ (mb_qx [] d 89 296 ls st Q)) := rn_callv mb_good rfl hd rfl rfl ⟨rfl, rfl⟩ h4 ⟨Nat.le_of_ble_eq_true rfl, rfl⟩
set_option maxRecDepth 20000 in
theorem sL_areFrames_296 {d : Nat} {Q : mb_O → mb_S → Prop} {σ : mb_S} {st : List Value} {ls : mb_L} {x : Int32} : mb_Rn d 89 296 ls (.int x :: st) σ Q = if x < 0 then mb_Rn d 89 314 ls st σ Q else mb_Rn d 89 299 ls st σ Q := rn_ifb rfl (fun _ _ => rfl) decide_eq_true_iff
set_option maxRecDepth 20000 in
theorem sL_areFrames_299 {d : Nat} {Q : mb_O → mb_S → Prop} {σ : mb_S} {st : List Value} {l1 l2 l3 l4 l5 l6 l7 l8 l9 l10 l11 l12 : Option Value} {a : Nat} : mb_Rn d 89 299 [some (.ref a), l1, l2, l3, l4, l5, l6, l7, l8, l9, l10, l11, l12] st σ Q = mb_Rn d 89 300 [some (.ref a), l1, l2, l3, l4, l5, l6, l7, l8, l9, l10, l11, l12] (.ref a :: st) σ Q := rn_step rfl (fun _ _ => rfl)
set_option maxRecDepth 20000 in
theorem sL_areFrames_299n {d : Nat} {Q : mb_O → mb_S → Prop} {σ : mb_S} {st : List Value} {l1 l2 l3 l4 l5 l6 l7 l8 l9 l10 l11 l12 : Option Value} : mb_Rn d 89 299 [some (.null), l1, l2, l3, l4, l5, l6, l7, l8, l9, l10, l11, l12] st σ Q = mb_Rn d 89 300 [some (.null), l1, l2, l3, l4, l5, l6, l7, l8, l9, l10, l11, l12] (.null :: st) σ Q := rn_step rfl (fun _ _ => rfl)
set_option maxRecDepth 20000 in
theorem sL_areFrames_300 {d : Nat} {Q : mb_O → mb_S → Prop} {σ : mb_S} {st : List Value} {l0 l1 l2 l3 l4 l5 l6 l7 l8 l10 l11 l12 : Option Value} {x : Int32} : mb_Rn d 89 300 [l0, l1, l2, l3, l4, l5, l6, l7, l8, some (.int x), l10, l11, l12] st σ Q = mb_Rn d 89 302 [l0, l1, l2, l3, l4, l5, l6, l7, l8, some (.int x), l10, l11, l12] (.int x :: st) σ Q := rn_step rfl (fun _ _ => rfl)
set_option maxRecDepth 20000 in
theorem sL_areFrames_302 {d : Nat} {Q : mb_O → mb_S → Prop} {σ : mb_S} {st : List Value} {ls : mb_L} : mb_Rn d 89 302 ls st σ Q = mb_Rn d 89 303 ls (.int 1 :: st) σ Q := rn_step rfl (fun _ _ => rfl)
set_option maxRecDepth 20000 in
theorem sL_areFrames_303 {d : Nat} {Q : mb_O → mb_S → Prop} {σ : mb_S} {st : List Value} {ls : mb_L} {p0 : Int32} {p1 : Int32} {b : Nat} (hd : 1 ≤ d) (h4 : st.length ≤ 4) : mb_Rn d 89 303 ls (.int p1 :: .int p0 :: .ref b :: st) σ Q = mb_gf σ b 7 False (fun _ => mb_Ex (d - 1) 54 [.ref b, .int p0, .int p1] σ (mb_qx [] d 89 306 ls st Q)) := rn_callv mb_good rfl hd rfl rfl ⟨rfl, rfl⟩ h4 ⟨Nat.le_of_ble_eq_true rfl, rfl⟩
set_option maxRecDepth 20000 in
theorem sL_areFrames_306 {d : Nat} {Q : mb_O → mb_S → Prop} {σ : mb_S} {st : List Value} {l0 l1 l3 l4 l5 l6 l7 l8 l9 l10 l11 l12 : Option Value} {x : Int32} : mb_Rn d 89 306 [l0, l1, some (.int x), l3, l4, l5, l6, l7, l8, l9, l10, l11, l12] st σ Q = mb_Rn d 89 307 [l0, l1, some (.int x), l3, l4, l5, l6, l7, l8, l9, l10, l11, l12] (.int x :: st) σ Q := rn_step rfl (fun _ _ => rfl)
set_option maxRecDepth 20000 in
theorem sL_areFrames_307 {d : Nat} {Q : mb_O → mb_S → Prop} {σ : mb_S} {st : List Value} {ls : mb_L} {x z : Int32} : mb_Rn d 89 307 ls (.int z :: .int x :: st) σ Q = if z ≤ x then mb_Rn d 89 314 ls st σ Q else mb_Rn d 89 310 ls st σ Q := rn_ifb rfl (fun _ _ => rfl) decide_eq_true_iff
set_option maxRecDepth 20000 in
theorem sL_areFrames_310 {d : Nat} {Q : mb_O → mb_S → Prop} {σ : mb_S} {st : List Value} {ls : mb_L} : mb_Rn d 89 310 ls st σ Q = mb_Rn d 89 311 ls (.int 1 :: st) σ Q := rn_step rfl (fun _ _ => rfl)
set_option maxRecDepth 20000 in
theorem sL_areFrames_311 {d : Nat} {Q : mb_O → mb_S → Prop} {σ : mb_S} {st : List Value} {ls : mb_L} : mb_Rn d 89 311 ls st σ Q = mb_Rn d 89 315 ls st σ Q := rn_step rfl (fun _ _ => rfl)
set_option maxRecDepth 20000 in
theorem sL_areFrames_314 {d : Nat} {Q : mb_O → mb_S → Prop} {σ : mb_S} {st : List Value} {ls : mb_L} : mb_Rn d 89 314 ls st σ Q = mb_Rn d 89 315 ls (.int 0 :: st) σ Q := rn_step rfl (fun _ _ => rfl)
set_option maxRecDepth 20000 in
theorem sL_areFrames_315 {d : Nat} {Q : mb_O → mb_S → Prop} {σ : mb_S} {st : List Value} {l0 l1 l2 l3 l4 l5 l6 l7 l8 l9 l10 l11 l12 : Option Value} {x : Int32} : mb_Rn d 89 315 [l0, l1, l2, l3, l4, l5, l6, l7, l8, l9, l10, l11, l12] (.int x :: st) σ Q = mb_Rn d 89 317 [l0, l1, l2, l3, l4, l5, l6, some (.int x), l8, l9, l10, l11, l12] st σ Q := rn_step rfl (fun _ _ => rfl)
set_option maxRecDepth 20000 in
theorem sL_areFrames_317 {d : Nat} {Q : mb_O → mb_S → Prop} {σ : mb_S} {st : List Value} {l0 l1 l2 l3 l4 l5 l6 l7 l8 l10 l11 l12 : Option Value} {x : Int32} : mb_Rn d 89 317 [l0, l1, l2, l3, l4, l5, l6, l7, l8, some (.int x), l10, l11, l12] st σ Q = mb_Rn d 89 320 [l0, l1, l2, l3, l4, l5, l6, l7, l8, some (.int (x + 1)), l10, l11, l12] st σ Q := rn_step rfl (fun _ _ => rfl)
set_option maxRecDepth 20000 in
theorem sL_areFrames_320 {d : Nat} {Q : mb_O → mb_S → Prop} {σ : mb_S} {st : List Value} {ls : mb_L} : mb_Rn d 89 320 ls st σ Q = mb_Rn d 89 236 ls st σ Q := rn_step rfl (fun _ _ => rfl)
set_option maxRecDepth 20000 in
theorem sL_areFrames_323 {d : Nat} {Q : mb_O → mb_S → Prop} {σ : mb_S} {st : List Value} {l0 l1 l2 l3 l4 l5 l6 l8 l9 l10 l11 l12 : Option Value} {x : Int32} : mb_Rn d 89 323 [l0, l1, l2, l3, l4, l5, l6, some (.int x), l8, l9, l10, l11, l12] st σ Q = mb_Rn d 89 325 [l0, l1, l2, l3, l4, l5, l6, some (.int x), l8, l9, l10, l11, l12] (.int x :: st) σ Q := rn_step rfl (fun _ _ => rfl)
set_option maxRecDepth 20000 in
theorem sL_areFrames_325 {d : Nat} {Q : mb_O → mb_S → Prop} {σ : mb_S} {st : List Value} {ls : mb_L} {x : Int32} : mb_Rn d 89 325 ls (.int x :: st) σ Q = if x = 0 then mb_Rn d 89 366 ls st σ Q else mb_Rn d 89 328 ls st σ Q := rn_ifb rfl (fun _ _ => rfl) beq_iff_eq
set_option maxRecDepth 20000 in
theorem sL_areFrames_328 {d : Nat} {Q : mb_O → mb_S → Prop} {σ : mb_S} {st : List Value} {l1 l2 l3 l4 l5 l6 l7 l8 l9 l10 l11 l12 : Option Value} {a : Nat} : mb_Rn d 89 328 [some (.ref a), l1, l2, l3, l4, l5, l6, l7, l8, l9, l10, l11, l12] st σ Q = mb_Rn d 89 329 [some (.ref a), l1, l2, l3, l4, l5, l6, l7, l8, l9, l10, l11, l12] (.ref a :: st) σ Q := rn_step rfl (fun _ _ => rfl)
set_option maxRecDepth 20000 in
theorem sL_areFrames_328n {d : Nat} {Q : mb_O → mb_S → Prop} {σ : mb_S} {st : List Value} {l1 l2 l3 l4 l5 l6 l7 l8 l9 l10 l11 l12 : Option Value} : mb_Rn d 89 328 [some (.null), l1, l2, l3, l4, l5, l6, l7, l8, l9, l10, l11, l12] st σ Q = mb_Rn d 89 329 [some (.null), l1, l2, l3, l4, l5, l6, l7, l8, l9, l10, l11, l12] (.null :: st) σ Q := rn_step rfl (fun _ _ => rfl)
set_option maxRecDepth 20000 in
theorem sL_areFrames_329 {d : Nat} {Q : mb_O → mb_S → Prop} {σ : mb_S} {st : List Value} {l0 l2 l3 l4 l5 l6 l7 l8 l9 l10 l11 l12 : Option Value} {x : Int32} : mb_Rn d 89 329 [l0, some (.int x), l2, l3, l4, l5, l6, l7, l8, l9, l10, l11, l12] st σ Q = mb_Rn d 89 330 [l0, some (.int x), l2, l3, l4, l5, l6, l7, l8, l9, l10, l11, l12] (.int x :: st) σ Q := rn_step rfl (fun _ _ => rfl)
set_option maxRecDepth 20000 in
theorem sL_areFrames_330 {d : Nat} {Q : mb_O → mb_S → Prop} {σ : mb_S} {st : List Value} {ls : mb_L} {p0 : Int32} {b : Nat} (hd : 1 ≤ d) (h4 : st.length ≤ 4) : mb_Rn d 89 330 ls (.int p0 :: .ref b :: st) σ Q = mb_gf σ b 7 False (fun _ => mb_Ex (d - 1) 57 [.ref b, .int p0] σ (mb_qx [] d 89 333 ls st Q)) := rn_callv mb_good rfl hd rfl rfl ⟨rfl, rfl⟩ h4 ⟨Nat.le_of_ble_eq_true rfl, rfl⟩
set_option maxRecDepth 20000 in
theorem sL_areFrames_333 {d : Nat} {Q : mb_O → mb_S → Prop} {σ : mb_S} {st : List Value} {l0 l1 l2 l3 l5 l6 l7 l8 l9 l10 l11 l12 : Option Value} {x : Int32} : mb_Rn d 89 333 [l0, l1, l2, l3, some (.int x), l5, l6, l7, l8, l9, l10, l11, l12] st σ Q = mb_Rn d 89 335 [l0, l1, l2, l3, some (.int x), l5, l6, l7, l8, l9, l10, l11, l12] (.int x :: st) σ Q := rn_step rfl (fun _ _ => rfl)
set_option maxRecDepth 20000 in
theorem sL_areFrames_335 {d : Nat} {Q : mb_O → mb_S → Prop} {σ : mb_S} {st : List Value} {ls : mb_L} {x z : Int32} : mb_Rn d 89 335 ls (.int z :: .int x :: st) σ Q = if x = z then mb_Rn d 89 338 ls st σ Q else mb_Rn d 89 366 ls st σ Q := rn_ifn rfl (fun _ _ => rfl) bne_iff_ne
set_option maxRecDepth 20000 in
theorem sL_areFrames_338 {d : Nat} {Q : mb_O → mb_S → Prop} {σ : mb_S} {st : List Value} {l0 l1 l2 l3 l4 l6 l7 l8 l9 l10 l11 l12 : Option Value} {x : Int32} : mb_Rn d 89 338 [l0, l1, l2, l3, l4, some (.int x), l6, l7, l8, l9, l10, l11, l12] st σ Q = mb_Rn d 89 340 [l0, l1, l2, l3, l4, some (.int x), l6, l7, l8, l9, l10, l11, l12] (.int x :: st) σ Q := rn_step rfl (fun _ _ => rfl)
set_option maxRecDepth 20000 in
theorem sL_areFrames_340 {d : Nat} {Q : mb_O → mb_S → Prop} {σ : mb_S} {st : List Value} {l0 l1 l2 l3 l4 l5 l6 l7 l9 l10 l11 l12 : Option Value} {x : Int32} : mb_Rn d 89 340 [l0, l1, l2, l3, l4, l5, l6, l7, some (.int x), l9, l10, l11, l12] st σ Q = mb_Rn d 89 342 [l0, l1, l2, l3, l4, l5, l6, l7, some (.int x), l9, l10, l11, l12] (.int x :: st) σ Q := rn_step rfl (fun _ _ => rfl)
set_option maxRecDepth 20000 in
theorem sL_areFrames_342 {d : Nat} {Q : mb_O → mb_S → Prop} {σ : mb_S} {st : List Value} {ls : mb_L} {x z : Int32} : mb_Rn d 89 342 ls (.int z :: .int x :: st) σ Q = if x = z then mb_Rn d 89 345 ls st σ Q else mb_Rn d 89 366 ls st σ Q := rn_ifn rfl (fun _ _ => rfl) bne_iff_ne
set_option maxRecDepth 20000 in
theorem sL_areFrames_345 {d : Nat} {Q : mb_O → mb_S → Prop} {σ : mb_S} {st : List Value} {l1 l2 l3 l4 l5 l6 l7 l8 l9 l10 l11 l12 : Option Value} {a : Nat} : mb_Rn d 89 345 [some (.ref a), l1, l2, l3, l4, l5, l6, l7, l8, l9, l10, l11, l12] st σ Q = mb_Rn d 89 346 [some (.ref a), l1, l2, l3, l4, l5, l6, l7, l8, l9, l10, l11, l12] (.ref a :: st) σ Q := rn_step rfl (fun _ _ => rfl)
set_option maxRecDepth 20000 in
theorem sL_areFrames_345n {d : Nat} {Q : mb_O → mb_S → Prop} {σ : mb_S} {st : List Value} {l1 l2 l3 l4 l5 l6 l7 l8 l9 l10 l11 l12 : Option Value} : mb_Rn d 89 345 [some (.null), l1, l2, l3, l4, l5, l6, l7, l8, l9, l10, l11, l12] st σ Q = mb_Rn d 89 346 [some (.null), l1, l2, l3, l4, l5, l6, l7, l8, l9, l10, l11, l12] (.null :: st) σ Q := rn_step rfl (fun _ _ => rfl)
set_option maxRecDepth 20000 in
theorem sL_areFrames_346 {d : Nat} {Q : mb_O → mb_S → Prop} {σ : mb_S} {st : List Value} {l0 l2 l3 l4 l5 l6 l7 l8 l9 l10 l11 l12 : Option Value} {x : Int32} : mb_Rn d 89 346 [l0, some (.int x), l2, l3, l4, l5, l6, l7, l8, l9, l10, l11, l12] st σ Q = mb_Rn d 89 347 [l0, some (.int x), l2, l3, l4, l5, l6, l7, l8, l9, l10, l11, l12] (.int x :: st) σ Q := rn_step rfl (fun _ _ => rfl)
set_option maxRecDepth 20000 in
theorem sL_areFrames_347 {d : Nat} {Q : mb_O → mb_S → Prop} {σ : mb_S} {st : List Value} {ls : mb_L} {p0 : Int32} {b : Nat} (hd : 1 ≤ d) (h4 : st.length ≤ 4) : mb_Rn d 89 347 ls (.int p0 :: .ref b :: st) σ Q = mb_gf σ b 7 False (fun _ => mb_Ex (d - 1) 58 [.ref b, .int p0] σ (mb_qx [] d 89 350 ls st Q)) := rn_callv mb_good rfl hd rfl rfl ⟨rfl, rfl⟩ h4 ⟨Nat.le_of_ble_eq_true rfl, rfl⟩
set_option maxRecDepth 20000 in
theorem sL_areFrames_350 {d : Nat} {Q : mb_O → mb_S → Prop} {σ : mb_S} {st : List Value} {ls : mb_L} {x : Int32} : mb_Rn d 89 350 ls (.int x :: st) σ Q = if x < 0 then mb_Rn d 89 366 ls st σ Q else mb_Rn d 89 353 ls st σ Q := rn_ifb rfl (fun _ _ => rfl) decide_eq_true_iff
set_option maxRecDepth 20000 in
theorem sL_areFrames_353 {d : Nat} {Q : mb_O → mb_S → Prop} {σ : mb_S} {st : List Value} {l1 l2 l3 l4 l5 l6 l7 l8 l9 l10 l11 l12 : Option Value} {a : Nat} : mb_Rn d 89 353 [some (.ref a), l1, l2, l3, l4, l5, l6, l7, l8, l9, l10, l11, l12] st σ Q = mb_Rn d 89 354 [some (.ref a), l1, l2, l3, l4, l5, l6, l7, l8, l9, l10, l11, l12] (.ref a :: st) σ Q := rn_step rfl (fun _ _ => rfl)
set_option maxRecDepth 20000 in
theorem sL_areFrames_353n {d : Nat} {Q : mb_O → mb_S → Prop} {σ : mb_S} {st : List Value} {l1 l2 l3 l4 l5 l6 l7 l8 l9 l10 l11 l12 : Option Value} : mb_Rn d 89 353 [some (.null), l1, l2, l3, l4, l5, l6, l7, l8, l9, l10, l11, l12] st σ Q = mb_Rn d 89 354 [some (.null), l1, l2, l3, l4, l5, l6, l7, l8, l9, l10, l11, l12] (.null :: st) σ Q := rn_step rfl (fun _ _ => rfl)
set_option maxRecDepth 20000 in
theorem sL_areFrames_354 {d : Nat} {Q : mb_O → mb_S → Prop} {σ : mb_S} {st : List Value} {l0 l2 l3 l4 l5 l6 l7 l8 l9 l10 l11 l12 : Option Value} {x : Int32} : mb_Rn d 89 354 [l0, some (.int x), l2, l3, l4, l5, l6, l7, l8, l9, l10, l11, l12] st σ Q = mb_Rn d 89 355 [l0, some (.int x), l2, l3, l4, l5, l6, l7, l8, l9, l10, l11, l12] (.int x :: st) σ Q := rn_step rfl (fun _ _ => rfl)
set_option maxRecDepth 20000 in
theorem sL_areFrames_355 {d : Nat} {Q : mb_O → mb_S → Prop} {σ : mb_S} {st : List Value} {ls : mb_L} {p0 : Int32} {b : Nat} (hd : 1 ≤ d) (h4 : st.length ≤ 4) : mb_Rn d 89 355 ls (.int p0 :: .ref b :: st) σ Q = mb_gf σ b 7 False (fun _ => mb_Ex (d - 1) 58 [.ref b, .int p0] σ (mb_qx [] d 89 358 ls st Q)) := rn_callv mb_good rfl hd rfl rfl ⟨rfl, rfl⟩ h4 ⟨Nat.le_of_ble_eq_true rfl, rfl⟩
set_option maxRecDepth 20000 in
theorem sL_areFrames_358 {d : Nat} {Q : mb_O → mb_S → Prop} {σ : mb_S} {st : List Value} {ls : mb_L} : mb_Rn d 89 358 ls st σ Q = mb_Rn d 89 359 ls (.int 2 :: st) σ Q := rn_step rfl (fun _ _ => rfl)
set_option maxRecDepth 20000 in
theorem sL_areFrames_359 {d : Nat} {Q : mb_O → mb_S → Prop} {σ : mb_S} {st : List Value} {ls : mb_L} {x z : Int32} : mb_Rn d 89 359 ls (.int z :: .int x :: st) σ Q = if z < x then mb_Rn d 89 366 ls st σ Q else mb_Rn d 89 362 ls st σ Q := rn_ifb rfl (fun _ _ => rfl) decide_eq_true_iff
set_option maxRecDepth 20000 in
theorem sL_areFrames_362 {d : Nat} {Q : mb_O → mb_S → Prop} {σ : mb_S} {st : List Value} {ls : mb_L} : mb_Rn d 89 362 ls st σ Q = mb_Rn d 89 363 ls (.int 1 :: st) σ Q := rn_step rfl (fun _ _ => rfl)
set_option maxRecDepth 20000 in
theorem sL_areFrames_363 {d : Nat} {Q : mb_O → mb_S → Prop} {σ : mb_S} {st : List Value} {ls : mb_L} : mb_Rn d 89 363 ls st σ Q = mb_Rn d 89 367 ls st σ Q := rn_step rfl (fun _ _ => rfl)
set_option maxRecDepth 20000 in
theorem sL_areFrames_366 {d : Nat} {Q : mb_O → mb_S → Prop} {σ : mb_S} {st : List Value} {ls : mb_L} : mb_Rn d 89 366 ls st σ Q = mb_Rn d 89 367 ls (.int 0 :: st) σ Q := rn_step rfl (fun _ _ => rfl)
set_option maxRecDepth 20000 in
theorem sL_areFrames_367 {d : Nat} {Q : mb_O → mb_S → Prop} {σ : mb_S}  {ls : mb_L} {x : Int32} : mb_Rn d 89 367 ls [.int x] σ Q = if x = 0 ∨ x = 1 then Q (.inl (some (.int x))) σ else False := rn_zret rfl
set_option maxRecDepth 20000 in
theorem sL_law_0 {d : Nat} {Q : mb_O → mb_S → Prop} {σ : mb_S} {st : List Value} {ls : mb_L} : mb_Rn d 90 0 ls st σ Q = mb_Rn d 90 3 ls (.ref σ.2.1 :: st) (mb_al σ (.inr (7, [.null, .null, .null, .int 0, .int 0, .int 0, .int 0])) 7) Q := rn_step rfl (fun _ _ => rfl)
set_option maxRecDepth 20000 in
theorem sL_law_3 {d : Nat} {Q : mb_O → mb_S → Prop} {σ : mb_S} {st : List Value} {ls : mb_L} {a : Nat} : mb_Rn d 90 3 ls (.ref a :: st) σ Q = mb_Rn d 90 4 ls (.ref a :: .ref a :: st) σ Q := rn_step rfl (fun _ _ => rfl)
set_option maxRecDepth 20000 in
theorem sL_law_3i {d : Nat} {Q : mb_O → mb_S → Prop} {σ : mb_S} {st : List Value} {ls : mb_L} {x : Int32} : mb_Rn d 90 3 ls (.int x :: st) σ Q = mb_Rn d 90 4 ls (.int x :: .int x :: st) σ Q := rn_step rfl (fun _ _ => rfl)
set_option maxRecDepth 20000 in
theorem sL_law_4 {d : Nat} {Q : mb_O → mb_S → Prop} {σ : mb_S} {st : List Value} {ls : mb_L} {b : Nat} (hd : 1 ≤ d) (h4 : st.length ≤ 4) : mb_Rn d 90 4 ls (.ref b :: st) σ Q = mb_Ex (d - 1) 40 [.ref b] σ (mb_qk d 90 7 ls st Q) := rn_calli mb_good rfl hd rfl rfl ⟨rfl, rfl⟩ h4 ⟨Nat.le_of_ble_eq_true rfl, rfl⟩
set_option maxRecDepth 20000 in
theorem sL_law_7 {d : Nat} {Q : mb_O → mb_S → Prop} {σ : mb_S} {st : List Value} {l0 l1 l2 l3 l4 l5 l6 l7 l8 l9 l10 l11 l12 l13 l14 l15 l16 l17 l18 l19 : Option Value} {a : Nat} : mb_Rn d 90 7 [l0, l1, l2, l3, l4, l5, l6, l7, l8, l9, l10, l11, l12, l13, l14, l15, l16, l17, l18, l19] (.ref a :: st) σ Q = mb_Rn d 90 8 [l0, some (.ref a), l2, l3, l4, l5, l6, l7, l8, l9, l10, l11, l12, l13, l14, l15, l16, l17, l18, l19] st σ Q := rn_step rfl (fun _ _ => rfl)
set_option maxRecDepth 20000 in
theorem sL_law_7n {d : Nat} {Q : mb_O → mb_S → Prop} {σ : mb_S} {st : List Value} {l0 l1 l2 l3 l4 l5 l6 l7 l8 l9 l10 l11 l12 l13 l14 l15 l16 l17 l18 l19 : Option Value} : mb_Rn d 90 7 [l0, l1, l2, l3, l4, l5, l6, l7, l8, l9, l10, l11, l12, l13, l14, l15, l16, l17, l18, l19] (.null :: st) σ Q = mb_Rn d 90 8 [l0, some (.null), l2, l3, l4, l5, l6, l7, l8, l9, l10, l11, l12, l13, l14, l15, l16, l17, l18, l19] st σ Q := rn_step rfl (fun _ _ => rfl)
set_option maxRecDepth 20000 in
theorem sL_law_8 {d : Nat} {Q : mb_O → mb_S → Prop} {σ : mb_S} {st : List Value} {ls : mb_L} : mb_Rn d 90 8 ls st σ Q = mb_Rn d 90 10 ls (.int 24 :: st) σ Q := rn_step rfl (fun _ _ => rfl)
set_option maxRecDepth 20000 in
theorem sL_law_10 {d : Nat} {Q : mb_O → mb_S → Prop} {σ : mb_S} {st : List Value} {ls : mb_L} : mb_Rn d 90 10 ls (.int 24 :: st) σ Q = mb_Rn d 90 12 ls (.ref σ.2.1 :: st) (mb_al σ (.inl (0, 24, .inl (fun _ => 0))) 24) Q := rn_step rfl (fun _ _ => rfl)
set_option maxRecDepth 20000 in
theorem sL_law_12 {d : Nat} {Q : mb_O → mb_S → Prop} {σ : mb_S} {st : List Value} {l0 l1 l2 l3 l4 l5 l6 l7 l8 l9 l10 l11 l12 l13 l14 l15 l16 l17 l18 l19 : Option Value} {a : Nat} : mb_Rn d 90 12 [l0, l1, l2, l3, l4, l5, l6, l7, l8, l9, l10, l11, l12, l13, l14, l15, l16, l17, l18, l19] (.ref a :: st) σ Q = mb_Rn d 90 13 [l0, l1, some (.ref a), l3, l4, l5, l6, l7, l8, l9, l10, l11, l12, l13, l14, l15, l16, l17, l18, l19] st σ Q := rn_step rfl (fun _ _ => rfl)
set_option maxRecDepth 20000 in
theorem sL_law_12n {d : Nat} {Q : mb_O → mb_S → Prop} {σ : mb_S} {st : List Value} {l0 l1 l2 l3 l4 l5 l6 l7 l8 l9 l10 l11 l12 l13 l14 l15 l16 l17 l18 l19 : Option Value} : mb_Rn d 90 12 [l0, l1, l2, l3, l4, l5, l6, l7, l8, l9, l10, l11, l12, l13, l14, l15, l16, l17, l18, l19] (.null :: st) σ Q = mb_Rn d 90 13 [l0, l1, some (.null), l3, l4, l5, l6, l7, l8, l9, l10, l11, l12, l13, l14, l15, l16, l17, l18, l19] st σ Q := rn_step rfl (fun _ _ => rfl)
set_option maxRecDepth 20000 in
theorem sL_law_13 {d : Nat} {Q : mb_O → mb_S → Prop} {σ : mb_S} {st : List Value} {ls : mb_L} : mb_Rn d 90 13 ls st σ Q = mb_Rn d 90 15 ls (.int 24 :: st) σ Q := rn_step rfl (fun _ _ => rfl)
set_option maxRecDepth 20000 in
theorem sL_law_15 {d : Nat} {Q : mb_O → mb_S → Prop} {σ : mb_S} {st : List Value} {ls : mb_L} : mb_Rn d 90 15 ls (.int 24 :: st) σ Q = mb_Rn d 90 17 ls (.ref σ.2.1 :: st) (mb_al σ (.inl (0, 24, .inl (fun _ => 0))) 24) Q := rn_step rfl (fun _ _ => rfl)
set_option maxRecDepth 20000 in
theorem sL_law_17 {d : Nat} {Q : mb_O → mb_S → Prop} {σ : mb_S} {st : List Value} {l0 l1 l2 l3 l4 l5 l6 l7 l8 l9 l10 l11 l12 l13 l14 l15 l16 l17 l18 l19 : Option Value} {a : Nat} : mb_Rn d 90 17 [l0, l1, l2, l3, l4, l5, l6, l7, l8, l9, l10, l11, l12, l13, l14, l15, l16, l17, l18, l19] (.ref a :: st) σ Q = mb_Rn d 90 18 [l0, l1, l2, some (.ref a), l4, l5, l6, l7, l8, l9, l10, l11, l12, l13, l14, l15, l16, l17, l18, l19] st σ Q := rn_step rfl (fun _ _ => rfl)
set_option maxRecDepth 20000 in
theorem sL_law_17n {d : Nat} {Q : mb_O → mb_S → Prop} {σ : mb_S} {st : List Value} {l0 l1 l2 l3 l4 l5 l6 l7 l8 l9 l10 l11 l12 l13 l14 l15 l16 l17 l18 l19 : Option Value} : mb_Rn d 90 17 [l0, l1, l2, l3, l4, l5, l6, l7, l8, l9, l10, l11, l12, l13, l14, l15, l16, l17, l18, l19] (.null :: st) σ Q = mb_Rn d 90 18 [l0, l1, l2, some (.null), l4, l5, l6, l7, l8, l9, l10, l11, l12, l13, l14, l15, l16, l17, l18, l19] st σ Q := rn_step rfl (fun _ _ => rfl)
set_option maxRecDepth 20000 in
theorem sL_law_18 {d : Nat} {Q : mb_O → mb_S → Prop} {σ : mb_S} {st : List Value} {ls : mb_L} : mb_Rn d 90 18 ls st σ Q = mb_Rn d 90 19 ls (.int 2 :: st) σ Q := rn_step rfl (fun _ _ => rfl)
set_option maxRecDepth 20000 in
theorem sL_law_19 {d : Nat} {Q : mb_O → mb_S → Prop} {σ : mb_S} {st : List Value} {ls : mb_L} : mb_Rn d 90 19 ls (.int 2 :: st) σ Q = mb_Rn d 90 21 ls (.ref σ.2.1 :: st) (mb_al σ (.inl (0, 2, .inl (fun _ => 0))) 2) Q := rn_step rfl (fun _ _ => rfl)
set_option maxRecDepth 20000 in
theorem sL_law_21 {d : Nat} {Q : mb_O → mb_S → Prop} {σ : mb_S} {st : List Value} {l0 l1 l2 l3 l4 l5 l6 l7 l8 l9 l10 l11 l12 l13 l14 l15 l16 l17 l18 l19 : Option Value} {a : Nat} : mb_Rn d 90 21 [l0, l1, l2, l3, l4, l5, l6, l7, l8, l9, l10, l11, l12, l13, l14, l15, l16, l17, l18, l19] (.ref a :: st) σ Q = mb_Rn d 90 23 [l0, l1, l2, l3, some (.ref a), l5, l6, l7, l8, l9, l10, l11, l12, l13, l14, l15, l16, l17, l18, l19] st σ Q := rn_step rfl (fun _ _ => rfl)
set_option maxRecDepth 20000 in
theorem sL_law_21n {d : Nat} {Q : mb_O → mb_S → Prop} {σ : mb_S} {st : List Value} {l0 l1 l2 l3 l4 l5 l6 l7 l8 l9 l10 l11 l12 l13 l14 l15 l16 l17 l18 l19 : Option Value} : mb_Rn d 90 21 [l0, l1, l2, l3, l4, l5, l6, l7, l8, l9, l10, l11, l12, l13, l14, l15, l16, l17, l18, l19] (.null :: st) σ Q = mb_Rn d 90 23 [l0, l1, l2, l3, some (.null), l5, l6, l7, l8, l9, l10, l11, l12, l13, l14, l15, l16, l17, l18, l19] st σ Q := rn_step rfl (fun _ _ => rfl)
set_option maxRecDepth 20000 in
theorem sL_law_23 {d : Nat} {Q : mb_O → mb_S → Prop} {σ : mb_S} {st : List Value} {ls : mb_L} : mb_Rn d 90 23 ls st σ Q = mb_Rn d 90 24 ls (.int 2 :: st) σ Q := rn_step rfl (fun _ _ => rfl)
set_option maxRecDepth 20000 in
theorem sL_law_24 {d : Nat} {Q : mb_O → mb_S → Prop} {σ : mb_S} {st : List Value} {ls : mb_L} : mb_Rn d 90 24 ls (.int 2 :: st) σ Q = mb_Rn d 90 26 ls (.ref σ.2.1 :: st) (mb_al σ (.inl (0, 2, .inl (fun _ => 0))) 2) Q := rn_step rfl (fun _ _ => rfl)
set_option maxRecDepth 20000 in
theorem sL_law_26 {d : Nat} {Q : mb_O → mb_S → Prop} {σ : mb_S} {st : List Value} {l0 l1 l2 l3 l4 l5 l6 l7 l8 l9 l10 l11 l12 l13 l14 l15 l16 l17 l18 l19 : Option Value} {a : Nat} : mb_Rn d 90 26 [l0, l1, l2, l3, l4, l5, l6, l7, l8, l9, l10, l11, l12, l13, l14, l15, l16, l17, l18, l19] (.ref a :: st) σ Q = mb_Rn d 90 28 [l0, l1, l2, l3, l4, some (.ref a), l6, l7, l8, l9, l10, l11, l12, l13, l14, l15, l16, l17, l18, l19] st σ Q := rn_step rfl (fun _ _ => rfl)
set_option maxRecDepth 20000 in
theorem sL_law_26n {d : Nat} {Q : mb_O → mb_S → Prop} {σ : mb_S} {st : List Value} {l0 l1 l2 l3 l4 l5 l6 l7 l8 l9 l10 l11 l12 l13 l14 l15 l16 l17 l18 l19 : Option Value} : mb_Rn d 90 26 [l0, l1, l2, l3, l4, l5, l6, l7, l8, l9, l10, l11, l12, l13, l14, l15, l16, l17, l18, l19] (.null :: st) σ Q = mb_Rn d 90 28 [l0, l1, l2, l3, l4, some (.null), l6, l7, l8, l9, l10, l11, l12, l13, l14, l15, l16, l17, l18, l19] st σ Q := rn_step rfl (fun _ _ => rfl)
set_option maxRecDepth 20000 in
theorem sL_law_28 {d : Nat} {Q : mb_O → mb_S → Prop} {σ : mb_S} {st : List Value} {ls : mb_L} : mb_Rn d 90 28 ls st σ Q = mb_Rn d 90 29 ls (.int 2 :: st) σ Q := rn_step rfl (fun _ _ => rfl)
set_option maxRecDepth 20000 in
theorem sL_law_29 {d : Nat} {Q : mb_O → mb_S → Prop} {σ : mb_S} {st : List Value} {ls : mb_L} : mb_Rn d 90 29 ls (.int 2 :: st) σ Q = mb_Rn d 90 31 ls (.ref σ.2.1 :: st) (mb_al σ (.inl (0, 2, .inl (fun _ => 0))) 2) Q := rn_step rfl (fun _ _ => rfl)
set_option maxRecDepth 20000 in
theorem sL_law_31 {d : Nat} {Q : mb_O → mb_S → Prop} {σ : mb_S} {st : List Value} {l0 l1 l2 l3 l4 l5 l6 l7 l8 l9 l10 l11 l12 l13 l14 l15 l16 l17 l18 l19 : Option Value} {a : Nat} : mb_Rn d 90 31 [l0, l1, l2, l3, l4, l5, l6, l7, l8, l9, l10, l11, l12, l13, l14, l15, l16, l17, l18, l19] (.ref a :: st) σ Q = mb_Rn d 90 33 [l0, l1, l2, l3, l4, l5, some (.ref a), l7, l8, l9, l10, l11, l12, l13, l14, l15, l16, l17, l18, l19] st σ Q := rn_step rfl (fun _ _ => rfl)
set_option maxRecDepth 20000 in
theorem sL_law_31n {d : Nat} {Q : mb_O → mb_S → Prop} {σ : mb_S} {st : List Value} {l0 l1 l2 l3 l4 l5 l6 l7 l8 l9 l10 l11 l12 l13 l14 l15 l16 l17 l18 l19 : Option Value} : mb_Rn d 90 31 [l0, l1, l2, l3, l4, l5, l6, l7, l8, l9, l10, l11, l12, l13, l14, l15, l16, l17, l18, l19] (.null :: st) σ Q = mb_Rn d 90 33 [l0, l1, l2, l3, l4, l5, some (.null), l7, l8, l9, l10, l11, l12, l13, l14, l15, l16, l17, l18, l19] st σ Q := rn_step rfl (fun _ _ => rfl)
set_option maxRecDepth 20000 in
theorem sL_law_33 {d : Nat} {Q : mb_O → mb_S → Prop} {σ : mb_S} {st : List Value} {ls : mb_L} : mb_Rn d 90 33 ls st σ Q = mb_Rn d 90 34 ls (.int 0 :: st) σ Q := rn_step rfl (fun _ _ => rfl)
set_option maxRecDepth 20000 in
theorem sL_law_34 {d : Nat} {Q : mb_O → mb_S → Prop} {σ : mb_S} {st : List Value} {l0 l1 l2 l3 l4 l5 l6 l7 l8 l9 l10 l11 l12 l13 l14 l15 l16 l17 l18 l19 : Option Value} {x : Int32} : mb_Rn d 90 34 [l0, l1, l2, l3, l4, l5, l6, l7, l8, l9, l10, l11, l12, l13, l14, l15, l16, l17, l18, l19] (.int x :: st) σ Q = mb_Rn d 90 36 [l0, l1, l2, l3, l4, l5, l6, some (.int x), l8, l9, l10, l11, l12, l13, l14, l15, l16, l17, l18, l19] st σ Q := rn_step rfl (fun _ _ => rfl)
set_option maxRecDepth 20000 in
theorem sL_law_36 {d : Nat} {Q : mb_O → mb_S → Prop} {σ : mb_S} {st : List Value} {ls : mb_L} : mb_Rn d 90 36 ls st σ Q = mb_Rn d 90 37 ls (.int 0 :: st) σ Q := rn_step rfl (fun _ _ => rfl)
set_option maxRecDepth 20000 in
theorem sL_law_37 {d : Nat} {Q : mb_O → mb_S → Prop} {σ : mb_S} {st : List Value} {l0 l1 l2 l3 l4 l5 l6 l7 l8 l9 l10 l11 l12 l13 l14 l15 l16 l17 l18 l19 : Option Value} {x : Int32} : mb_Rn d 90 37 [l0, l1, l2, l3, l4, l5, l6, l7, l8, l9, l10, l11, l12, l13, l14, l15, l16, l17, l18, l19] (.int x :: st) σ Q = mb_Rn d 90 39 [l0, l1, l2, l3, l4, l5, l6, l7, some (.int x), l9, l10, l11, l12, l13, l14, l15, l16, l17, l18, l19] st σ Q := rn_step rfl (fun _ _ => rfl)
set_option maxRecDepth 20000 in
theorem sL_law_39 {d : Nat} {Q : mb_O → mb_S → Prop} {σ : mb_S} {st : List Value} {l0 l2 l3 l4 l5 l6 l7 l8 l9 l10 l11 l12 l13 l14 l15 l16 l17 l18 l19 : Option Value} {a : Nat} : mb_Rn d 90 39 [l0, some (.ref a), l2, l3, l4, l5, l6, l7, l8, l9, l10, l11, l12, l13, l14, l15, l16, l17, l18, l19] st σ Q = mb_Rn d 90 40 [l0, some (.ref a), l2, l3, l4, l5, l6, l7, l8, l9, l10, l11, l12, l13, l14, l15, l16, l17, l18, l19] (.ref a :: st) σ Q := rn_step rfl (fun _ _ => rfl)
set_option maxRecDepth 20000 in
theorem sL_law_39n {d : Nat} {Q : mb_O → mb_S → Prop} {σ : mb_S} {st : List Value} {l0 l2 l3 l4 l5 l6 l7 l8 l9 l10 l11 l12 l13 l14 l15 l16 l17 l18 l19 : Option Value} : mb_Rn d 90 39 [l0, some (.null), l2, l3, l4, l5, l6, l7, l8, l9, l10, l11, l12, l13, l14, l15, l16, l17, l18, l19] st σ Q = mb_Rn d 90 40 [l0, some (.null), l2, l3, l4, l5, l6, l7, l8, l9, l10, l11, l12, l13, l14, l15, l16, l17, l18, l19] (.null :: st) σ Q := rn_step rfl (fun _ _ => rfl)
set_option maxRecDepth 20000 in
theorem sL_law_40 {d : Nat} {Q : mb_O → mb_S → Prop} {σ : mb_S} {st : List Value} {ls : mb_L} {b : Nat} (hd : 1 ≤ d) (h4 : st.length ≤ 4) : mb_Rn d 90 40 ls (.ref b :: st) σ Q = mb_gf σ b 7 False (fun _ => mb_Ex (d - 1) 41 [.ref b] σ (mb_qx [] d 90 43 ls st Q)) := rn_callv mb_good rfl hd rfl rfl ⟨rfl, rfl⟩ h4 ⟨Nat.le_of_ble_eq_true rfl, rfl⟩
set_option maxRecDepth 20000 in
theorem sL_law_43 {d : Nat} {Q : mb_O → mb_S → Prop} {σ : mb_S} {st : List Value} {ls : mb_L} {x : Int32} : mb_Rn d 90 43 ls (.int x :: st) σ Q = if x = 0 then mb_Rn d 90 46 ls st σ Q else mb_Rn d 90 77 ls st σ Q := rn_ifn rfl (fun _ _ => rfl) bne_iff_ne
set_option maxRecDepth 20000 in
theorem sL_law_46 {d : Nat} {Q : mb_O → mb_S → Prop} {σ : mb_S} {st : List Value} {l0 l2 l3 l4 l5 l6 l7 l8 l9 l10 l11 l12 l13 l14 l15 l16 l17 l18 l19 : Option Value} {a : Nat} : mb_Rn d 90 46 [l0, some (.ref a), l2, l3, l4, l5, l6, l7, l8, l9, l10, l11, l12, l13, l14, l15, l16, l17, l18, l19] st σ Q = mb_Rn d 90 47 [l0, some (.ref a), l2, l3, l4, l5, l6, l7, l8, l9, l10, l11, l12, l13, l14, l15, l16, l17, l18, l19] (.ref a :: st) σ Q := rn_step rfl (fun _ _ => rfl)
set_option maxRecDepth 20000 in
theorem sL_law_46n {d : Nat} {Q : mb_O → mb_S → Prop} {σ : mb_S} {st : List Value} {l0 l2 l3 l4 l5 l6 l7 l8 l9 l10 l11 l12 l13 l14 l15 l16 l17 l18 l19 : Option Value} : mb_Rn d 90 46 [l0, some (.null), l2, l3, l4, l5, l6, l7, l8, l9, l10, l11, l12, l13, l14, l15, l16, l17, l18, l19] st σ Q = mb_Rn d 90 47 [l0, some (.null), l2, l3, l4, l5, l6, l7, l8, l9, l10, l11, l12, l13, l14, l15, l16, l17, l18, l19] (.null :: st) σ Q := rn_step rfl (fun _ _ => rfl)
set_option maxRecDepth 20000 in
theorem sL_law_47 {d : Nat} {Q : mb_O → mb_S → Prop} {σ : mb_S} {st : List Value} {ls : mb_L} {b : Nat} (hd : 1 ≤ d) (h4 : st.length ≤ 4) : mb_Rn d 90 47 ls (.ref b :: st) σ Q = mb_gf σ b 7 False (fun _ => mb_Ex (d - 1) 41 [.ref b] σ (mb_qx [] d 90 50 ls st Q)) := rn_callv mb_good rfl hd rfl rfl ⟨rfl, rfl⟩ h4 ⟨Nat.le_of_ble_eq_true rfl, rfl⟩
set_option maxRecDepth 20000 in
theorem sL_law_50 {d : Nat} {Q : mb_O → mb_S → Prop} {σ : mb_S} {st : List Value} {ls : mb_L} : mb_Rn d 90 50 ls st σ Q = mb_Rn d 90 51 ls (.int 1 :: st) σ Q := rn_step rfl (fun _ _ => rfl)
set_option maxRecDepth 20000 in
theorem sL_law_51 {d : Nat} {Q : mb_O → mb_S → Prop} {σ : mb_S} {st : List Value} {ls : mb_L} {x z : Int32} : mb_Rn d 90 51 ls (.int z :: .int x :: st) σ Q = if x = z then mb_Rn d 90 54 ls st σ Q else mb_Rn d 90 77 ls st σ Q := rn_ifn rfl (fun _ _ => rfl) bne_iff_ne
set_option maxRecDepth 20000 in
theorem sL_law_54 {d : Nat} {Q : mb_O → mb_S → Prop} {σ : mb_S} {st : List Value} {l0 l2 l3 l4 l5 l6 l7 l8 l9 l10 l11 l12 l13 l14 l15 l16 l17 l18 l19 : Option Value} {a : Nat} : mb_Rn d 90 54 [l0, some (.ref a), l2, l3, l4, l5, l6, l7, l8, l9, l10, l11, l12, l13, l14, l15, l16, l17, l18, l19] st σ Q = mb_Rn d 90 55 [l0, some (.ref a), l2, l3, l4, l5, l6, l7, l8, l9, l10, l11, l12, l13, l14, l15, l16, l17, l18, l19] (.ref a :: st) σ Q := rn_step rfl (fun _ _ => rfl)
set_option maxRecDepth 20000 in
theorem sL_law_54n {d : Nat} {Q : mb_O → mb_S → Prop} {σ : mb_S} {st : List Value} {l0 l2 l3 l4 l5 l6 l7 l8 l9 l10 l11 l12 l13 l14 l15 l16 l17 l18 l19 : Option Value} : mb_Rn d 90 54 [l0, some (.null), l2, l3, l4, l5, l6, l7, l8, l9, l10, l11, l12, l13, l14, l15, l16, l17, l18, l19] st σ Q = mb_Rn d 90 55 [l0, some (.null), l2, l3, l4, l5, l6, l7, l8, l9, l10, l11, l12, l13, l14, l15, l16, l17, l18, l19] (.null :: st) σ Q := rn_step rfl (fun _ _ => rfl)
set_option maxRecDepth 20000 in
theorem sL_law_55 {d : Nat} {Q : mb_O → mb_S → Prop} {σ : mb_S} {st : List Value} {ls : mb_L} : mb_Rn d 90 55 ls st σ Q = mb_Rn d 90 57 ls (.int 8 :: st) σ Q := rn_step rfl (fun _ _ => rfl)
set_option maxRecDepth 20000 in
theorem sL_law_57 {d : Nat} {Q : mb_O → mb_S → Prop} {σ : mb_S} {st : List Value} {ls : mb_L} {p0 : Int32} {b : Nat} (hd : 1 ≤ d) (h4 : st.length ≤ 4) : mb_Rn d 90 57 ls (.int p0 :: .ref b :: st) σ Q = mb_gf σ b 7 False (fun _ => mb_Ex (d - 1) 49 [.ref b, .int p0] σ (mb_qx [] d 90 60 ls st Q)) := rn_callv mb_good rfl hd rfl rfl ⟨rfl, rfl⟩ h4 ⟨Nat.le_of_ble_eq_true rfl, rfl⟩
set_option maxRecDepth 20000 in
theorem sL_law_60 {d : Nat} {Q : mb_O → mb_S → Prop} {σ : mb_S} {st : List Value} {ls : mb_L} {x : Int32} : mb_Rn d 90 60 ls (.int x :: st) σ Q = if x = 0 then mb_Rn d 90 63 ls st σ Q else mb_Rn d 90 77 ls st σ Q := rn_ifn rfl (fun _ _ => rfl) bne_iff_ne
set_option maxRecDepth 20000 in
theorem sL_law_63 {d : Nat} {Q : mb_O → mb_S → Prop} {σ : mb_S} {st : List Value} {l0 l2 l3 l4 l5 l6 l7 l8 l9 l10 l11 l12 l13 l14 l15 l16 l17 l18 l19 : Option Value} {a : Nat} : mb_Rn d 90 63 [l0, some (.ref a), l2, l3, l4, l5, l6, l7, l8, l9, l10, l11, l12, l13, l14, l15, l16, l17, l18, l19] st σ Q = mb_Rn d 90 64 [l0, some (.ref a), l2, l3, l4, l5, l6, l7, l8, l9, l10, l11, l12, l13, l14, l15, l16, l17, l18, l19] (.ref a :: st) σ Q := rn_step rfl (fun _ _ => rfl)
set_option maxRecDepth 20000 in
theorem sL_law_63n {d : Nat} {Q : mb_O → mb_S → Prop} {σ : mb_S} {st : List Value} {l0 l2 l3 l4 l5 l6 l7 l8 l9 l10 l11 l12 l13 l14 l15 l16 l17 l18 l19 : Option Value} : mb_Rn d 90 63 [l0, some (.null), l2, l3, l4, l5, l6, l7, l8, l9, l10, l11, l12, l13, l14, l15, l16, l17, l18, l19] st σ Q = mb_Rn d 90 64 [l0, some (.null), l2, l3, l4, l5, l6, l7, l8, l9, l10, l11, l12, l13, l14, l15, l16, l17, l18, l19] (.null :: st) σ Q := rn_step rfl (fun _ _ => rfl)
set_option maxRecDepth 20000 in
theorem sL_law_64 {d : Nat} {Q : mb_O → mb_S → Prop} {σ : mb_S} {st : List Value} {ls : mb_L} : mb_Rn d 90 64 ls st σ Q = mb_Rn d 90 66 ls (.int 7 :: st) σ Q := rn_step rfl (fun _ _ => rfl)
set_option maxRecDepth 20000 in
theorem sL_law_66 {d : Nat} {Q : mb_O → mb_S → Prop} {σ : mb_S} {st : List Value} {ls : mb_L} {p0 : Int32} {b : Nat} (hd : 1 ≤ d) (h4 : st.length ≤ 4) : mb_Rn d 90 66 ls (.int p0 :: .ref b :: st) σ Q = mb_gf σ b 7 False (fun _ => mb_Ex (d - 1) 49 [.ref b, .int p0] σ (mb_qx [] d 90 69 ls st Q)) := rn_callv mb_good rfl hd rfl rfl ⟨rfl, rfl⟩ h4 ⟨Nat.le_of_ble_eq_true rfl, rfl⟩
set_option maxRecDepth 20000 in
theorem sL_law_69 {d : Nat} {Q : mb_O → mb_S → Prop} {σ : mb_S} {st : List Value} {ls : mb_L} : mb_Rn d 90 69 ls st σ Q = mb_Rn d 90 70 ls (.int 1 :: st) σ Q := rn_step rfl (fun _ _ => rfl)
set_option maxRecDepth 20000 in
theorem sL_law_70 {d : Nat} {Q : mb_O → mb_S → Prop} {σ : mb_S} {st : List Value} {ls : mb_L} {x z : Int32} : mb_Rn d 90 70 ls (.int z :: .int x :: st) σ Q = if x = z then mb_Rn d 90 73 ls st σ Q else mb_Rn d 90 77 ls st σ Q := rn_ifn rfl (fun _ _ => rfl) bne_iff_ne
set_option maxRecDepth 20000 in
theorem sL_law_73 {d : Nat} {Q : mb_O → mb_S → Prop} {σ : mb_S} {st : List Value} {ls : mb_L} : mb_Rn d 90 73 ls st σ Q = mb_Rn d 90 74 ls (.int 1 :: st) σ Q := rn_step rfl (fun _ _ => rfl)
set_option maxRecDepth 20000 in
theorem sL_law_74 {d : Nat} {Q : mb_O → mb_S → Prop} {σ : mb_S} {st : List Value} {ls : mb_L} : mb_Rn d 90 74 ls st σ Q = mb_Rn d 90 78 ls st σ Q := rn_step rfl (fun _ _ => rfl)
set_option maxRecDepth 20000 in
theorem sL_law_77 {d : Nat} {Q : mb_O → mb_S → Prop} {σ : mb_S} {st : List Value} {ls : mb_L} : mb_Rn d 90 77 ls st σ Q = mb_Rn d 90 78 ls (.int 0 :: st) σ Q := rn_step rfl (fun _ _ => rfl)
set_option maxRecDepth 20000 in
theorem sL_law_78 {d : Nat} {Q : mb_O → mb_S → Prop} {σ : mb_S} {st : List Value} {l0 l1 l2 l3 l4 l5 l6 l7 l8 l9 l10 l11 l12 l13 l14 l15 l16 l17 l18 l19 : Option Value} {x : Int32} : mb_Rn d 90 78 [l0, l1, l2, l3, l4, l5, l6, l7, l8, l9, l10, l11, l12, l13, l14, l15, l16, l17, l18, l19] (.int x :: st) σ Q = mb_Rn d 90 80 [l0, l1, l2, l3, l4, l5, l6, l7, l8, some (.int x), l10, l11, l12, l13, l14, l15, l16, l17, l18, l19] st σ Q := rn_step rfl (fun _ _ => rfl)
set_option maxRecDepth 20000 in
theorem sL_law_80 {d : Nat} {Q : mb_O → mb_S → Prop} {σ : mb_S} {st : List Value} {l0 l1 l2 l3 l5 l6 l7 l8 l9 l10 l11 l12 l13 l14 l15 l16 l17 l18 l19 : Option Value} {a : Nat} : mb_Rn d 90 80 [l0, l1, l2, l3, some (.ref a), l5, l6, l7, l8, l9, l10, l11, l12, l13, l14, l15, l16, l17, l18, l19] st σ Q = mb_Rn d 90 82 [l0, l1, l2, l3, some (.ref a), l5, l6, l7, l8, l9, l10, l11, l12, l13, l14, l15, l16, l17, l18, l19] (.ref a :: st) σ Q := rn_step rfl (fun _ _ => rfl)
set_option maxRecDepth 20000 in
theorem sL_law_80n {d : Nat} {Q : mb_O → mb_S → Prop} {σ : mb_S} {st : List Value} {l0 l1 l2 l3 l5 l6 l7 l8 l9 l10 l11 l12 l13 l14 l15 l16 l17 l18 l19 : Option Value} : mb_Rn d 90 80 [l0, l1, l2, l3, some (.null), l5, l6, l7, l8, l9, l10, l11, l12, l13, l14, l15, l16, l17, l18, l19] st σ Q = mb_Rn d 90 82 [l0, l1, l2, l3, some (.null), l5, l6, l7, l8, l9, l10, l11, l12, l13, l14, l15, l16, l17, l18, l19] (.null :: st) σ Q := rn_step rfl (fun _ _ => rfl)
set_option maxRecDepth 20000 in
theorem sL_law_82 {d : Nat} {Q : mb_O → mb_S → Prop} {σ : mb_S} {st : List Value} {ls : mb_L} : mb_Rn d 90 82 ls st σ Q = mb_Rn d 90 83 ls (.int 0 :: st) σ Q := rn_step rfl (fun _ _ => rfl)
set_option maxRecDepth 20000 in
theorem sL_law_83 {d : Nat} {Q : mb_O → mb_S → Prop} {σ : mb_S} {st : List Value} {ls : mb_L} : mb_Rn d 90 83 ls st σ Q = mb_Rn d 90 85 ls (.int 8 :: st) σ Q := rn_step rfl (fun _ _ => rfl)
set_option maxRecDepth 20000 in
theorem sL_law_85 {d : Nat} {Q : mb_O → mb_S → Prop} {σ : mb_S} {st : List Value} {ls : mb_L} {a : Nat} {j x : Int32} : mb_Rn d 90 85 ls (.int x :: .int j :: .ref a :: st) σ Q = mb_gi σ a j False (fun kd n f => if kd = 0 then mb_Rn d 90 86 ls st (mb_up σ a (.inl (0, n, .inl (upd f j.toNatClampNeg x)))) Q else False) := rn_iast rfl
set_option maxRecDepth 20000 in
theorem sL_law_86 {d : Nat} {Q : mb_O → mb_S → Prop} {σ : mb_S} {st : List Value} {l0 l1 l2 l3 l5 l6 l7 l8 l9 l10 l11 l12 l13 l14 l15 l16 l17 l18 l19 : Option Value} {a : Nat} : mb_Rn d 90 86 [l0, l1, l2, l3, some (.ref a), l5, l6, l7, l8, l9, l10, l11, l12, l13, l14, l15, l16, l17, l18, l19] st σ Q = mb_Rn d 90 88 [l0, l1, l2, l3, some (.ref a), l5, l6, l7, l8, l9, l10, l11, l12, l13, l14, l15, l16, l17, l18, l19] (.ref a :: st) σ Q := rn_step rfl (fun _ _ => rfl)
set_option maxRecDepth 20000 in
theorem sL_law_86n {d : Nat} {Q : mb_O → mb_S → Prop} {σ : mb_S} {st : List Value} {l0 l1 l2 l3 l5 l6 l7 l8 l9 l10 l11 l12 l13 l14 l15 l16 l17 l18 l19 : Option Value} : mb_Rn d 90 86 [l0, l1, l2, l3, some (.null), l5, l6, l7, l8, l9, l10, l11, l12, l13, l14, l15, l16, l17, l18, l19] st σ Q = mb_Rn d 90 88 [l0, l1, l2, l3, some (.null), l5, l6, l7, l8, l9, l10, l11, l12, l13, l14, l15, l16, l17, l18, l19] (.null :: st) σ Q := rn_step rfl (fun _ _ => rfl)
set_option maxRecDepth 20000 in
theorem sL_law_88 {d : Nat} {Q : mb_O → mb_S → Prop} {σ : mb_S} {st : List Value} {ls : mb_L} : mb_Rn d 90 88 ls st σ Q = mb_Rn d 90 89 ls (.int 1 :: st) σ Q := rn_step rfl (fun _ _ => rfl)
set_option maxRecDepth 20000 in
theorem sL_law_89 {d : Nat} {Q : mb_O → mb_S → Prop} {σ : mb_S} {st : List Value} {ls : mb_L} : mb_Rn d 90 89 ls st σ Q = mb_Rn d 90 91 ls (.int 7 :: st) σ Q := rn_step rfl (fun _ _ => rfl)
set_option maxRecDepth 20000 in
theorem sL_law_91 {d : Nat} {Q : mb_O → mb_S → Prop} {σ : mb_S} {st : List Value} {ls : mb_L} {a : Nat} {j x : Int32} : mb_Rn d 90 91 ls (.int x :: .int j :: .ref a :: st) σ Q = mb_gi σ a j False (fun kd n f => if kd = 0 then mb_Rn d 90 92 ls st (mb_up σ a (.inl (0, n, .inl (upd f j.toNatClampNeg x)))) Q else False) := rn_iast rfl
set_option maxRecDepth 20000 in
theorem sL_law_92 {d : Nat} {Q : mb_O → mb_S → Prop} {σ : mb_S} {st : List Value} {l1 l2 l3 l4 l5 l6 l7 l8 l9 l10 l11 l12 l13 l14 l15 l16 l17 l18 l19 : Option Value} {a : Nat} : mb_Rn d 90 92 [some (.ref a), l1, l2, l3, l4, l5, l6, l7, l8, l9, l10, l11, l12, l13, l14, l15, l16, l17, l18, l19] st σ Q = mb_Rn d 90 93 [some (.ref a), l1, l2, l3, l4, l5, l6, l7, l8, l9, l10, l11, l12, l13, l14, l15, l16, l17, l18, l19] (.ref a :: st) σ Q := rn_step rfl (fun _ _ => rfl)
set_option maxRecDepth 20000 in
theorem sL_law_92n {d : Nat} {Q : mb_O → mb_S → Prop} {σ : mb_S} {st : List Value} {l1 l2 l3 l4 l5 l6 l7 l8 l9 l10 l11 l12 l13 l14 l15 l16 l17 l18 l19 : Option Value} : mb_Rn d 90 92 [some (.null), l1, l2, l3, l4, l5, l6, l7, l8, l9, l10, l11, l12, l13, l14, l15, l16, l17, l18, l19] st σ Q = mb_Rn d 90 93 [some (.null), l1, l2, l3, l4, l5, l6, l7, l8, l9, l10, l11, l12, l13, l14, l15, l16, l17, l18, l19] (.null :: st) σ Q := rn_step rfl (fun _ _ => rfl)
set_option maxRecDepth 20000 in
theorem sL_law_93 {d : Nat} {Q : mb_O → mb_S → Prop} {σ : mb_S} {st : List Value} {ls : mb_L} {a n : Nat} {f : Nat → Int32} (ha : σ.1 a = some (.inl (9, n, .inl f))) : mb_Rn d 90 93 ls (.ref a :: st) σ Q = mb_Rn d 90 94 ls (.int (Int32.ofNat n) :: st) σ Q := rn_step rfl (fun _ _ => by unfold mi_alen; dsimp only; rw [ha]; rfl)
set_option maxRecDepth 20000 in
theorem sL_law_94 {d : Nat} {Q : mb_O → mb_S → Prop} {σ : mb_S} {st : List Value} {ls : mb_L} : mb_Rn d 90 94 ls st σ Q = mb_Rn d 90 96 ls (.int 60 :: st) σ Q := rn_step rfl (fun _ _ => rfl)
set_option maxRecDepth 20000 in
theorem sL_law_96 {d : Nat} {Q : mb_O → mb_S → Prop} {σ : mb_S} {st : List Value} {ls : mb_L} {x z : Int32} : mb_Rn d 90 96 ls (.int z :: .int x :: st) σ Q = if z ≤ x then mb_Rn d 90 105 ls st σ Q else mb_Rn d 90 99 ls st σ Q := rn_ifb rfl (fun _ _ => rfl) decide_eq_true_iff
set_option maxRecDepth 20000 in
theorem sL_law_99 {d : Nat} {Q : mb_O → mb_S → Prop} {σ : mb_S} {st : List Value} {ls : mb_L} : mb_Rn d 90 99 ls st σ Q = mb_Rn d 90 102 ls (.int 150 :: st) σ Q := rn_step rfl (fun _ _ => rfl)
set_option maxRecDepth 20000 in
theorem sL_law_102 {d : Nat} {Q : mb_O → mb_S → Prop} {σ : mb_S} {st : List Value} {ls : mb_L} : mb_Rn d 90 102 ls st σ Q = mb_Rn d 90 122 ls st σ Q := rn_step rfl (fun _ _ => rfl)
set_option maxRecDepth 20000 in
theorem sL_law_105 {d : Nat} {Q : mb_O → mb_S → Prop} {σ : mb_S} {st : List Value} {l1 l2 l3 l4 l5 l6 l7 l8 l9 l10 l11 l12 l13 l14 l15 l16 l17 l18 l19 : Option Value} {a : Nat} : mb_Rn d 90 105 [some (.ref a), l1, l2, l3, l4, l5, l6, l7, l8, l9, l10, l11, l12, l13, l14, l15, l16, l17, l18, l19] st σ Q = mb_Rn d 90 106 [some (.ref a), l1, l2, l3, l4, l5, l6, l7, l8, l9, l10, l11, l12, l13, l14, l15, l16, l17, l18, l19] (.ref a :: st) σ Q := rn_step rfl (fun _ _ => rfl)
set_option maxRecDepth 20000 in
theorem sL_law_105n {d : Nat} {Q : mb_O → mb_S → Prop} {σ : mb_S} {st : List Value} {l1 l2 l3 l4 l5 l6 l7 l8 l9 l10 l11 l12 l13 l14 l15 l16 l17 l18 l19 : Option Value} : mb_Rn d 90 105 [some (.null), l1, l2, l3, l4, l5, l6, l7, l8, l9, l10, l11, l12, l13, l14, l15, l16, l17, l18, l19] st σ Q = mb_Rn d 90 106 [some (.null), l1, l2, l3, l4, l5, l6, l7, l8, l9, l10, l11, l12, l13, l14, l15, l16, l17, l18, l19] (.null :: st) σ Q := rn_step rfl (fun _ _ => rfl)
set_option maxRecDepth 20000 in
theorem sL_law_106 {d : Nat} {Q : mb_O → mb_S → Prop} {σ : mb_S} {st : List Value} {ls : mb_L} {a n : Nat} {f : Nat → Int32} (ha : σ.1 a = some (.inl (9, n, .inl f))) : mb_Rn d 90 106 ls (.ref a :: st) σ Q = mb_Rn d 90 107 ls (.int (Int32.ofNat n) :: st) σ Q := rn_step rfl (fun _ _ => by unfold mi_alen; dsimp only; rw [ha]; rfl)
set_option maxRecDepth 20000 in
theorem sL_law_107 {d : Nat} {Q : mb_O → mb_S → Prop} {σ : mb_S} {st : List Value} {ls : mb_L} : mb_Rn d 90 107 ls st σ Q = mb_Rn d 90 109 ls (.int 110 :: st) σ Q := rn_step rfl (fun _ _ => rfl)
set_option maxRecDepth 20000 in
theorem sL_law_109 {d : Nat} {Q : mb_O → mb_S → Prop} {σ : mb_S} {st : List Value} {ls : mb_L} {x z : Int32} : mb_Rn d 90 109 ls (.int z :: .int x :: st) σ Q = if z ≤ x then mb_Rn d 90 119 ls st σ Q else mb_Rn d 90 112 ls st σ Q := rn_ifb rfl (fun _ _ => rfl) decide_eq_true_iff
set_option maxRecDepth 20000 in
theorem sL_law_112 {d : Nat} {Q : mb_O → mb_S → Prop} {σ : mb_S} {st : List Value} {ls : mb_L} : mb_Rn d 90 112 ls st σ Q = mb_Rn d 90 113 ls (.int 2 :: st) σ Q := rn_step rfl (fun _ _ => rfl)
set_option maxRecDepth 20000 in
theorem sL_law_113 {d : Nat} {Q : mb_O → mb_S → Prop} {σ : mb_S} {st : List Value} {l1 l2 l3 l4 l5 l6 l7 l8 l9 l10 l11 l12 l13 l14 l15 l16 l17 l18 l19 : Option Value} {a : Nat} : mb_Rn d 90 113 [some (.ref a), l1, l2, l3, l4, l5, l6, l7, l8, l9, l10, l11, l12, l13, l14, l15, l16, l17, l18, l19] st σ Q = mb_Rn d 90 114 [some (.ref a), l1, l2, l3, l4, l5, l6, l7, l8, l9, l10, l11, l12, l13, l14, l15, l16, l17, l18, l19] (.ref a :: st) σ Q := rn_step rfl (fun _ _ => rfl)
set_option maxRecDepth 20000 in
theorem sL_law_113n {d : Nat} {Q : mb_O → mb_S → Prop} {σ : mb_S} {st : List Value} {l1 l2 l3 l4 l5 l6 l7 l8 l9 l10 l11 l12 l13 l14 l15 l16 l17 l18 l19 : Option Value} : mb_Rn d 90 113 [some (.null), l1, l2, l3, l4, l5, l6, l7, l8, l9, l10, l11, l12, l13, l14, l15, l16, l17, l18, l19] st σ Q = mb_Rn d 90 114 [some (.null), l1, l2, l3, l4, l5, l6, l7, l8, l9, l10, l11, l12, l13, l14, l15, l16, l17, l18, l19] (.null :: st) σ Q := rn_step rfl (fun _ _ => rfl)
set_option maxRecDepth 20000 in
theorem sL_law_114 {d : Nat} {Q : mb_O → mb_S → Prop} {σ : mb_S} {st : List Value} {ls : mb_L} {a n : Nat} {f : Nat → Int32} (ha : σ.1 a = some (.inl (9, n, .inl f))) : mb_Rn d 90 114 ls (.ref a :: st) σ Q = mb_Rn d 90 115 ls (.int (Int32.ofNat n) :: st) σ Q := rn_step rfl (fun _ _ => by unfold mi_alen; dsimp only; rw [ha]; rfl)
set_option maxRecDepth 20000 in
theorem sL_law_115 {d : Nat} {Q : mb_O → mb_S → Prop} {σ : mb_S} {st : List Value} {ls : mb_L} {x z : Int32} : mb_Rn d 90 115 ls (.int z :: .int x :: st) σ Q = mb_Rn d 90 116 ls (.int (x * z) :: st) σ Q := rn_step rfl (fun _ _ => rfl)
set_option maxRecDepth 20000 in
theorem sL_law_116 {d : Nat} {Q : mb_O → mb_S → Prop} {σ : mb_S} {st : List Value} {ls : mb_L} : mb_Rn d 90 116 ls st σ Q = mb_Rn d 90 122 ls st σ Q := rn_step rfl (fun _ _ => rfl)
set_option maxRecDepth 20000 in
theorem sL_law_119 {d : Nat} {Q : mb_O → mb_S → Prop} {σ : mb_S} {st : List Value} {ls : mb_L} : mb_Rn d 90 119 ls st σ Q = mb_Rn d 90 122 ls (.int 200 :: st) σ Q := rn_step rfl (fun _ _ => rfl)
set_option maxRecDepth 20000 in
theorem sL_law_122 {d : Nat} {Q : mb_O → mb_S → Prop} {σ : mb_S} {st : List Value} {l0 l1 l2 l3 l4 l5 l6 l7 l8 l9 l10 l11 l12 l13 l14 l15 l16 l17 l18 l19 : Option Value} {x : Int32} : mb_Rn d 90 122 [l0, l1, l2, l3, l4, l5, l6, l7, l8, l9, l10, l11, l12, l13, l14, l15, l16, l17, l18, l19] (.int x :: st) σ Q = mb_Rn d 90 124 [l0, l1, l2, l3, l4, l5, l6, l7, l8, l9, some (.int x), l11, l12, l13, l14, l15, l16, l17, l18, l19] st σ Q := rn_step rfl (fun _ _ => rfl)
set_option maxRecDepth 20000 in
theorem sL_law_124 {d : Nat} {Q : mb_O → mb_S → Prop} {σ : mb_S} {st : List Value} {ls : mb_L} : mb_Rn d 90 124 ls st σ Q = mb_Rn d 90 125 ls (.int 0 :: st) σ Q := rn_step rfl (fun _ _ => rfl)
set_option maxRecDepth 20000 in
theorem sL_law_125 {d : Nat} {Q : mb_O → mb_S → Prop} {σ : mb_S} {st : List Value} {l0 l1 l2 l3 l4 l5 l6 l7 l8 l9 l10 l11 l12 l13 l14 l15 l16 l17 l18 l19 : Option Value} {x : Int32} : mb_Rn d 90 125 [l0, l1, l2, l3, l4, l5, l6, l7, l8, l9, l10, l11, l12, l13, l14, l15, l16, l17, l18, l19] (.int x :: st) σ Q = mb_Rn d 90 127 [l0, l1, l2, l3, l4, l5, l6, l7, l8, l9, l10, some (.int x), l12, l13, l14, l15, l16, l17, l18, l19] st σ Q := rn_step rfl (fun _ _ => rfl)
set_option maxRecDepth 20000 in
theorem sL_law_127 {d : Nat} {Q : mb_O → mb_S → Prop} {σ : mb_S} {st : List Value} {l0 l1 l2 l3 l4 l5 l6 l7 l8 l9 l10 l12 l13 l14 l15 l16 l17 l18 l19 : Option Value} {x : Int32} : mb_Rn d 90 127 [l0, l1, l2, l3, l4, l5, l6, l7, l8, l9, l10, some (.int x), l12, l13, l14, l15, l16, l17, l18, l19] st σ Q = mb_Rn d 90 129 [l0, l1, l2, l3, l4, l5, l6, l7, l8, l9, l10, some (.int x), l12, l13, l14, l15, l16, l17, l18, l19] (.int x :: st) σ Q := rn_step rfl (fun _ _ => rfl)
set_option maxRecDepth 20000 in
theorem sL_law_129 {d : Nat} {Q : mb_O → mb_S → Prop} {σ : mb_S} {st : List Value} {l0 l1 l2 l3 l4 l5 l6 l7 l8 l9 l11 l12 l13 l14 l15 l16 l17 l18 l19 : Option Value} {x : Int32} : mb_Rn d 90 129 [l0, l1, l2, l3, l4, l5, l6, l7, l8, l9, some (.int x), l11, l12, l13, l14, l15, l16, l17, l18, l19] st σ Q = mb_Rn d 90 131 [l0, l1, l2, l3, l4, l5, l6, l7, l8, l9, some (.int x), l11, l12, l13, l14, l15, l16, l17, l18, l19] (.int x :: st) σ Q := rn_step rfl (fun _ _ => rfl)
set_option maxRecDepth 20000 in
theorem sL_law_131 {d : Nat} {Q : mb_O → mb_S → Prop} {σ : mb_S} {st : List Value} {ls : mb_L} {x z : Int32} : mb_Rn d 90 131 ls (.int z :: .int x :: st) σ Q = if z ≤ x then mb_Rn d 90 1274 ls st σ Q else mb_Rn d 90 134 ls st σ Q := rn_ifb rfl (fun _ _ => rfl) decide_eq_true_iff
set_option maxRecDepth 20000 in
theorem sL_law_134 {d : Nat} {Q : mb_O → mb_S → Prop} {σ : mb_S} {st : List Value} {l0 l1 l2 l3 l4 l5 l6 l7 l8 l10 l11 l12 l13 l14 l15 l16 l17 l18 l19 : Option Value} {x : Int32} : mb_Rn d 90 134 [l0, l1, l2, l3, l4, l5, l6, l7, l8, some (.int x), l10, l11, l12, l13, l14, l15, l16, l17, l18, l19] st σ Q = mb_Rn d 90 136 [l0, l1, l2, l3, l4, l5, l6, l7, l8, some (.int x), l10, l11, l12, l13, l14, l15, l16, l17, l18, l19] (.int x :: st) σ Q := rn_step rfl (fun _ _ => rfl)
set_option maxRecDepth 20000 in
theorem sL_law_136 {d : Nat} {Q : mb_O → mb_S → Prop} {σ : mb_S} {st : List Value} {ls : mb_L} {x : Int32} : mb_Rn d 90 136 ls (.int x :: st) σ Q = if x = 0 then mb_Rn d 90 1274 ls st σ Q else mb_Rn d 90 139 ls st σ Q := rn_ifb rfl (fun _ _ => rfl) beq_iff_eq
set_option maxRecDepth 20000 in
theorem sL_law_139 {d : Nat} {Q : mb_O → mb_S → Prop} {σ : mb_S} {st : List Value} {l1 l2 l3 l4 l5 l6 l7 l8 l9 l10 l11 l12 l13 l14 l15 l16 l17 l18 l19 : Option Value} {a : Nat} : mb_Rn d 90 139 [some (.ref a), l1, l2, l3, l4, l5, l6, l7, l8, l9, l10, l11, l12, l13, l14, l15, l16, l17, l18, l19] st σ Q = mb_Rn d 90 140 [some (.ref a), l1, l2, l3, l4, l5, l6, l7, l8, l9, l10, l11, l12, l13, l14, l15, l16, l17, l18, l19] (.ref a :: st) σ Q := rn_step rfl (fun _ _ => rfl)
set_option maxRecDepth 20000 in
theorem sL_law_139n {d : Nat} {Q : mb_O → mb_S → Prop} {σ : mb_S} {st : List Value} {l1 l2 l3 l4 l5 l6 l7 l8 l9 l10 l11 l12 l13 l14 l15 l16 l17 l18 l19 : Option Value} : mb_Rn d 90 139 [some (.null), l1, l2, l3, l4, l5, l6, l7, l8, l9, l10, l11, l12, l13, l14, l15, l16, l17, l18, l19] st σ Q = mb_Rn d 90 140 [some (.null), l1, l2, l3, l4, l5, l6, l7, l8, l9, l10, l11, l12, l13, l14, l15, l16, l17, l18, l19] (.null :: st) σ Q := rn_step rfl (fun _ _ => rfl)
set_option maxRecDepth 20000 in
theorem sL_law_140 {d : Nat} {Q : mb_O → mb_S → Prop} {σ : mb_S} {st : List Value} {l0 l1 l2 l3 l4 l5 l6 l7 l8 l9 l10 l12 l13 l14 l15 l16 l17 l18 l19 : Option Value} {x : Int32} : mb_Rn d 90 140 [l0, l1, l2, l3, l4, l5, l6, l7, l8, l9, l10, some (.int x), l12, l13, l14, l15, l16, l17, l18, l19] st σ Q = mb_Rn d 90 142 [l0, l1, l2, l3, l4, l5, l6, l7, l8, l9, l10, some (.int x), l12, l13, l14, l15, l16, l17, l18, l19] (.int x :: st) σ Q := rn_step rfl (fun _ _ => rfl)
set_option maxRecDepth 20000 in
theorem sL_law_142 {d : Nat} {Q : mb_O → mb_S → Prop} {σ : mb_S} {st : List Value} {ls : mb_L} {p0 : Nat} {p1 : Int32} (hd : 1 ≤ d) (h4 : st.length ≤ 4) : mb_Rn d 90 142 ls (.int p1 :: .ref p0 :: st) σ Q = mb_Ex (d - 1) 87 [.ref p0, .int p1] σ (mb_qk d 90 145 ls st Q) := rn_calls mb_good rfl hd rfl rfl ⟨rfl, rfl⟩ h4 ⟨Nat.le_of_ble_eq_true rfl, rfl⟩
set_option maxRecDepth 20000 in
theorem sL_law_145 {d : Nat} {Q : mb_O → mb_S → Prop} {σ : mb_S} {st : List Value} {ls : mb_L} : mb_Rn d 90 145 ls st σ Q = mb_Rn d 90 146 ls (.int 5 :: st) σ Q := rn_step rfl (fun _ _ => rfl)
set_option maxRecDepth 20000 in
theorem sL_law_146 {d : Nat} {Q : mb_O → mb_S → Prop} {σ : mb_S} {st : List Value} {ls : mb_L} {x z : Int32} : mb_Rn d 90 146 ls (.int z :: .int x :: st) σ Q = mb_Rn d 90 147 ls (.int (x >>> (z &&& 31)) :: st) σ Q := rn_step rfl (fun _ _ => rfl)
set_option maxRecDepth 20000 in
theorem sL_law_147 {d : Nat} {Q : mb_O → mb_S → Prop} {σ : mb_S} {st : List Value} {ls : mb_L} : mb_Rn d 90 147 ls st σ Q = mb_Rn d 90 149 ls (.int 134217727 :: st) σ Q := rn_step rfl (fun _ _ => rfl)
set_option maxRecDepth 20000 in
theorem sL_law_149 {d : Nat} {Q : mb_O → mb_S → Prop} {σ : mb_S} {st : List Value} {ls : mb_L} {x z : Int32} : mb_Rn d 90 149 ls (.int z :: .int x :: st) σ Q = mb_Rn d 90 150 ls (.int (x &&& z) :: st) σ Q := rn_step rfl (fun _ _ => rfl)
set_option maxRecDepth 20000 in
theorem sL_law_150 {d : Nat} {Q : mb_O → mb_S → Prop} {σ : mb_S} {st : List Value} {l0 l1 l2 l3 l4 l5 l6 l7 l8 l9 l10 l11 l12 l13 l14 l15 l16 l17 l18 l19 : Option Value} {x : Int32} : mb_Rn d 90 150 [l0, l1, l2, l3, l4, l5, l6, l7, l8, l9, l10, l11, l12, l13, l14, l15, l16, l17, l18, l19] (.int x :: st) σ Q = mb_Rn d 90 152 [l0, l1, l2, l3, l4, l5, l6, l7, l8, l9, l10, l11, some (.int x), l13, l14, l15, l16, l17, l18, l19] st σ Q := rn_step rfl (fun _ _ => rfl)
set_option maxRecDepth 20000 in
theorem sL_law_152 {d : Nat} {Q : mb_O → mb_S → Prop} {σ : mb_S} {st : List Value} {l0 l1 l2 l3 l4 l5 l6 l7 l8 l9 l10 l12 l13 l14 l15 l16 l17 l18 l19 : Option Value} {x : Int32} : mb_Rn d 90 152 [l0, l1, l2, l3, l4, l5, l6, l7, l8, l9, l10, some (.int x), l12, l13, l14, l15, l16, l17, l18, l19] st σ Q = mb_Rn d 90 154 [l0, l1, l2, l3, l4, l5, l6, l7, l8, l9, l10, some (.int x), l12, l13, l14, l15, l16, l17, l18, l19] (.int x :: st) σ Q := rn_step rfl (fun _ _ => rfl)
set_option maxRecDepth 20000 in
theorem sL_law_154 {d : Nat} {Q : mb_O → mb_S → Prop} {σ : mb_S} {st : List Value} {ls : mb_L} : mb_Rn d 90 154 ls st σ Q = mb_Rn d 90 155 ls (.int 2 :: st) σ Q := rn_step rfl (fun _ _ => rfl)
set_option maxRecDepth 20000 in
theorem sL_law_155 {d : Nat} {Q : mb_O → mb_S → Prop} {σ : mb_S} {st : List Value} {ls : mb_L} {x z : Int32} : mb_Rn d 90 155 ls (.int z :: .int x :: st) σ Q = if z ≤ x then mb_Rn d 90 162 ls st σ Q else mb_Rn d 90 158 ls st σ Q := rn_ifb rfl (fun _ _ => rfl) decide_eq_true_iff
set_option maxRecDepth 20000 in
theorem sL_law_158 {d : Nat} {Q : mb_O → mb_S → Prop} {σ : mb_S} {st : List Value} {ls : mb_L} : mb_Rn d 90 158 ls st σ Q = mb_Rn d 90 159 ls (.int 0 :: st) σ Q := rn_step rfl (fun _ _ => rfl)
set_option maxRecDepth 20000 in
theorem sL_law_159 {d : Nat} {Q : mb_O → mb_S → Prop} {σ : mb_S} {st : List Value} {ls : mb_L} : mb_Rn d 90 159 ls st σ Q = mb_Rn d 90 171 ls st σ Q := rn_step rfl (fun _ _ => rfl)
set_option maxRecDepth 20000 in
theorem sL_law_162 {d : Nat} {Q : mb_O → mb_S → Prop} {σ : mb_S} {st : List Value} {l1 l2 l3 l4 l5 l6 l7 l8 l9 l10 l11 l12 l13 l14 l15 l16 l17 l18 l19 : Option Value} {a : Nat} : mb_Rn d 90 162 [some (.ref a), l1, l2, l3, l4, l5, l6, l7, l8, l9, l10, l11, l12, l13, l14, l15, l16, l17, l18, l19] st σ Q = mb_Rn d 90 163 [some (.ref a), l1, l2, l3, l4, l5, l6, l7, l8, l9, l10, l11, l12, l13, l14, l15, l16, l17, l18, l19] (.ref a :: st) σ Q := rn_step rfl (fun _ _ => rfl)
set_option maxRecDepth 20000 in
theorem sL_law_162n {d : Nat} {Q : mb_O → mb_S → Prop} {σ : mb_S} {st : List Value} {l1 l2 l3 l4 l5 l6 l7 l8 l9 l10 l11 l12 l13 l14 l15 l16 l17 l18 l19 : Option Value} : mb_Rn d 90 162 [some (.null), l1, l2, l3, l4, l5, l6, l7, l8, l9, l10, l11, l12, l13, l14, l15, l16, l17, l18, l19] st σ Q = mb_Rn d 90 163 [some (.null), l1, l2, l3, l4, l5, l6, l7, l8, l9, l10, l11, l12, l13, l14, l15, l16, l17, l18, l19] (.null :: st) σ Q := rn_step rfl (fun _ _ => rfl)
set_option maxRecDepth 20000 in
theorem sL_law_163 {d : Nat} {Q : mb_O → mb_S → Prop} {σ : mb_S} {st : List Value} {l0 l1 l2 l3 l4 l5 l6 l7 l8 l9 l10 l12 l13 l14 l15 l16 l17 l18 l19 : Option Value} {x : Int32} : mb_Rn d 90 163 [l0, l1, l2, l3, l4, l5, l6, l7, l8, l9, l10, some (.int x), l12, l13, l14, l15, l16, l17, l18, l19] st σ Q = mb_Rn d 90 165 [l0, l1, l2, l3, l4, l5, l6, l7, l8, l9, l10, some (.int x), l12, l13, l14, l15, l16, l17, l18, l19] (.int x :: st) σ Q := rn_step rfl (fun _ _ => rfl)
set_option maxRecDepth 20000 in
theorem sL_law_165 {d : Nat} {Q : mb_O → mb_S → Prop} {σ : mb_S} {st : List Value} {ls : mb_L} {p0 : Nat} {p1 : Int32} (hd : 1 ≤ d) (h4 : st.length ≤ 4) : mb_Rn d 90 165 ls (.int p1 :: .ref p0 :: st) σ Q = mb_Ex (d - 1) 87 [.ref p0, .int p1] σ (mb_qk d 90 168 ls st Q) := rn_calls mb_good rfl hd rfl rfl ⟨rfl, rfl⟩ h4 ⟨Nat.le_of_ble_eq_true rfl, rfl⟩
set_option maxRecDepth 20000 in
theorem sL_law_168 {d : Nat} {Q : mb_O → mb_S → Prop} {σ : mb_S} {st : List Value} {ls : mb_L} : mb_Rn d 90 168 ls st σ Q = mb_Rn d 90 170 ls (.int 31 :: st) σ Q := rn_step rfl (fun _ _ => rfl)
set_option maxRecDepth 20000 in
theorem sL_law_170 {d : Nat} {Q : mb_O → mb_S → Prop} {σ : mb_S} {st : List Value} {ls : mb_L} {x z : Int32} : mb_Rn d 90 170 ls (.int z :: .int x :: st) σ Q = mb_Rn d 90 171 ls (.int (x &&& z) :: st) σ Q := rn_step rfl (fun _ _ => rfl)
set_option maxRecDepth 20000 in
theorem sL_law_171 {d : Nat} {Q : mb_O → mb_S → Prop} {σ : mb_S} {st : List Value} {l0 l1 l2 l3 l4 l5 l6 l7 l8 l9 l10 l11 l12 l13 l14 l15 l16 l17 l18 l19 : Option Value} {x : Int32} : mb_Rn d 90 171 [l0, l1, l2, l3, l4, l5, l6, l7, l8, l9, l10, l11, l12, l13, l14, l15, l16, l17, l18, l19] (.int x :: st) σ Q = mb_Rn d 90 173 [l0, l1, l2, l3, l4, l5, l6, l7, l8, l9, l10, l11, l12, some (.int x), l14, l15, l16, l17, l18, l19] st σ Q := rn_step rfl (fun _ _ => rfl)
set_option maxRecDepth 20000 in
theorem sL_law_173 {d : Nat} {Q : mb_O → mb_S → Prop} {σ : mb_S} {st : List Value} {l0 l1 l2 l3 l4 l5 l6 l7 l8 l9 l10 l12 l13 l14 l15 l16 l17 l18 l19 : Option Value} {x : Int32} : mb_Rn d 90 173 [l0, l1, l2, l3, l4, l5, l6, l7, l8, l9, l10, some (.int x), l12, l13, l14, l15, l16, l17, l18, l19] st σ Q = mb_Rn d 90 175 [l0, l1, l2, l3, l4, l5, l6, l7, l8, l9, l10, some (.int x), l12, l13, l14, l15, l16, l17, l18, l19] (.int x :: st) σ Q := rn_step rfl (fun _ _ => rfl)
set_option maxRecDepth 20000 in
theorem sL_law_175 {d : Nat} {Q : mb_O → mb_S → Prop} {σ : mb_S} {st : List Value} {ls : mb_L} : mb_Rn d 90 175 ls st σ Q = mb_Rn d 90 176 ls (.int 2 :: st) σ Q := rn_step rfl (fun _ _ => rfl)
set_option maxRecDepth 20000 in
theorem sL_law_176 {d : Nat} {Q : mb_O → mb_S → Prop} {σ : mb_S} {st : List Value} {ls : mb_L} {x z : Int32} : mb_Rn d 90 176 ls (.int z :: .int x :: st) σ Q = if z ≤ x then mb_Rn d 90 184 ls st σ Q else mb_Rn d 90 179 ls st σ Q := rn_ifb rfl (fun _ _ => rfl) decide_eq_true_iff
set_option maxRecDepth 20000 in
theorem sL_law_179 {d : Nat} {Q : mb_O → mb_S → Prop} {σ : mb_S} {st : List Value} {l0 l1 l2 l3 l4 l5 l6 l7 l8 l9 l10 l12 l13 l14 l15 l16 l17 l18 l19 : Option Value} {x : Int32} : mb_Rn d 90 179 [l0, l1, l2, l3, l4, l5, l6, l7, l8, l9, l10, some (.int x), l12, l13, l14, l15, l16, l17, l18, l19] st σ Q = mb_Rn d 90 181 [l0, l1, l2, l3, l4, l5, l6, l7, l8, l9, l10, some (.int x), l12, l13, l14, l15, l16, l17, l18, l19] (.int x :: st) σ Q := rn_step rfl (fun _ _ => rfl)
set_option maxRecDepth 20000 in
theorem sL_law_181 {d : Nat} {Q : mb_O → mb_S → Prop} {σ : mb_S} {st : List Value} {ls : mb_L} : mb_Rn d 90 181 ls st σ Q = mb_Rn d 90 188 ls st σ Q := rn_step rfl (fun _ _ => rfl)
set_option maxRecDepth 20000 in
theorem sL_law_184 {d : Nat} {Q : mb_O → mb_S → Prop} {σ : mb_S} {st : List Value} {l0 l1 l2 l3 l4 l5 l6 l7 l8 l9 l10 l11 l13 l14 l15 l16 l17 l18 l19 : Option Value} {x : Int32} : mb_Rn d 90 184 [l0, l1, l2, l3, l4, l5, l6, l7, l8, l9, l10, l11, some (.int x), l13, l14, l15, l16, l17, l18, l19] st σ Q = mb_Rn d 90 186 [l0, l1, l2, l3, l4, l5, l6, l7, l8, l9, l10, l11, some (.int x), l13, l14, l15, l16, l17, l18, l19] (.int x :: st) σ Q := rn_step rfl (fun _ _ => rfl)
set_option maxRecDepth 20000 in
theorem sL_law_186 {d : Nat} {Q : mb_O → mb_S → Prop} {σ : mb_S} {st : List Value} {ls : mb_L} : mb_Rn d 90 186 ls st σ Q = mb_Rn d 90 187 ls (.int 1 :: st) σ Q := rn_step rfl (fun _ _ => rfl)
set_option maxRecDepth 20000 in
theorem sL_law_187 {d : Nat} {Q : mb_O → mb_S → Prop} {σ : mb_S} {st : List Value} {ls : mb_L} {x z : Int32} : mb_Rn d 90 187 ls (.int z :: .int x :: st) σ Q = mb_Rn d 90 188 ls (.int (x &&& z) :: st) σ Q := rn_step rfl (fun _ _ => rfl)
set_option maxRecDepth 20000 in
theorem sL_law_188 {d : Nat} {Q : mb_O → mb_S → Prop} {σ : mb_S} {st : List Value} {l0 l1 l2 l3 l4 l5 l6 l7 l8 l9 l10 l11 l12 l13 l14 l15 l16 l17 l18 l19 : Option Value} {x : Int32} : mb_Rn d 90 188 [l0, l1, l2, l3, l4, l5, l6, l7, l8, l9, l10, l11, l12, l13, l14, l15, l16, l17, l18, l19] (.int x :: st) σ Q = mb_Rn d 90 190 [l0, l1, l2, l3, l4, l5, l6, l7, l8, l9, l10, l11, l12, l13, some (.int x), l15, l16, l17, l18, l19] st σ Q := rn_step rfl (fun _ _ => rfl)
set_option maxRecDepth 20000 in
theorem sL_law_190 {d : Nat} {Q : mb_O → mb_S → Prop} {σ : mb_S} {st : List Value} {l0 l1 l2 l3 l4 l5 l6 l7 l8 l9 l10 l11 l13 l14 l15 l16 l17 l18 l19 : Option Value} {x : Int32} : mb_Rn d 90 190 [l0, l1, l2, l3, l4, l5, l6, l7, l8, l9, l10, l11, some (.int x), l13, l14, l15, l16, l17, l18, l19] st σ Q = mb_Rn d 90 192 [l0, l1, l2, l3, l4, l5, l6, l7, l8, l9, l10, l11, some (.int x), l13, l14, l15, l16, l17, l18, l19] (.int x :: st) σ Q := rn_step rfl (fun _ _ => rfl)
set_option maxRecDepth 20000 in
theorem sL_law_192 {d : Nat} {Q : mb_O → mb_S → Prop} {σ : mb_S} {st : List Value} {ls : mb_L} : mb_Rn d 90 192 ls st σ Q = mb_Rn d 90 193 ls (.int 1 :: st) σ Q := rn_step rfl (fun _ _ => rfl)
set_option maxRecDepth 20000 in
theorem sL_law_193 {d : Nat} {Q : mb_O → mb_S → Prop} {σ : mb_S} {st : List Value} {ls : mb_L} {x z : Int32} : mb_Rn d 90 193 ls (.int z :: .int x :: st) σ Q = mb_Rn d 90 194 ls (.int (x >>> (z &&& 31)) :: st) σ Q := rn_step rfl (fun _ _ => rfl)
set_option maxRecDepth 20000 in
theorem sL_law_194 {d : Nat} {Q : mb_O → mb_S → Prop} {σ : mb_S} {st : List Value} {ls : mb_L} : mb_Rn d 90 194 ls st σ Q = mb_Rn d 90 195 ls (.int 1 :: st) σ Q := rn_step rfl (fun _ _ => rfl)
set_option maxRecDepth 20000 in
theorem sL_law_195 {d : Nat} {Q : mb_O → mb_S → Prop} {σ : mb_S} {st : List Value} {ls : mb_L} {x z : Int32} : mb_Rn d 90 195 ls (.int z :: .int x :: st) σ Q = mb_Rn d 90 196 ls (.int (x &&& z) :: st) σ Q := rn_step rfl (fun _ _ => rfl)
set_option maxRecDepth 20000 in
theorem sL_law_196 {d : Nat} {Q : mb_O → mb_S → Prop} {σ : mb_S} {st : List Value} {l0 l1 l2 l3 l4 l5 l6 l7 l8 l9 l10 l11 l12 l13 l14 l15 l16 l17 l18 l19 : Option Value} {x : Int32} : mb_Rn d 90 196 [l0, l1, l2, l3, l4, l5, l6, l7, l8, l9, l10, l11, l12, l13, l14, l15, l16, l17, l18, l19] (.int x :: st) σ Q = mb_Rn d 90 198 [l0, l1, l2, l3, l4, l5, l6, l7, l8, l9, l10, l11, l12, l13, l14, some (.int x), l16, l17, l18, l19] st σ Q := rn_step rfl (fun _ _ => rfl)
set_option maxRecDepth 20000 in
theorem sL_law_198 {d : Nat} {Q : mb_O → mb_S → Prop} {σ : mb_S} {st : List Value} {l0 l1 l2 l3 l4 l5 l6 l7 l8 l9 l10 l11 l12 l14 l15 l16 l17 l18 l19 : Option Value} {x : Int32} : mb_Rn d 90 198 [l0, l1, l2, l3, l4, l5, l6, l7, l8, l9, l10, l11, l12, some (.int x), l14, l15, l16, l17, l18, l19] st σ Q = mb_Rn d 90 200 [l0, l1, l2, l3, l4, l5, l6, l7, l8, l9, l10, l11, l12, some (.int x), l14, l15, l16, l17, l18, l19] (.int x :: st) σ Q := rn_step rfl (fun _ _ => rfl)
set_option maxRecDepth 20000 in
theorem sL_law_200 {d : Nat} {Q : mb_O → mb_S → Prop} {σ : mb_S} {st : List Value} {ls : mb_L} : mb_Rn d 90 200 ls st σ Q = mb_Rn d 90 201 ls (.int 3 :: st) σ Q := rn_step rfl (fun _ _ => rfl)
set_option maxRecDepth 20000 in
theorem sL_law_201 {d : Nat} {Q : mb_O → mb_S → Prop} {σ : mb_S} {st : List Value} {ls : mb_L} {x z : Int32} : mb_Rn d 90 201 ls (.int z :: .int x :: st) σ Q = if z ≤ x then mb_Rn d 90 264 ls st σ Q else mb_Rn d 90 204 ls st σ Q := rn_ifb rfl (fun _ _ => rfl) decide_eq_true_iff
set_option maxRecDepth 20000 in
theorem sL_law_204 {d : Nat} {Q : mb_O → mb_S → Prop} {σ : mb_S} {st : List Value} {l0 l1 l2 l3 l4 l5 l7 l8 l9 l10 l11 l12 l13 l14 l15 l16 l17 l18 l19 : Option Value} {a : Nat} : mb_Rn d 90 204 [l0, l1, l2, l3, l4, l5, some (.ref a), l7, l8, l9, l10, l11, l12, l13, l14, l15, l16, l17, l18, l19] st σ Q = mb_Rn d 90 206 [l0, l1, l2, l3, l4, l5, some (.ref a), l7, l8, l9, l10, l11, l12, l13, l14, l15, l16, l17, l18, l19] (.ref a :: st) σ Q := rn_step rfl (fun _ _ => rfl)
set_option maxRecDepth 20000 in
theorem sL_law_204n {d : Nat} {Q : mb_O → mb_S → Prop} {σ : mb_S} {st : List Value} {l0 l1 l2 l3 l4 l5 l7 l8 l9 l10 l11 l12 l13 l14 l15 l16 l17 l18 l19 : Option Value} : mb_Rn d 90 204 [l0, l1, l2, l3, l4, l5, some (.null), l7, l8, l9, l10, l11, l12, l13, l14, l15, l16, l17, l18, l19] st σ Q = mb_Rn d 90 206 [l0, l1, l2, l3, l4, l5, some (.null), l7, l8, l9, l10, l11, l12, l13, l14, l15, l16, l17, l18, l19] (.null :: st) σ Q := rn_step rfl (fun _ _ => rfl)
set_option maxRecDepth 20000 in
theorem sL_law_206 {d : Nat} {Q : mb_O → mb_S → Prop} {σ : mb_S} {st : List Value} {l0 l1 l2 l3 l4 l5 l6 l7 l8 l9 l10 l11 l12 l13 l15 l16 l17 l18 l19 : Option Value} {x : Int32} : mb_Rn d 90 206 [l0, l1, l2, l3, l4, l5, l6, l7, l8, l9, l10, l11, l12, l13, some (.int x), l15, l16, l17, l18, l19] st σ Q = mb_Rn d 90 208 [l0, l1, l2, l3, l4, l5, l6, l7, l8, l9, l10, l11, l12, l13, some (.int x), l15, l16, l17, l18, l19] (.int x :: st) σ Q := rn_step rfl (fun _ _ => rfl)
set_option maxRecDepth 20000 in
theorem sL_law_208 {d : Nat} {Q : mb_O → mb_S → Prop} {σ : mb_S} {st : List Value} {ls : mb_L} {a : Nat} {j : Int32} : mb_Rn d 90 208 ls (.int j :: .ref a :: st) σ Q = mb_gi σ a j False (fun kd _ f => if kd = 0 ∨ kd = 9 then mb_Rn d 90 209 ls (.int (f j.toNatClampNeg) :: st) σ Q else False) := rn_iald rfl
set_option maxRecDepth 20000 in
theorem sL_law_209 {d : Nat} {Q : mb_O → mb_S → Prop} {σ : mb_S} {st : List Value} {ls : mb_L} : mb_Rn d 90 209 ls st σ Q = mb_Rn d 90 210 ls (.int 3 :: st) σ Q := rn_step rfl (fun _ _ => rfl)
set_option maxRecDepth 20000 in
theorem sL_law_210 {d : Nat} {Q : mb_O → mb_S → Prop} {σ : mb_S} {st : List Value} {ls : mb_L} {x z : Int32} : mb_Rn d 90 210 ls (.int z :: .int x :: st) σ Q = if z ≤ x then mb_Rn d 90 264 ls st σ Q else mb_Rn d 90 213 ls st σ Q := rn_ifb rfl (fun _ _ => rfl) decide_eq_true_iff
set_option maxRecDepth 20000 in
theorem sL_law_213 {d : Nat} {Q : mb_O → mb_S → Prop} {σ : mb_S} {st : List Value} {l0 l2 l3 l4 l5 l6 l7 l8 l9 l10 l11 l12 l13 l14 l15 l16 l17 l18 l19 : Option Value} {a : Nat} : mb_Rn d 90 213 [l0, some (.ref a), l2, l3, l4, l5, l6, l7, l8, l9, l10, l11, l12, l13, l14, l15, l16, l17, l18, l19] st σ Q = mb_Rn d 90 214 [l0, some (.ref a), l2, l3, l4, l5, l6, l7, l8, l9, l10, l11, l12, l13, l14, l15, l16, l17, l18, l19] (.ref a :: st) σ Q := rn_step rfl (fun _ _ => rfl)
set_option maxRecDepth 20000 in
theorem sL_law_213n {d : Nat} {Q : mb_O → mb_S → Prop} {σ : mb_S} {st : List Value} {l0 l2 l3 l4 l5 l6 l7 l8 l9 l10 l11 l12 l13 l14 l15 l16 l17 l18 l19 : Option Value} : mb_Rn d 90 213 [l0, some (.null), l2, l3, l4, l5, l6, l7, l8, l9, l10, l11, l12, l13, l14, l15, l16, l17, l18, l19] st σ Q = mb_Rn d 90 214 [l0, some (.null), l2, l3, l4, l5, l6, l7, l8, l9, l10, l11, l12, l13, l14, l15, l16, l17, l18, l19] (.null :: st) σ Q := rn_step rfl (fun _ _ => rfl)
set_option maxRecDepth 20000 in
theorem sL_law_214 {d : Nat} {Q : mb_O → mb_S → Prop} {σ : mb_S} {st : List Value} {ls : mb_L} : mb_Rn d 90 214 ls st σ Q = mb_Rn d 90 215 ls (.int 0 :: st) σ Q := rn_step rfl (fun _ _ => rfl)
set_option maxRecDepth 20000 in
theorem sL_law_215 {d : Nat} {Q : mb_O → mb_S → Prop} {σ : mb_S} {st : List Value} {l0 l1 l2 l3 l4 l5 l6 l7 l8 l9 l10 l11 l12 l13 l15 l16 l17 l18 l19 : Option Value} {x : Int32} : mb_Rn d 90 215 [l0, l1, l2, l3, l4, l5, l6, l7, l8, l9, l10, l11, l12, l13, some (.int x), l15, l16, l17, l18, l19] st σ Q = mb_Rn d 90 217 [l0, l1, l2, l3, l4, l5, l6, l7, l8, l9, l10, l11, l12, l13, some (.int x), l15, l16, l17, l18, l19] (.int x :: st) σ Q := rn_step rfl (fun _ _ => rfl)
set_option maxRecDepth 20000 in
theorem sL_law_217 {d : Nat} {Q : mb_O → mb_S → Prop} {σ : mb_S} {st : List Value} {l0 l1 l2 l3 l4 l5 l6 l7 l8 l9 l10 l11 l13 l14 l15 l16 l17 l18 l19 : Option Value} {x : Int32} : mb_Rn d 90 217 [l0, l1, l2, l3, l4, l5, l6, l7, l8, l9, l10, l11, some (.int x), l13, l14, l15, l16, l17, l18, l19] st σ Q = mb_Rn d 90 219 [l0, l1, l2, l3, l4, l5, l6, l7, l8, l9, l10, l11, some (.int x), l13, l14, l15, l16, l17, l18, l19] (.int x :: st) σ Q := rn_step rfl (fun _ _ => rfl)
set_option maxRecDepth 20000 in
theorem sL_law_219 {d : Nat} {Q : mb_O → mb_S → Prop} {σ : mb_S} {st : List Value} {ls : mb_L} : mb_Rn d 90 219 ls st σ Q = mb_Rn d 90 220 ls (.int 2 :: st) σ Q := rn_step rfl (fun _ _ => rfl)
set_option maxRecDepth 20000 in
theorem sL_law_220 {d : Nat} {Q : mb_O → mb_S → Prop} {σ : mb_S} {st : List Value} {ls : mb_L} {x z : Int32} : mb_Rn d 90 220 ls (.int z :: .int x :: st) σ Q = mb_Rn d 90 221 ls (.int (x >>> (z &&& 31)) :: st) σ Q := rn_step rfl (fun _ _ => rfl)
set_option maxRecDepth 20000 in
theorem sL_law_221 {d : Nat} {Q : mb_O → mb_S → Prop} {σ : mb_S} {st : List Value} {l0 l1 l2 l3 l4 l5 l7 l8 l9 l10 l11 l12 l13 l14 l15 l16 l17 l18 l19 : Option Value} {a : Nat} : mb_Rn d 90 221 [l0, l1, l2, l3, l4, l5, some (.ref a), l7, l8, l9, l10, l11, l12, l13, l14, l15, l16, l17, l18, l19] st σ Q = mb_Rn d 90 223 [l0, l1, l2, l3, l4, l5, some (.ref a), l7, l8, l9, l10, l11, l12, l13, l14, l15, l16, l17, l18, l19] (.ref a :: st) σ Q := rn_step rfl (fun _ _ => rfl)
set_option maxRecDepth 20000 in
theorem sL_law_221n {d : Nat} {Q : mb_O → mb_S → Prop} {σ : mb_S} {st : List Value} {l0 l1 l2 l3 l4 l5 l7 l8 l9 l10 l11 l12 l13 l14 l15 l16 l17 l18 l19 : Option Value} : mb_Rn d 90 221 [l0, l1, l2, l3, l4, l5, some (.null), l7, l8, l9, l10, l11, l12, l13, l14, l15, l16, l17, l18, l19] st σ Q = mb_Rn d 90 223 [l0, l1, l2, l3, l4, l5, some (.null), l7, l8, l9, l10, l11, l12, l13, l14, l15, l16, l17, l18, l19] (.null :: st) σ Q := rn_step rfl (fun _ _ => rfl)
set_option maxRecDepth 20000 in
theorem sL_law_223 {d : Nat} {Q : mb_O → mb_S → Prop} {σ : mb_S} {st : List Value} {l0 l1 l2 l3 l4 l5 l6 l7 l8 l9 l10 l11 l12 l13 l15 l16 l17 l18 l19 : Option Value} {x : Int32} : mb_Rn d 90 223 [l0, l1, l2, l3, l4, l5, l6, l7, l8, l9, l10, l11, l12, l13, some (.int x), l15, l16, l17, l18, l19] st σ Q = mb_Rn d 90 225 [l0, l1, l2, l3, l4, l5, l6, l7, l8, l9, l10, l11, l12, l13, some (.int x), l15, l16, l17, l18, l19] (.int x :: st) σ Q := rn_step rfl (fun _ _ => rfl)
set_option maxRecDepth 20000 in
theorem sL_law_225 {d : Nat} {Q : mb_O → mb_S → Prop} {σ : mb_S} {st : List Value} {ls : mb_L} {a : Nat} {j : Int32} : mb_Rn d 90 225 ls (.int j :: .ref a :: st) σ Q = mb_gi σ a j False (fun kd _ f => if kd = 0 ∨ kd = 9 then mb_Rn d 90 226 ls (.int (f j.toNatClampNeg) :: st) σ Q else False) := rn_iald rfl
set_option maxRecDepth 20000 in
theorem sL_law_226 {d : Nat} {Q : mb_O → mb_S → Prop} {σ : mb_S} {st : List Value} {ls : mb_L} : mb_Rn d 90 226 ls st σ Q = mb_Rn d 90 227 ls (.int 1 :: st) σ Q := rn_step rfl (fun _ _ => rfl)
set_option maxRecDepth 20000 in
theorem sL_law_227 {d : Nat} {Q : mb_O → mb_S → Prop} {σ : mb_S} {st : List Value} {ls : mb_L} {x z : Int32} : mb_Rn d 90 227 ls (.int z :: .int x :: st) σ Q = mb_Rn d 90 228 ls (.int (x + z) :: st) σ Q := rn_step rfl (fun _ _ => rfl)
set_option maxRecDepth 20000 in
theorem sL_law_228 {d : Nat} {Q : mb_O → mb_S → Prop} {σ : mb_S} {st : List Value} {ls : mb_L} {x z : Int32} : mb_Rn d 90 228 ls (.int z :: .int x :: st) σ Q = if z = 0 then False else mb_Rn d 90 229 ls (.int (x % z) :: st) σ Q := rn_ite (f := fun _ => none) rfl (fun _ _ => rfl) ok_none rfl
set_option maxRecDepth 20000 in
theorem sL_law_229 {d : Nat} {Q : mb_O → mb_S → Prop} {σ : mb_S} {st : List Value} {ls : mb_L} : mb_Rn d 90 229 ls st σ Q = mb_Rn d 90 230 ls (.int 1 :: st) σ Q := rn_step rfl (fun _ _ => rfl)
set_option maxRecDepth 20000 in
theorem sL_law_230 {d : Nat} {Q : mb_O → mb_S → Prop} {σ : mb_S} {st : List Value} {ls : mb_L} {x z : Int32} : mb_Rn d 90 230 ls (.int z :: .int x :: st) σ Q = mb_Rn d 90 231 ls (.int (x - z) :: st) σ Q := rn_step rfl (fun _ _ => rfl)
set_option maxRecDepth 20000 in
theorem sL_law_231 {d : Nat} {Q : mb_O → mb_S → Prop} {σ : mb_S} {st : List Value} {ls : mb_L} : mb_Rn d 90 231 ls st σ Q = mb_Rn d 90 232 ls (.int 0 :: st) σ Q := rn_step rfl (fun _ _ => rfl)
set_option maxRecDepth 20000 in
theorem sL_law_232 {d : Nat} {Q : mb_O → mb_S → Prop} {σ : mb_S} {st : List Value} {ls : mb_L} : mb_Rn d 90 232 ls st σ Q = mb_Rn d 90 233 ls (.int 0 :: st) σ Q := rn_step rfl (fun _ _ => rfl)
set_option maxRecDepth 20000 in
theorem sL_law_233 {d : Nat} {Q : mb_O → mb_S → Prop} {σ : mb_S} {st : List Value} {ls : mb_L} : mb_Rn d 90 233 ls st σ Q = mb_Rn d 90 234 ls (.int 0 :: st) σ Q := rn_step rfl (fun _ _ => rfl)
set_option maxRecDepth 20000 in
theorem sL_law_234 {d : Nat} {Q : mb_O → mb_S → Prop} {σ : mb_S} {st : List Value} {ls : mb_L} {p0 : Nat} {p1 : Int32} {p2 : Int32} {p3 : Int32} {p4 : Int32} {p5 : Int32} {p6 : Int32} (hd : 1 ≤ d) (h4 : st.length ≤ 4) : mb_Rn d 90 234 ls (.int p6 :: .int p5 :: .int p4 :: .int p3 :: .int p2 :: .int p1 :: .ref p0 :: st) σ Q = mb_Ex (d - 1) 86 [.ref p0, .int p1, .int p2, .int p3, .int p4, .int p5, .int p6] σ (mb_qk d 90 237 ls st Q) := rn_calls mb_good rfl hd rfl rfl ⟨rfl, rfl⟩ h4 ⟨Nat.le_of_ble_eq_true rfl, rfl⟩
set_option maxRecDepth 20000 in
theorem sL_law_237 {d : Nat} {Q : mb_O → mb_S → Prop} {σ : mb_S} {st : List Value} {l0 l1 l2 l3 l4 l5 l7 l8 l9 l10 l11 l12 l13 l14 l15 l16 l17 l18 l19 : Option Value} {a : Nat} : mb_Rn d 90 237 [l0, l1, l2, l3, l4, l5, some (.ref a), l7, l8, l9, l10, l11, l12, l13, l14, l15, l16, l17, l18, l19] st σ Q = mb_Rn d 90 239 [l0, l1, l2, l3, l4, l5, some (.ref a), l7, l8, l9, l10, l11, l12, l13, l14, l15, l16, l17, l18, l19] (.ref a :: st) σ Q := rn_step rfl (fun _ _ => rfl)
set_option maxRecDepth 20000 in
theorem sL_law_237n {d : Nat} {Q : mb_O → mb_S → Prop} {σ : mb_S} {st : List Value} {l0 l1 l2 l3 l4 l5 l7 l8 l9 l10 l11 l12 l13 l14 l15 l16 l17 l18 l19 : Option Value} : mb_Rn d 90 237 [l0, l1, l2, l3, l4, l5, some (.null), l7, l8, l9, l10, l11, l12, l13, l14, l15, l16, l17, l18, l19] st σ Q = mb_Rn d 90 239 [l0, l1, l2, l3, l4, l5, some (.null), l7, l8, l9, l10, l11, l12, l13, l14, l15, l16, l17, l18, l19] (.null :: st) σ Q := rn_step rfl (fun _ _ => rfl)
set_option maxRecDepth 20000 in
theorem sL_law_239 {d : Nat} {Q : mb_O → mb_S → Prop} {σ : mb_S} {st : List Value} {l0 l1 l2 l3 l4 l5 l6 l7 l8 l9 l10 l11 l12 l13 l15 l16 l17 l18 l19 : Option Value} {x : Int32} : mb_Rn d 90 239 [l0, l1, l2, l3, l4, l5, l6, l7, l8, l9, l10, l11, l12, l13, some (.int x), l15, l16, l17, l18, l19] st σ Q = mb_Rn d 90 241 [l0, l1, l2, l3, l4, l5, l6, l7, l8, l9, l10, l11, l12, l13, some (.int x), l15, l16, l17, l18, l19] (.int x :: st) σ Q := rn_step rfl (fun _ _ => rfl)
set_option maxRecDepth 20000 in
theorem sL_law_241 {d : Nat} {Q : mb_O → mb_S → Prop} {σ : mb_S} {st : List Value} {ls : mb_L} {a : Nat} {j : Int32} : mb_Rn d 90 241 ls (.int j :: .ref a :: st) σ Q = mb_gi σ a j False (fun kd _ f => if kd = 0 ∨ kd = 9 then mb_Rn d 90 242 ls (.int (f j.toNatClampNeg) :: st) σ Q else False) := rn_iald rfl
set_option maxRecDepth 20000 in
theorem sL_law_242 {d : Nat} {Q : mb_O → mb_S → Prop} {σ : mb_S} {st : List Value} {ls : mb_L} {x z : Int32} : mb_Rn d 90 242 ls (.int z :: .int x :: st) σ Q = if x = z then mb_Rn d 90 245 ls st σ Q else mb_Rn d 90 249 ls st σ Q := rn_ifn rfl (fun _ _ => rfl) bne_iff_ne
set_option maxRecDepth 20000 in
theorem sL_law_245 {d : Nat} {Q : mb_O → mb_S → Prop} {σ : mb_S} {st : List Value} {ls : mb_L} : mb_Rn d 90 245 ls st σ Q = mb_Rn d 90 246 ls (.int 1 :: st) σ Q := rn_step rfl (fun _ _ => rfl)
set_option maxRecDepth 20000 in
theorem sL_law_246 {d : Nat} {Q : mb_O → mb_S → Prop} {σ : mb_S} {st : List Value} {ls : mb_L} : mb_Rn d 90 246 ls st σ Q = mb_Rn d 90 250 ls st σ Q := rn_step rfl (fun _ _ => rfl)
set_option maxRecDepth 20000 in
theorem sL_law_249 {d : Nat} {Q : mb_O → mb_S → Prop} {σ : mb_S} {st : List Value} {ls : mb_L} : mb_Rn d 90 249 ls st σ Q = mb_Rn d 90 250 ls (.int 0 :: st) σ Q := rn_step rfl (fun _ _ => rfl)
set_option maxRecDepth 20000 in
theorem sL_law_250 {d : Nat} {Q : mb_O → mb_S → Prop} {σ : mb_S} {st : List Value} {l0 l1 l2 l3 l4 l5 l6 l7 l8 l9 l10 l11 l12 l13 l14 l15 l16 l17 l18 l19 : Option Value} {x : Int32} : mb_Rn d 90 250 [l0, l1, l2, l3, l4, l5, l6, l7, l8, l9, l10, l11, l12, l13, l14, l15, l16, l17, l18, l19] (.int x :: st) σ Q = mb_Rn d 90 252 [l0, l1, l2, l3, l4, l5, l6, l7, l8, some (.int x), l10, l11, l12, l13, l14, l15, l16, l17, l18, l19] st σ Q := rn_step rfl (fun _ _ => rfl)
set_option maxRecDepth 20000 in
theorem sL_law_252 {d : Nat} {Q : mb_O → mb_S → Prop} {σ : mb_S} {st : List Value} {l0 l1 l2 l3 l4 l5 l7 l8 l9 l10 l11 l12 l13 l14 l15 l16 l17 l18 l19 : Option Value} {a : Nat} : mb_Rn d 90 252 [l0, l1, l2, l3, l4, l5, some (.ref a), l7, l8, l9, l10, l11, l12, l13, l14, l15, l16, l17, l18, l19] st σ Q = mb_Rn d 90 254 [l0, l1, l2, l3, l4, l5, some (.ref a), l7, l8, l9, l10, l11, l12, l13, l14, l15, l16, l17, l18, l19] (.ref a :: st) σ Q := rn_step rfl (fun _ _ => rfl)
set_option maxRecDepth 20000 in
theorem sL_law_252n {d : Nat} {Q : mb_O → mb_S → Prop} {σ : mb_S} {st : List Value} {l0 l1 l2 l3 l4 l5 l7 l8 l9 l10 l11 l12 l13 l14 l15 l16 l17 l18 l19 : Option Value} : mb_Rn d 90 252 [l0, l1, l2, l3, l4, l5, some (.null), l7, l8, l9, l10, l11, l12, l13, l14, l15, l16, l17, l18, l19] st σ Q = mb_Rn d 90 254 [l0, l1, l2, l3, l4, l5, some (.null), l7, l8, l9, l10, l11, l12, l13, l14, l15, l16, l17, l18, l19] (.null :: st) σ Q := rn_step rfl (fun _ _ => rfl)
set_option maxRecDepth 20000 in
theorem sL_law_254 {d : Nat} {Q : mb_O → mb_S → Prop} {σ : mb_S} {st : List Value} {l0 l1 l2 l3 l4 l5 l6 l7 l8 l9 l10 l11 l12 l13 l15 l16 l17 l18 l19 : Option Value} {x : Int32} : mb_Rn d 90 254 [l0, l1, l2, l3, l4, l5, l6, l7, l8, l9, l10, l11, l12, l13, some (.int x), l15, l16, l17, l18, l19] st σ Q = mb_Rn d 90 256 [l0, l1, l2, l3, l4, l5, l6, l7, l8, l9, l10, l11, l12, l13, some (.int x), l15, l16, l17, l18, l19] (.int x :: st) σ Q := rn_step rfl (fun _ _ => rfl)
set_option maxRecDepth 20000 in
theorem sL_law_256 {d : Nat} {Q : mb_O → mb_S → Prop} {σ : mb_S} {st : List Value} {ls : mb_L} {a : Nat} {x : Int32} : mb_Rn d 90 256 ls (.int x :: .ref a :: st) σ Q = mb_Rn d 90 257 ls (.int x :: .ref a :: .int x :: .ref a :: st) σ Q := rn_step rfl (fun _ _ => rfl)
set_option maxRecDepth 20000 in
theorem sL_law_257 {d : Nat} {Q : mb_O → mb_S → Prop} {σ : mb_S} {st : List Value} {ls : mb_L} {a : Nat} {j : Int32} : mb_Rn d 90 257 ls (.int j :: .ref a :: st) σ Q = mb_gi σ a j False (fun kd _ f => if kd = 0 ∨ kd = 9 then mb_Rn d 90 258 ls (.int (f j.toNatClampNeg) :: st) σ Q else False) := rn_iald rfl
set_option maxRecDepth 20000 in
theorem sL_law_258 {d : Nat} {Q : mb_O → mb_S → Prop} {σ : mb_S} {st : List Value} {ls : mb_L} : mb_Rn d 90 258 ls st σ Q = mb_Rn d 90 259 ls (.int 1 :: st) σ Q := rn_step rfl (fun _ _ => rfl)
set_option maxRecDepth 20000 in
theorem sL_law_259 {d : Nat} {Q : mb_O → mb_S → Prop} {σ : mb_S} {st : List Value} {ls : mb_L} {x z : Int32} : mb_Rn d 90 259 ls (.int z :: .int x :: st) σ Q = mb_Rn d 90 260 ls (.int (x + z) :: st) σ Q := rn_step rfl (fun _ _ => rfl)
set_option maxRecDepth 20000 in
theorem sL_law_260 {d : Nat} {Q : mb_O → mb_S → Prop} {σ : mb_S} {st : List Value} {ls : mb_L} {a : Nat} {j x : Int32} : mb_Rn d 90 260 ls (.int x :: .int j :: .ref a :: st) σ Q = mb_gi σ a j False (fun kd n f => if kd = 0 then mb_Rn d 90 261 ls st (mb_up σ a (.inl (0, n, .inl (upd f j.toNatClampNeg x)))) Q else False) := rn_iast rfl
set_option maxRecDepth 20000 in
theorem sL_law_261 {d : Nat} {Q : mb_O → mb_S → Prop} {σ : mb_S} {st : List Value} {ls : mb_L} : mb_Rn d 90 261 ls st σ Q = mb_Rn d 90 1268 ls st σ Q := rn_step rfl (fun _ _ => rfl)
set_option maxRecDepth 20000 in
theorem sL_law_264 {d : Nat} {Q : mb_O → mb_S → Prop} {σ : mb_S} {st : List Value} {l0 l1 l2 l3 l4 l5 l6 l7 l8 l9 l10 l11 l12 l14 l15 l16 l17 l18 l19 : Option Value} {x : Int32} : mb_Rn d 90 264 [l0, l1, l2, l3, l4, l5, l6, l7, l8, l9, l10, l11, l12, some (.int x), l14, l15, l16, l17, l18, l19] st σ Q = mb_Rn d 90 266 [l0, l1, l2, l3, l4, l5, l6, l7, l8, l9, l10, l11, l12, some (.int x), l14, l15, l16, l17, l18, l19] (.int x :: st) σ Q := rn_step rfl (fun _ _ => rfl)
set_option maxRecDepth 20000 in
theorem sL_law_266 {d : Nat} {Q : mb_O → mb_S → Prop} {σ : mb_S} {st : List Value} {ls : mb_L} : mb_Rn d 90 266 ls st σ Q = mb_Rn d 90 268 ls (.int 11 :: st) σ Q := rn_step rfl (fun _ _ => rfl)
set_option maxRecDepth 20000 in
theorem sL_law_268 {d : Nat} {Q : mb_O → mb_S → Prop} {σ : mb_S} {st : List Value} {ls : mb_L} {x z : Int32} : mb_Rn d 90 268 ls (.int z :: .int x :: st) σ Q = if z ≤ x then mb_Rn d 90 375 ls st σ Q else mb_Rn d 90 271 ls st σ Q := rn_ifb rfl (fun _ _ => rfl) decide_eq_true_iff
set_option maxRecDepth 20000 in
theorem sL_law_271 {d : Nat} {Q : mb_O → mb_S → Prop} {σ : mb_S} {st : List Value} {l0 l1 l2 l3 l4 l5 l6 l7 l8 l9 l10 l11 l13 l14 l15 l16 l17 l18 l19 : Option Value} {x : Int32} : mb_Rn d 90 271 [l0, l1, l2, l3, l4, l5, l6, l7, l8, l9, l10, l11, some (.int x), l13, l14, l15, l16, l17, l18, l19] st σ Q = mb_Rn d 90 273 [l0, l1, l2, l3, l4, l5, l6, l7, l8, l9, l10, l11, some (.int x), l13, l14, l15, l16, l17, l18, l19] (.int x :: st) σ Q := rn_step rfl (fun _ _ => rfl)
set_option maxRecDepth 20000 in
theorem sL_law_273 {d : Nat} {Q : mb_O → mb_S → Prop} {σ : mb_S} {st : List Value} {ls : mb_L} : mb_Rn d 90 273 ls st σ Q = mb_Rn d 90 274 ls (.int 2 :: st) σ Q := rn_step rfl (fun _ _ => rfl)
set_option maxRecDepth 20000 in
theorem sL_law_274 {d : Nat} {Q : mb_O → mb_S → Prop} {σ : mb_S} {st : List Value} {ls : mb_L} {x z : Int32} : mb_Rn d 90 274 ls (.int z :: .int x :: st) σ Q = mb_Rn d 90 275 ls (.int (x >>> (z &&& 31)) :: st) σ Q := rn_step rfl (fun _ _ => rfl)
set_option maxRecDepth 20000 in
theorem sL_law_275 {d : Nat} {Q : mb_O → mb_S → Prop} {σ : mb_S} {st : List Value} {l0 l1 l2 l3 l4 l5 l7 l8 l9 l10 l11 l12 l13 l14 l15 l16 l17 l18 l19 : Option Value} {a : Nat} : mb_Rn d 90 275 [l0, l1, l2, l3, l4, l5, some (.ref a), l7, l8, l9, l10, l11, l12, l13, l14, l15, l16, l17, l18, l19] st σ Q = mb_Rn d 90 277 [l0, l1, l2, l3, l4, l5, some (.ref a), l7, l8, l9, l10, l11, l12, l13, l14, l15, l16, l17, l18, l19] (.ref a :: st) σ Q := rn_step rfl (fun _ _ => rfl)
set_option maxRecDepth 20000 in
theorem sL_law_275n {d : Nat} {Q : mb_O → mb_S → Prop} {σ : mb_S} {st : List Value} {l0 l1 l2 l3 l4 l5 l7 l8 l9 l10 l11 l12 l13 l14 l15 l16 l17 l18 l19 : Option Value} : mb_Rn d 90 275 [l0, l1, l2, l3, l4, l5, some (.null), l7, l8, l9, l10, l11, l12, l13, l14, l15, l16, l17, l18, l19] st σ Q = mb_Rn d 90 277 [l0, l1, l2, l3, l4, l5, some (.null), l7, l8, l9, l10, l11, l12, l13, l14, l15, l16, l17, l18, l19] (.null :: st) σ Q := rn_step rfl (fun _ _ => rfl)
set_option maxRecDepth 20000 in
theorem sL_law_277 {d : Nat} {Q : mb_O → mb_S → Prop} {σ : mb_S} {st : List Value} {l0 l1 l2 l3 l4 l5 l6 l7 l8 l9 l10 l11 l12 l13 l15 l16 l17 l18 l19 : Option Value} {x : Int32} : mb_Rn d 90 277 [l0, l1, l2, l3, l4, l5, l6, l7, l8, l9, l10, l11, l12, l13, some (.int x), l15, l16, l17, l18, l19] st σ Q = mb_Rn d 90 279 [l0, l1, l2, l3, l4, l5, l6, l7, l8, l9, l10, l11, l12, l13, some (.int x), l15, l16, l17, l18, l19] (.int x :: st) σ Q := rn_step rfl (fun _ _ => rfl)
set_option maxRecDepth 20000 in
theorem sL_law_279 {d : Nat} {Q : mb_O → mb_S → Prop} {σ : mb_S} {st : List Value} {ls : mb_L} {a : Nat} {j : Int32} : mb_Rn d 90 279 ls (.int j :: .ref a :: st) σ Q = mb_gi σ a j False (fun kd _ f => if kd = 0 ∨ kd = 9 then mb_Rn d 90 280 ls (.int (f j.toNatClampNeg) :: st) σ Q else False) := rn_iald rfl
set_option maxRecDepth 20000 in
theorem sL_law_280 {d : Nat} {Q : mb_O → mb_S → Prop} {σ : mb_S} {st : List Value} {ls : mb_L} {x z : Int32} : mb_Rn d 90 280 ls (.int z :: .int x :: st) σ Q = if z = 0 then False else mb_Rn d 90 281 ls (.int (x % z) :: st) σ Q := rn_ite (f := fun _ => none) rfl (fun _ _ => rfl) ok_none rfl
set_option maxRecDepth 20000 in
theorem sL_law_281 {d : Nat} {Q : mb_O → mb_S → Prop} {σ : mb_S} {st : List Value} {l0 l1 l2 l3 l4 l5 l6 l7 l8 l9 l10 l11 l12 l13 l14 l15 l16 l17 l18 l19 : Option Value} {x : Int32} : mb_Rn d 90 281 [l0, l1, l2, l3, l4, l5, l6, l7, l8, l9, l10, l11, l12, l13, l14, l15, l16, l17, l18, l19] (.int x :: st) σ Q = mb_Rn d 90 283 [l0, l1, l2, l3, l4, l5, l6, l7, l8, l9, l10, l11, l12, l13, l14, l15, some (.int x), l17, l18, l19] st σ Q := rn_step rfl (fun _ _ => rfl)
set_option maxRecDepth 20000 in
theorem sL_law_283 {d : Nat} {Q : mb_O → mb_S → Prop} {σ : mb_S} {st : List Value} {l0 l1 l2 l3 l4 l5 l6 l7 l8 l9 l10 l11 l13 l14 l15 l16 l17 l18 l19 : Option Value} {x : Int32} : mb_Rn d 90 283 [l0, l1, l2, l3, l4, l5, l6, l7, l8, l9, l10, l11, some (.int x), l13, l14, l15, l16, l17, l18, l19] st σ Q = mb_Rn d 90 285 [l0, l1, l2, l3, l4, l5, l6, l7, l8, l9, l10, l11, some (.int x), l13, l14, l15, l16, l17, l18, l19] (.int x :: st) σ Q := rn_step rfl (fun _ _ => rfl)
set_option maxRecDepth 20000 in
theorem sL_law_285 {d : Nat} {Q : mb_O → mb_S → Prop} {σ : mb_S} {st : List Value} {ls : mb_L} : mb_Rn d 90 285 ls st σ Q = mb_Rn d 90 286 ls (.int 5 :: st) σ Q := rn_step rfl (fun _ _ => rfl)
set_option maxRecDepth 20000 in
theorem sL_law_286 {d : Nat} {Q : mb_O → mb_S → Prop} {σ : mb_S} {st : List Value} {ls : mb_L} {x z : Int32} : mb_Rn d 90 286 ls (.int z :: .int x :: st) σ Q = mb_Rn d 90 287 ls (.int (x >>> (z &&& 31)) :: st) σ Q := rn_step rfl (fun _ _ => rfl)
set_option maxRecDepth 20000 in
theorem sL_law_287 {d : Nat} {Q : mb_O → mb_S → Prop} {σ : mb_S} {st : List Value} {ls : mb_L} : mb_Rn d 90 287 ls st σ Q = mb_Rn d 90 289 ls (.int 12 :: st) σ Q := rn_step rfl (fun _ _ => rfl)
set_option maxRecDepth 20000 in
theorem sL_law_289 {d : Nat} {Q : mb_O → mb_S → Prop} {σ : mb_S} {st : List Value} {ls : mb_L} {x z : Int32} : mb_Rn d 90 289 ls (.int z :: .int x :: st) σ Q = if z = 0 then False else mb_Rn d 90 290 ls (.int (x % z) :: st) σ Q := rn_ite (f := fun _ => none) rfl (fun _ _ => rfl) ok_none rfl
set_option maxRecDepth 20000 in
theorem sL_law_290 {d : Nat} {Q : mb_O → mb_S → Prop} {σ : mb_S} {st : List Value} {l0 l1 l2 l3 l4 l5 l6 l7 l8 l9 l10 l11 l12 l13 l14 l15 l16 l17 l18 l19 : Option Value} {x : Int32} : mb_Rn d 90 290 [l0, l1, l2, l3, l4, l5, l6, l7, l8, l9, l10, l11, l12, l13, l14, l15, l16, l17, l18, l19] (.int x :: st) σ Q = mb_Rn d 90 292 [l0, l1, l2, l3, l4, l5, l6, l7, l8, l9, l10, l11, l12, l13, l14, l15, l16, some (.int x), l18, l19] st σ Q := rn_step rfl (fun _ _ => rfl)
set_option maxRecDepth 20000 in
theorem sL_law_292 {d : Nat} {Q : mb_O → mb_S → Prop} {σ : mb_S} {st : List Value} {l0 l1 l2 l3 l4 l5 l6 l7 l8 l9 l10 l11 l13 l14 l15 l16 l17 l18 l19 : Option Value} {x : Int32} : mb_Rn d 90 292 [l0, l1, l2, l3, l4, l5, l6, l7, l8, l9, l10, l11, some (.int x), l13, l14, l15, l16, l17, l18, l19] st σ Q = mb_Rn d 90 294 [l0, l1, l2, l3, l4, l5, l6, l7, l8, l9, l10, l11, some (.int x), l13, l14, l15, l16, l17, l18, l19] (.int x :: st) σ Q := rn_step rfl (fun _ _ => rfl)
set_option maxRecDepth 20000 in
theorem sL_law_294 {d : Nat} {Q : mb_O → mb_S → Prop} {σ : mb_S} {st : List Value} {ls : mb_L} : mb_Rn d 90 294 ls st σ Q = mb_Rn d 90 296 ls (.int 9 :: st) σ Q := rn_step rfl (fun _ _ => rfl)
set_option maxRecDepth 20000 in
theorem sL_law_296 {d : Nat} {Q : mb_O → mb_S → Prop} {σ : mb_S} {st : List Value} {ls : mb_L} {x z : Int32} : mb_Rn d 90 296 ls (.int z :: .int x :: st) σ Q = mb_Rn d 90 297 ls (.int (x >>> (z &&& 31)) :: st) σ Q := rn_step rfl (fun _ _ => rfl)
set_option maxRecDepth 20000 in
theorem sL_law_297 {d : Nat} {Q : mb_O → mb_S → Prop} {σ : mb_S} {st : List Value} {ls : mb_L} : mb_Rn d 90 297 ls st σ Q = mb_Rn d 90 300 ls (.int 1999 :: st) σ Q := rn_step rfl (fun _ _ => rfl)
set_option maxRecDepth 20000 in
theorem sL_law_300 {d : Nat} {Q : mb_O → mb_S → Prop} {σ : mb_S} {st : List Value} {ls : mb_L} {x z : Int32} : mb_Rn d 90 300 ls (.int z :: .int x :: st) σ Q = if z = 0 then False else mb_Rn d 90 301 ls (.int (x % z) :: st) σ Q := rn_ite (f := fun _ => none) rfl (fun _ _ => rfl) ok_none rfl
set_option maxRecDepth 20000 in
theorem sL_law_301 {d : Nat} {Q : mb_O → mb_S → Prop} {σ : mb_S} {st : List Value} {ls : mb_L} : mb_Rn d 90 301 ls st σ Q = mb_Rn d 90 304 ls (.int 999 :: st) σ Q := rn_step rfl (fun _ _ => rfl)
set_option maxRecDepth 20000 in
theorem sL_law_304 {d : Nat} {Q : mb_O → mb_S → Prop} {σ : mb_S} {st : List Value} {ls : mb_L} {x z : Int32} : mb_Rn d 90 304 ls (.int z :: .int x :: st) σ Q = mb_Rn d 90 305 ls (.int (x - z) :: st) σ Q := rn_step rfl (fun _ _ => rfl)
set_option maxRecDepth 20000 in
theorem sL_law_305 {d : Nat} {Q : mb_O → mb_S → Prop} {σ : mb_S} {st : List Value} {l0 l1 l2 l3 l4 l5 l6 l7 l8 l9 l10 l11 l12 l13 l14 l15 l16 l17 l18 l19 : Option Value} {x : Int32} : mb_Rn d 90 305 [l0, l1, l2, l3, l4, l5, l6, l7, l8, l9, l10, l11, l12, l13, l14, l15, l16, l17, l18, l19] (.int x :: st) σ Q = mb_Rn d 90 307 [l0, l1, l2, l3, l4, l5, l6, l7, l8, l9, l10, l11, l12, l13, l14, l15, l16, l17, some (.int x), l19] st σ Q := rn_step rfl (fun _ _ => rfl)
set_option maxRecDepth 20000 in
theorem sL_law_307 {d : Nat} {Q : mb_O → mb_S → Prop} {σ : mb_S} {st : List Value} {l0 l2 l3 l4 l5 l6 l7 l8 l9 l10 l11 l12 l13 l14 l15 l16 l17 l18 l19 : Option Value} {a : Nat} : mb_Rn d 90 307 [l0, some (.ref a), l2, l3, l4, l5, l6, l7, l8, l9, l10, l11, l12, l13, l14, l15, l16, l17, l18, l19] st σ Q = mb_Rn d 90 308 [l0, some (.ref a), l2, l3, l4, l5, l6, l7, l8, l9, l10, l11, l12, l13, l14, l15, l16, l17, l18, l19] (.ref a :: st) σ Q := rn_step rfl (fun _ _ => rfl)
set_option maxRecDepth 20000 in
theorem sL_law_307n {d : Nat} {Q : mb_O → mb_S → Prop} {σ : mb_S} {st : List Value} {l0 l2 l3 l4 l5 l6 l7 l8 l9 l10 l11 l12 l13 l14 l15 l16 l17 l18 l19 : Option Value} : mb_Rn d 90 307 [l0, some (.null), l2, l3, l4, l5, l6, l7, l8, l9, l10, l11, l12, l13, l14, l15, l16, l17, l18, l19] st σ Q = mb_Rn d 90 308 [l0, some (.null), l2, l3, l4, l5, l6, l7, l8, l9, l10, l11, l12, l13, l14, l15, l16, l17, l18, l19] (.null :: st) σ Q := rn_step rfl (fun _ _ => rfl)
set_option maxRecDepth 20000 in
theorem sL_law_308 {d : Nat} {Q : mb_O → mb_S → Prop} {σ : mb_S} {st : List Value} {ls : mb_L} : mb_Rn d 90 308 ls st σ Q = mb_Rn d 90 309 ls (.int 1 :: st) σ Q := rn_step rfl (fun _ _ => rfl)
set_option maxRecDepth 20000 in
theorem sL_law_309 {d : Nat} {Q : mb_O → mb_S → Prop} {σ : mb_S} {st : List Value} {l0 l1 l2 l3 l4 l5 l6 l7 l8 l9 l10 l11 l12 l13 l15 l16 l17 l18 l19 : Option Value} {x : Int32} : mb_Rn d 90 309 [l0, l1, l2, l3, l4, l5, l6, l7, l8, l9, l10, l11, l12, l13, some (.int x), l15, l16, l17, l18, l19] st σ Q = mb_Rn d 90 311 [l0, l1, l2, l3, l4, l5, l6, l7, l8, l9, l10, l11, l12, l13, some (.int x), l15, l16, l17, l18, l19] (.int x :: st) σ Q := rn_step rfl (fun _ _ => rfl)
set_option maxRecDepth 20000 in
theorem sL_law_311 {d : Nat} {Q : mb_O → mb_S → Prop} {σ : mb_S} {st : List Value} {l0 l1 l2 l3 l4 l5 l6 l7 l8 l9 l10 l11 l12 l13 l14 l15 l17 l18 l19 : Option Value} {x : Int32} : mb_Rn d 90 311 [l0, l1, l2, l3, l4, l5, l6, l7, l8, l9, l10, l11, l12, l13, l14, l15, some (.int x), l17, l18, l19] st σ Q = mb_Rn d 90 313 [l0, l1, l2, l3, l4, l5, l6, l7, l8, l9, l10, l11, l12, l13, l14, l15, some (.int x), l17, l18, l19] (.int x :: st) σ Q := rn_step rfl (fun _ _ => rfl)
set_option maxRecDepth 20000 in
theorem sL_law_313 {d : Nat} {Q : mb_O → mb_S → Prop} {σ : mb_S} {st : List Value} {l0 l1 l2 l3 l4 l5 l6 l7 l8 l9 l10 l11 l12 l13 l14 l15 l16 l18 l19 : Option Value} {x : Int32} : mb_Rn d 90 313 [l0, l1, l2, l3, l4, l5, l6, l7, l8, l9, l10, l11, l12, l13, l14, l15, l16, some (.int x), l18, l19] st σ Q = mb_Rn d 90 315 [l0, l1, l2, l3, l4, l5, l6, l7, l8, l9, l10, l11, l12, l13, l14, l15, l16, some (.int x), l18, l19] (.int x :: st) σ Q := rn_step rfl (fun _ _ => rfl)
set_option maxRecDepth 20000 in
theorem sL_law_315 {d : Nat} {Q : mb_O → mb_S → Prop} {σ : mb_S} {st : List Value} {l0 l1 l2 l3 l4 l5 l6 l7 l8 l9 l10 l11 l12 l13 l14 l15 l16 l17 l19 : Option Value} {x : Int32} : mb_Rn d 90 315 [l0, l1, l2, l3, l4, l5, l6, l7, l8, l9, l10, l11, l12, l13, l14, l15, l16, l17, some (.int x), l19] st σ Q = mb_Rn d 90 317 [l0, l1, l2, l3, l4, l5, l6, l7, l8, l9, l10, l11, l12, l13, l14, l15, l16, l17, some (.int x), l19] (.int x :: st) σ Q := rn_step rfl (fun _ _ => rfl)
set_option maxRecDepth 20000 in
theorem sL_law_317 {d : Nat} {Q : mb_O → mb_S → Prop} {σ : mb_S} {st : List Value} {l0 l1 l2 l3 l4 l5 l6 l7 l8 l9 l10 l11 l13 l14 l15 l16 l17 l18 l19 : Option Value} {x : Int32} : mb_Rn d 90 317 [l0, l1, l2, l3, l4, l5, l6, l7, l8, l9, l10, l11, some (.int x), l13, l14, l15, l16, l17, l18, l19] st σ Q = mb_Rn d 90 319 [l0, l1, l2, l3, l4, l5, l6, l7, l8, l9, l10, l11, some (.int x), l13, l14, l15, l16, l17, l18, l19] (.int x :: st) σ Q := rn_step rfl (fun _ _ => rfl)
set_option maxRecDepth 20000 in
theorem sL_law_319 {d : Nat} {Q : mb_O → mb_S → Prop} {σ : mb_S} {st : List Value} {ls : mb_L} : mb_Rn d 90 319 ls st σ Q = mb_Rn d 90 320 ls (.int 4 :: st) σ Q := rn_step rfl (fun _ _ => rfl)
set_option maxRecDepth 20000 in
theorem sL_law_320 {d : Nat} {Q : mb_O → mb_S → Prop} {σ : mb_S} {st : List Value} {ls : mb_L} {x z : Int32} : mb_Rn d 90 320 ls (.int z :: .int x :: st) σ Q = mb_Rn d 90 321 ls (.int (x >>> (z &&& 31)) :: st) σ Q := rn_step rfl (fun _ _ => rfl)
set_option maxRecDepth 20000 in
theorem sL_law_321 {d : Nat} {Q : mb_O → mb_S → Prop} {σ : mb_S} {st : List Value} {ls : mb_L} : mb_Rn d 90 321 ls st σ Q = mb_Rn d 90 322 ls (.int 3 :: st) σ Q := rn_step rfl (fun _ _ => rfl)
set_option maxRecDepth 20000 in
theorem sL_law_322 {d : Nat} {Q : mb_O → mb_S → Prop} {σ : mb_S} {st : List Value} {ls : mb_L} {x z : Int32} : mb_Rn d 90 322 ls (.int z :: .int x :: st) σ Q = if z = 0 then False else mb_Rn d 90 323 ls (.int (x % z) :: st) σ Q := rn_ite (f := fun _ => none) rfl (fun _ _ => rfl) ok_none rfl
set_option maxRecDepth 20000 in
theorem sL_law_323 {d : Nat} {Q : mb_O → mb_S → Prop} {σ : mb_S} {st : List Value} {ls : mb_L} {p0 : Nat} {p1 : Int32} {p2 : Int32} {p3 : Int32} {p4 : Int32} {p5 : Int32} {p6 : Int32} (hd : 1 ≤ d) (h4 : st.length ≤ 4) : mb_Rn d 90 323 ls (.int p6 :: .int p5 :: .int p4 :: .int p3 :: .int p2 :: .int p1 :: .ref p0 :: st) σ Q = mb_Ex (d - 1) 86 [.ref p0, .int p1, .int p2, .int p3, .int p4, .int p5, .int p6] σ (mb_qk d 90 326 ls st Q) := rn_calls mb_good rfl hd rfl rfl ⟨rfl, rfl⟩ h4 ⟨Nat.le_of_ble_eq_true rfl, rfl⟩
set_option maxRecDepth 20000 in
theorem sL_law_326 {d : Nat} {Q : mb_O → mb_S → Prop} {σ : mb_S} {st : List Value} {l0 l1 l2 l3 l4 l5 l6 l7 l8 l9 l10 l11 l12 l13 l14 l15 l16 l17 l18 l19 : Option Value} {x : Int32} : mb_Rn d 90 326 [l0, l1, l2, l3, l4, l5, l6, l7, l8, l9, l10, l11, l12, l13, l14, l15, l16, l17, l18, l19] (.int x :: st) σ Q = mb_Rn d 90 328 [l0, l1, l2, l3, l4, l5, l6, l7, l8, l9, l10, l11, l12, l13, l14, l15, l16, l17, l18, some (.int x)] st σ Q := rn_step rfl (fun _ _ => rfl)
set_option maxRecDepth 20000 in
theorem sL_law_328 {d : Nat} {Q : mb_O → mb_S → Prop} {σ : mb_S} {st : List Value} {l0 l1 l2 l3 l4 l5 l6 l7 l8 l9 l10 l11 l12 l13 l14 l15 l16 l17 l18 : Option Value} {x : Int32} : mb_Rn d 90 328 [l0, l1, l2, l3, l4, l5, l6, l7, l8, l9, l10, l11, l12, l13, l14, l15, l16, l17, l18, some (.int x)] st σ Q = mb_Rn d 90 330 [l0, l1, l2, l3, l4, l5, l6, l7, l8, l9, l10, l11, l12, l13, l14, l15, l16, l17, l18, some (.int x)] (.int x :: st) σ Q := rn_step rfl (fun _ _ => rfl)
set_option maxRecDepth 20000 in
theorem sL_law_330 {d : Nat} {Q : mb_O → mb_S → Prop} {σ : mb_S} {st : List Value} {ls : mb_L} {x : Int32} : mb_Rn d 90 330 ls (.int x :: st) σ Q = if x ≤ 0 then mb_Rn d 90 369 ls st σ Q else mb_Rn d 90 333 ls st σ Q := rn_ifb rfl (fun _ _ => rfl) decide_eq_true_iff
set_option maxRecDepth 20000 in
theorem sL_law_333 {d : Nat} {Q : mb_O → mb_S → Prop} {σ : mb_S} {st : List Value} {l0 l1 l2 l3 l4 l5 l6 l7 l8 l9 l10 l11 l12 l13 l14 l15 l16 l17 l18 : Option Value} {x : Int32} : mb_Rn d 90 333 [l0, l1, l2, l3, l4, l5, l6, l7, l8, l9, l10, l11, l12, l13, l14, l15, l16, l17, l18, some (.int x)] st σ Q = mb_Rn d 90 335 [l0, l1, l2, l3, l4, l5, l6, l7, l8, l9, l10, l11, l12, l13, l14, l15, l16, l17, l18, some (.int x)] (.int x :: st) σ Q := rn_step rfl (fun _ _ => rfl)
set_option maxRecDepth 20000 in
theorem sL_law_335 {d : Nat} {Q : mb_O → mb_S → Prop} {σ : mb_S} {st : List Value} {ls : mb_L} : mb_Rn d 90 335 ls st σ Q = mb_Rn d 90 337 ls (.int 13 :: st) σ Q := rn_step rfl (fun _ _ => rfl)
set_option maxRecDepth 20000 in
theorem sL_law_337 {d : Nat} {Q : mb_O → mb_S → Prop} {σ : mb_S} {st : List Value} {ls : mb_L} {x z : Int32} : mb_Rn d 90 337 ls (.int z :: .int x :: st) σ Q = if z ≤ x then mb_Rn d 90 369 ls st σ Q else mb_Rn d 90 340 ls st σ Q := rn_ifb rfl (fun _ _ => rfl) decide_eq_true_iff
set_option maxRecDepth 20000 in
theorem sL_law_340 {d : Nat} {Q : mb_O → mb_S → Prop} {σ : mb_S} {st : List Value} {l0 l2 l3 l4 l5 l6 l7 l8 l9 l10 l11 l12 l13 l14 l15 l16 l17 l18 l19 : Option Value} {a : Nat} : mb_Rn d 90 340 [l0, some (.ref a), l2, l3, l4, l5, l6, l7, l8, l9, l10, l11, l12, l13, l14, l15, l16, l17, l18, l19] st σ Q = mb_Rn d 90 341 [l0, some (.ref a), l2, l3, l4, l5, l6, l7, l8, l9, l10, l11, l12, l13, l14, l15, l16, l17, l18, l19] (.ref a :: st) σ Q := rn_step rfl (fun _ _ => rfl)
set_option maxRecDepth 20000 in
theorem sL_law_340n {d : Nat} {Q : mb_O → mb_S → Prop} {σ : mb_S} {st : List Value} {l0 l2 l3 l4 l5 l6 l7 l8 l9 l10 l11 l12 l13 l14 l15 l16 l17 l18 l19 : Option Value} : mb_Rn d 90 340 [l0, some (.null), l2, l3, l4, l5, l6, l7, l8, l9, l10, l11, l12, l13, l14, l15, l16, l17, l18, l19] st σ Q = mb_Rn d 90 341 [l0, some (.null), l2, l3, l4, l5, l6, l7, l8, l9, l10, l11, l12, l13, l14, l15, l16, l17, l18, l19] (.null :: st) σ Q := rn_step rfl (fun _ _ => rfl)
set_option maxRecDepth 20000 in
theorem sL_law_341 {d : Nat} {Q : mb_O → mb_S → Prop} {σ : mb_S} {st : List Value} {l0 l1 l2 l3 l4 l5 l6 l7 l8 l9 l10 l11 l12 l13 l15 l16 l17 l18 l19 : Option Value} {x : Int32} : mb_Rn d 90 341 [l0, l1, l2, l3, l4, l5, l6, l7, l8, l9, l10, l11, l12, l13, some (.int x), l15, l16, l17, l18, l19] st σ Q = mb_Rn d 90 343 [l0, l1, l2, l3, l4, l5, l6, l7, l8, l9, l10, l11, l12, l13, some (.int x), l15, l16, l17, l18, l19] (.int x :: st) σ Q := rn_step rfl (fun _ _ => rfl)
set_option maxRecDepth 20000 in
theorem sL_law_343 {d : Nat} {Q : mb_O → mb_S → Prop} {σ : mb_S} {st : List Value} {ls : mb_L} : mb_Rn d 90 343 ls st σ Q = mb_Rn d 90 344 ls (.int (-1) :: st) σ Q := rn_step rfl (fun _ _ => rfl)
set_option maxRecDepth 20000 in
theorem sL_law_344 {d : Nat} {Q : mb_O → mb_S → Prop} {σ : mb_S} {st : List Value} {l0 l1 l2 l3 l4 l5 l6 l7 l8 l9 l10 l11 l12 l13 l14 l15 l17 l18 l19 : Option Value} {x : Int32} : mb_Rn d 90 344 [l0, l1, l2, l3, l4, l5, l6, l7, l8, l9, l10, l11, l12, l13, l14, l15, some (.int x), l17, l18, l19] st σ Q = mb_Rn d 90 346 [l0, l1, l2, l3, l4, l5, l6, l7, l8, l9, l10, l11, l12, l13, l14, l15, some (.int x), l17, l18, l19] (.int x :: st) σ Q := rn_step rfl (fun _ _ => rfl)
set_option maxRecDepth 20000 in
theorem sL_law_346 {d : Nat} {Q : mb_O → mb_S → Prop} {σ : mb_S} {st : List Value} {l0 l1 l2 l3 l4 l5 l6 l7 l8 l9 l10 l11 l12 l13 l14 l15 l16 l18 l19 : Option Value} {x : Int32} : mb_Rn d 90 346 [l0, l1, l2, l3, l4, l5, l6, l7, l8, l9, l10, l11, l12, l13, l14, l15, l16, some (.int x), l18, l19] st σ Q = mb_Rn d 90 348 [l0, l1, l2, l3, l4, l5, l6, l7, l8, l9, l10, l11, l12, l13, l14, l15, l16, some (.int x), l18, l19] (.int x :: st) σ Q := rn_step rfl (fun _ _ => rfl)
set_option maxRecDepth 20000 in
theorem sL_law_348 {d : Nat} {Q : mb_O → mb_S → Prop} {σ : mb_S} {st : List Value} {ls : mb_L} {p0 : Int32} {p1 : Int32} {p2 : Int32} {p3 : Int32} {b : Nat} (hd : 1 ≤ d) (h4 : st.length ≤ 4) : mb_Rn d 90 348 ls (.int p3 :: .int p2 :: .int p1 :: .int p0 :: .ref b :: st) σ Q = mb_gf σ b 7 False (fun _ => mb_Ex (d - 1) 46 [.ref b, .int p0, .int p1, .int p2, .int p3] σ (mb_qx [] d 90 351 ls st Q)) := rn_callv mb_good rfl hd rfl rfl ⟨rfl, rfl⟩ h4 ⟨Nat.le_of_ble_eq_true rfl, rfl⟩
set_option maxRecDepth 20000 in
theorem sL_law_351 {d : Nat} {Q : mb_O → mb_S → Prop} {σ : mb_S} {st : List Value} {l0 l2 l3 l4 l5 l6 l7 l8 l9 l10 l11 l12 l13 l14 l15 l16 l17 l18 l19 : Option Value} {a : Nat} : mb_Rn d 90 351 [l0, some (.ref a), l2, l3, l4, l5, l6, l7, l8, l9, l10, l11, l12, l13, l14, l15, l16, l17, l18, l19] st σ Q = mb_Rn d 90 352 [l0, some (.ref a), l2, l3, l4, l5, l6, l7, l8, l9, l10, l11, l12, l13, l14, l15, l16, l17, l18, l19] (.ref a :: st) σ Q := rn_step rfl (fun _ _ => rfl)
set_option maxRecDepth 20000 in
theorem sL_law_351n {d : Nat} {Q : mb_O → mb_S → Prop} {σ : mb_S} {st : List Value} {l0 l2 l3 l4 l5 l6 l7 l8 l9 l10 l11 l12 l13 l14 l15 l16 l17 l18 l19 : Option Value} : mb_Rn d 90 351 [l0, some (.null), l2, l3, l4, l5, l6, l7, l8, l9, l10, l11, l12, l13, l14, l15, l16, l17, l18, l19] st σ Q = mb_Rn d 90 352 [l0, some (.null), l2, l3, l4, l5, l6, l7, l8, l9, l10, l11, l12, l13, l14, l15, l16, l17, l18, l19] (.null :: st) σ Q := rn_step rfl (fun _ _ => rfl)
set_option maxRecDepth 20000 in
theorem sL_law_352 {d : Nat} {Q : mb_O → mb_S → Prop} {σ : mb_S} {st : List Value} {l0 l1 l2 l3 l4 l5 l6 l7 l8 l9 l10 l11 l12 l13 l15 l16 l17 l18 l19 : Option Value} {x : Int32} : mb_Rn d 90 352 [l0, l1, l2, l3, l4, l5, l6, l7, l8, l9, l10, l11, l12, l13, some (.int x), l15, l16, l17, l18, l19] st σ Q = mb_Rn d 90 354 [l0, l1, l2, l3, l4, l5, l6, l7, l8, l9, l10, l11, l12, l13, some (.int x), l15, l16, l17, l18, l19] (.int x :: st) σ Q := rn_step rfl (fun _ _ => rfl)
set_option maxRecDepth 20000 in
theorem sL_law_354 {d : Nat} {Q : mb_O → mb_S → Prop} {σ : mb_S} {st : List Value} {ls : mb_L} : mb_Rn d 90 354 ls st σ Q = mb_Rn d 90 355 ls (.int (-1) :: st) σ Q := rn_step rfl (fun _ _ => rfl)
set_option maxRecDepth 20000 in
theorem sL_law_355 {d : Nat} {Q : mb_O → mb_S → Prop} {σ : mb_S} {st : List Value} {l0 l1 l2 l3 l4 l5 l6 l7 l8 l9 l10 l11 l12 l13 l14 l15 l17 l18 l19 : Option Value} {x : Int32} : mb_Rn d 90 355 [l0, l1, l2, l3, l4, l5, l6, l7, l8, l9, l10, l11, l12, l13, l14, l15, some (.int x), l17, l18, l19] st σ Q = mb_Rn d 90 357 [l0, l1, l2, l3, l4, l5, l6, l7, l8, l9, l10, l11, l12, l13, l14, l15, some (.int x), l17, l18, l19] (.int x :: st) σ Q := rn_step rfl (fun _ _ => rfl)
set_option maxRecDepth 20000 in
theorem sL_law_357 {d : Nat} {Q : mb_O → mb_S → Prop} {σ : mb_S} {st : List Value} {l0 l1 l2 l3 l4 l5 l6 l7 l8 l9 l10 l11 l12 l13 l14 l15 l16 l18 l19 : Option Value} {x : Int32} : mb_Rn d 90 357 [l0, l1, l2, l3, l4, l5, l6, l7, l8, l9, l10, l11, l12, l13, l14, l15, l16, some (.int x), l18, l19] st σ Q = mb_Rn d 90 359 [l0, l1, l2, l3, l4, l5, l6, l7, l8, l9, l10, l11, l12, l13, l14, l15, l16, some (.int x), l18, l19] (.int x :: st) σ Q := rn_step rfl (fun _ _ => rfl)
set_option maxRecDepth 20000 in
theorem sL_law_359 {d : Nat} {Q : mb_O → mb_S → Prop} {σ : mb_S} {st : List Value} {ls : mb_L} {p0 : Int32} {p1 : Int32} {p2 : Int32} {p3 : Int32} {b : Nat} (hd : 1 ≤ d) (h4 : st.length ≤ 4) : mb_Rn d 90 359 ls (.int p3 :: .int p2 :: .int p1 :: .int p0 :: .ref b :: st) σ Q = mb_gf σ b 7 False (fun _ => mb_Ex (d - 1) 47 [.ref b, .int p0, .int p1, .int p2, .int p3] σ (mb_qx [] d 90 362 ls st Q)) := rn_callv mb_good rfl hd rfl rfl ⟨rfl, rfl⟩ h4 ⟨Nat.le_of_ble_eq_true rfl, rfl⟩
set_option maxRecDepth 20000 in
theorem sL_law_362 {d : Nat} {Q : mb_O → mb_S → Prop} {σ : mb_S} {st : List Value} {ls : mb_L} {x z : Int32} : mb_Rn d 90 362 ls (.int z :: .int x :: st) σ Q = if x = z then mb_Rn d 90 365 ls st σ Q else mb_Rn d 90 369 ls st σ Q := rn_ifn rfl (fun _ _ => rfl) bne_iff_ne
set_option maxRecDepth 20000 in
theorem sL_law_365 {d : Nat} {Q : mb_O → mb_S → Prop} {σ : mb_S} {st : List Value} {ls : mb_L} : mb_Rn d 90 365 ls st σ Q = mb_Rn d 90 366 ls (.int 1 :: st) σ Q := rn_step rfl (fun _ _ => rfl)
set_option maxRecDepth 20000 in
theorem sL_law_366 {d : Nat} {Q : mb_O → mb_S → Prop} {σ : mb_S} {st : List Value} {ls : mb_L} : mb_Rn d 90 366 ls st σ Q = mb_Rn d 90 370 ls st σ Q := rn_step rfl (fun _ _ => rfl)
set_option maxRecDepth 20000 in
theorem sL_law_369 {d : Nat} {Q : mb_O → mb_S → Prop} {σ : mb_S} {st : List Value} {ls : mb_L} : mb_Rn d 90 369 ls st σ Q = mb_Rn d 90 370 ls (.int 0 :: st) σ Q := rn_step rfl (fun _ _ => rfl)
set_option maxRecDepth 20000 in
theorem sL_law_370 {d : Nat} {Q : mb_O → mb_S → Prop} {σ : mb_S} {st : List Value} {l0 l1 l2 l3 l4 l5 l6 l7 l8 l9 l10 l11 l12 l13 l14 l15 l16 l17 l18 l19 : Option Value} {x : Int32} : mb_Rn d 90 370 [l0, l1, l2, l3, l4, l5, l6, l7, l8, l9, l10, l11, l12, l13, l14, l15, l16, l17, l18, l19] (.int x :: st) σ Q = mb_Rn d 90 372 [l0, l1, l2, l3, l4, l5, l6, l7, l8, some (.int x), l10, l11, l12, l13, l14, l15, l16, l17, l18, l19] st σ Q := rn_step rfl (fun _ _ => rfl)
set_option maxRecDepth 20000 in
theorem sL_law_372 {d : Nat} {Q : mb_O → mb_S → Prop} {σ : mb_S} {st : List Value} {ls : mb_L} : mb_Rn d 90 372 ls st σ Q = mb_Rn d 90 1268 ls st σ Q := rn_step rfl (fun _ _ => rfl)
set_option maxRecDepth 20000 in
theorem sL_law_375 {d : Nat} {Q : mb_O → mb_S → Prop} {σ : mb_S} {st : List Value} {l0 l1 l2 l3 l4 l5 l6 l7 l8 l9 l10 l11 l12 l14 l15 l16 l17 l18 l19 : Option Value} {x : Int32} : mb_Rn d 90 375 [l0, l1, l2, l3, l4, l5, l6, l7, l8, l9, l10, l11, l12, some (.int x), l14, l15, l16, l17, l18, l19] st σ Q = mb_Rn d 90 377 [l0, l1, l2, l3, l4, l5, l6, l7, l8, l9, l10, l11, l12, some (.int x), l14, l15, l16, l17, l18, l19] (.int x :: st) σ Q := rn_step rfl (fun _ _ => rfl)
set_option maxRecDepth 20000 in
theorem sL_law_377 {d : Nat} {Q : mb_O → mb_S → Prop} {σ : mb_S} {st : List Value} {ls : mb_L} : mb_Rn d 90 377 ls st σ Q = mb_Rn d 90 379 ls (.int 13 :: st) σ Q := rn_step rfl (fun _ _ => rfl)
set_option maxRecDepth 20000 in
theorem sL_law_379 {d : Nat} {Q : mb_O → mb_S → Prop} {σ : mb_S} {st : List Value} {ls : mb_L} {x z : Int32} : mb_Rn d 90 379 ls (.int z :: .int x :: st) σ Q = if z ≤ x then mb_Rn d 90 460 ls st σ Q else mb_Rn d 90 382 ls st σ Q := rn_ifb rfl (fun _ _ => rfl) decide_eq_true_iff
set_option maxRecDepth 20000 in
theorem sL_law_382 {d : Nat} {Q : mb_O → mb_S → Prop} {σ : mb_S} {st : List Value} {l0 l2 l3 l4 l5 l6 l7 l8 l9 l10 l11 l12 l13 l14 l15 l16 l17 l18 l19 : Option Value} {a : Nat} : mb_Rn d 90 382 [l0, some (.ref a), l2, l3, l4, l5, l6, l7, l8, l9, l10, l11, l12, l13, l14, l15, l16, l17, l18, l19] st σ Q = mb_Rn d 90 383 [l0, some (.ref a), l2, l3, l4, l5, l6, l7, l8, l9, l10, l11, l12, l13, l14, l15, l16, l17, l18, l19] (.ref a :: st) σ Q := rn_step rfl (fun _ _ => rfl)
set_option maxRecDepth 20000 in
theorem sL_law_382n {d : Nat} {Q : mb_O → mb_S → Prop} {σ : mb_S} {st : List Value} {l0 l2 l3 l4 l5 l6 l7 l8 l9 l10 l11 l12 l13 l14 l15 l16 l17 l18 l19 : Option Value} : mb_Rn d 90 382 [l0, some (.null), l2, l3, l4, l5, l6, l7, l8, l9, l10, l11, l12, l13, l14, l15, l16, l17, l18, l19] st σ Q = mb_Rn d 90 383 [l0, some (.null), l2, l3, l4, l5, l6, l7, l8, l9, l10, l11, l12, l13, l14, l15, l16, l17, l18, l19] (.null :: st) σ Q := rn_step rfl (fun _ _ => rfl)
set_option maxRecDepth 20000 in
theorem sL_law_383 {d : Nat} {Q : mb_O → mb_S → Prop} {σ : mb_S} {st : List Value} {ls : mb_L} : mb_Rn d 90 383 ls st σ Q = mb_Rn d 90 384 ls (.int 2 :: st) σ Q := rn_step rfl (fun _ _ => rfl)
set_option maxRecDepth 20000 in
theorem sL_law_384 {d : Nat} {Q : mb_O → mb_S → Prop} {σ : mb_S} {st : List Value} {l0 l1 l2 l3 l4 l5 l6 l7 l8 l9 l10 l11 l12 l13 l15 l16 l17 l18 l19 : Option Value} {x : Int32} : mb_Rn d 90 384 [l0, l1, l2, l3, l4, l5, l6, l7, l8, l9, l10, l11, l12, l13, some (.int x), l15, l16, l17, l18, l19] st σ Q = mb_Rn d 90 386 [l0, l1, l2, l3, l4, l5, l6, l7, l8, l9, l10, l11, l12, l13, some (.int x), l15, l16, l17, l18, l19] (.int x :: st) σ Q := rn_step rfl (fun _ _ => rfl)
set_option maxRecDepth 20000 in
theorem sL_law_386 {d : Nat} {Q : mb_O → mb_S → Prop} {σ : mb_S} {st : List Value} {l0 l1 l2 l3 l4 l5 l6 l7 l8 l9 l10 l11 l13 l14 l15 l16 l17 l18 l19 : Option Value} {x : Int32} : mb_Rn d 90 386 [l0, l1, l2, l3, l4, l5, l6, l7, l8, l9, l10, l11, some (.int x), l13, l14, l15, l16, l17, l18, l19] st σ Q = mb_Rn d 90 388 [l0, l1, l2, l3, l4, l5, l6, l7, l8, l9, l10, l11, some (.int x), l13, l14, l15, l16, l17, l18, l19] (.int x :: st) σ Q := rn_step rfl (fun _ _ => rfl)
set_option maxRecDepth 20000 in
theorem sL_law_388 {d : Nat} {Q : mb_O → mb_S → Prop} {σ : mb_S} {st : List Value} {ls : mb_L} : mb_Rn d 90 388 ls st σ Q = mb_Rn d 90 389 ls (.int 2 :: st) σ Q := rn_step rfl (fun _ _ => rfl)
set_option maxRecDepth 20000 in
theorem sL_law_389 {d : Nat} {Q : mb_O → mb_S → Prop} {σ : mb_S} {st : List Value} {ls : mb_L} {x z : Int32} : mb_Rn d 90 389 ls (.int z :: .int x :: st) σ Q = mb_Rn d 90 390 ls (.int (x >>> (z &&& 31)) :: st) σ Q := rn_step rfl (fun _ _ => rfl)
set_option maxRecDepth 20000 in
theorem sL_law_390 {d : Nat} {Q : mb_O → mb_S → Prop} {σ : mb_S} {st : List Value} {l0 l1 l2 l3 l4 l5 l7 l8 l9 l10 l11 l12 l13 l14 l15 l16 l17 l18 l19 : Option Value} {a : Nat} : mb_Rn d 90 390 [l0, l1, l2, l3, l4, l5, some (.ref a), l7, l8, l9, l10, l11, l12, l13, l14, l15, l16, l17, l18, l19] st σ Q = mb_Rn d 90 392 [l0, l1, l2, l3, l4, l5, some (.ref a), l7, l8, l9, l10, l11, l12, l13, l14, l15, l16, l17, l18, l19] (.ref a :: st) σ Q := rn_step rfl (fun _ _ => rfl)
set_option maxRecDepth 20000 in
theorem sL_law_390n {d : Nat} {Q : mb_O → mb_S → Prop} {σ : mb_S} {st : List Value} {l0 l1 l2 l3 l4 l5 l7 l8 l9 l10 l11 l12 l13 l14 l15 l16 l17 l18 l19 : Option Value} : mb_Rn d 90 390 [l0, l1, l2, l3, l4, l5, some (.null), l7, l8, l9, l10, l11, l12, l13, l14, l15, l16, l17, l18, l19] st σ Q = mb_Rn d 90 392 [l0, l1, l2, l3, l4, l5, some (.null), l7, l8, l9, l10, l11, l12, l13, l14, l15, l16, l17, l18, l19] (.null :: st) σ Q := rn_step rfl (fun _ _ => rfl)
set_option maxRecDepth 20000 in
theorem sL_law_392 {d : Nat} {Q : mb_O → mb_S → Prop} {σ : mb_S} {st : List Value} {l0 l1 l2 l3 l4 l5 l6 l7 l8 l9 l10 l11 l12 l13 l15 l16 l17 l18 l19 : Option Value} {x : Int32} : mb_Rn d 90 392 [l0, l1, l2, l3, l4, l5, l6, l7, l8, l9, l10, l11, l12, l13, some (.int x), l15, l16, l17, l18, l19] st σ Q = mb_Rn d 90 394 [l0, l1, l2, l3, l4, l5, l6, l7, l8, l9, l10, l11, l12, l13, some (.int x), l15, l16, l17, l18, l19] (.int x :: st) σ Q := rn_step rfl (fun _ _ => rfl)
set_option maxRecDepth 20000 in
theorem sL_law_394 {d : Nat} {Q : mb_O → mb_S → Prop} {σ : mb_S} {st : List Value} {ls : mb_L} {a : Nat} {j : Int32} : mb_Rn d 90 394 ls (.int j :: .ref a :: st) σ Q = mb_gi σ a j False (fun kd _ f => if kd = 0 ∨ kd = 9 then mb_Rn d 90 395 ls (.int (f j.toNatClampNeg) :: st) σ Q else False) := rn_iald rfl
set_option maxRecDepth 20000 in
theorem sL_law_395 {d : Nat} {Q : mb_O → mb_S → Prop} {σ : mb_S} {st : List Value} {ls : mb_L} {x z : Int32} : mb_Rn d 90 395 ls (.int z :: .int x :: st) σ Q = if z = 0 then False else mb_Rn d 90 396 ls (.int (x % z) :: st) σ Q := rn_ite (f := fun _ => none) rfl (fun _ _ => rfl) ok_none rfl
set_option maxRecDepth 20000 in
theorem sL_law_396 {d : Nat} {Q : mb_O → mb_S → Prop} {σ : mb_S} {st : List Value} {l0 l1 l2 l3 l4 l5 l6 l7 l8 l9 l10 l11 l13 l14 l15 l16 l17 l18 l19 : Option Value} {x : Int32} : mb_Rn d 90 396 [l0, l1, l2, l3, l4, l5, l6, l7, l8, l9, l10, l11, some (.int x), l13, l14, l15, l16, l17, l18, l19] st σ Q = mb_Rn d 90 398 [l0, l1, l2, l3, l4, l5, l6, l7, l8, l9, l10, l11, some (.int x), l13, l14, l15, l16, l17, l18, l19] (.int x :: st) σ Q := rn_step rfl (fun _ _ => rfl)
set_option maxRecDepth 20000 in
theorem sL_law_398 {d : Nat} {Q : mb_O → mb_S → Prop} {σ : mb_S} {st : List Value} {ls : mb_L} : mb_Rn d 90 398 ls st σ Q = mb_Rn d 90 399 ls (.int 5 :: st) σ Q := rn_step rfl (fun _ _ => rfl)
set_option maxRecDepth 20000 in
theorem sL_law_399 {d : Nat} {Q : mb_O → mb_S → Prop} {σ : mb_S} {st : List Value} {ls : mb_L} {x z : Int32} : mb_Rn d 90 399 ls (.int z :: .int x :: st) σ Q = mb_Rn d 90 400 ls (.int (x >>> (z &&& 31)) :: st) σ Q := rn_step rfl (fun _ _ => rfl)
set_option maxRecDepth 20000 in
theorem sL_law_400 {d : Nat} {Q : mb_O → mb_S → Prop} {σ : mb_S} {st : List Value} {ls : mb_L} : mb_Rn d 90 400 ls st σ Q = mb_Rn d 90 402 ls (.int 12 :: st) σ Q := rn_step rfl (fun _ _ => rfl)
set_option maxRecDepth 20000 in
theorem sL_law_402 {d : Nat} {Q : mb_O → mb_S → Prop} {σ : mb_S} {st : List Value} {ls : mb_L} {x z : Int32} : mb_Rn d 90 402 ls (.int z :: .int x :: st) σ Q = if z = 0 then False else mb_Rn d 90 403 ls (.int (x % z) :: st) σ Q := rn_ite (f := fun _ => none) rfl (fun _ _ => rfl) ok_none rfl
set_option maxRecDepth 20000 in
theorem sL_law_403 {d : Nat} {Q : mb_O → mb_S → Prop} {σ : mb_S} {st : List Value} {ls : mb_L} : mb_Rn d 90 403 ls st σ Q = mb_Rn d 90 404 ls (.int 0 :: st) σ Q := rn_step rfl (fun _ _ => rfl)
set_option maxRecDepth 20000 in
theorem sL_law_404 {d : Nat} {Q : mb_O → mb_S → Prop} {σ : mb_S} {st : List Value} {ls : mb_L} : mb_Rn d 90 404 ls st σ Q = mb_Rn d 90 405 ls (.int 0 :: st) σ Q := rn_step rfl (fun _ _ => rfl)
set_option maxRecDepth 20000 in
theorem sL_law_405 {d : Nat} {Q : mb_O → mb_S → Prop} {σ : mb_S} {st : List Value} {ls : mb_L} {p0 : Nat} {p1 : Int32} {p2 : Int32} {p3 : Int32} {p4 : Int32} {p5 : Int32} {p6 : Int32} (hd : 1 ≤ d) (h4 : st.length ≤ 4) : mb_Rn d 90 405 ls (.int p6 :: .int p5 :: .int p4 :: .int p3 :: .int p2 :: .int p1 :: .ref p0 :: st) σ Q = mb_Ex (d - 1) 86 [.ref p0, .int p1, .int p2, .int p3, .int p4, .int p5, .int p6] σ (mb_qk d 90 408 ls st Q) := rn_calls mb_good rfl hd rfl rfl ⟨rfl, rfl⟩ h4 ⟨Nat.le_of_ble_eq_true rfl, rfl⟩
set_option maxRecDepth 20000 in
theorem sL_law_408 {d : Nat} {Q : mb_O → mb_S → Prop} {σ : mb_S} {st : List Value} {l0 l1 l2 l3 l4 l5 l6 l7 l8 l9 l10 l11 l12 l13 l14 l15 l16 l17 l18 l19 : Option Value} {x : Int32} : mb_Rn d 90 408 [l0, l1, l2, l3, l4, l5, l6, l7, l8, l9, l10, l11, l12, l13, l14, l15, l16, l17, l18, l19] (.int x :: st) σ Q = mb_Rn d 90 410 [l0, l1, l2, l3, l4, l5, l6, l7, l8, l9, l10, l11, l12, l13, l14, l15, some (.int x), l17, l18, l19] st σ Q := rn_step rfl (fun _ _ => rfl)
set_option maxRecDepth 20000 in
theorem sL_law_410 {d : Nat} {Q : mb_O → mb_S → Prop} {σ : mb_S} {st : List Value} {l0 l1 l2 l3 l4 l5 l6 l7 l8 l9 l10 l11 l12 l13 l14 l15 l17 l18 l19 : Option Value} {x : Int32} : mb_Rn d 90 410 [l0, l1, l2, l3, l4, l5, l6, l7, l8, l9, l10, l11, l12, l13, l14, l15, some (.int x), l17, l18, l19] st σ Q = mb_Rn d 90 412 [l0, l1, l2, l3, l4, l5, l6, l7, l8, l9, l10, l11, l12, l13, l14, l15, some (.int x), l17, l18, l19] (.int x :: st) σ Q := rn_step rfl (fun _ _ => rfl)
set_option maxRecDepth 20000 in
theorem sL_law_412 {d : Nat} {Q : mb_O → mb_S → Prop} {σ : mb_S} {st : List Value} {ls : mb_L} {x : Int32} : mb_Rn d 90 412 ls (.int x :: st) σ Q = if x = 0 then mb_Rn d 90 421 ls st σ Q else mb_Rn d 90 415 ls st σ Q := rn_ifb rfl (fun _ _ => rfl) beq_iff_eq
set_option maxRecDepth 20000 in
theorem sL_law_415 {d : Nat} {Q : mb_O → mb_S → Prop} {σ : mb_S} {st : List Value} {l0 l1 l2 l3 l4 l5 l6 l7 l8 l9 l10 l11 l12 l13 l14 l15 l17 l18 l19 : Option Value} {x : Int32} : mb_Rn d 90 415 [l0, l1, l2, l3, l4, l5, l6, l7, l8, l9, l10, l11, l12, l13, l14, l15, some (.int x), l17, l18, l19] st σ Q = mb_Rn d 90 417 [l0, l1, l2, l3, l4, l5, l6, l7, l8, l9, l10, l11, l12, l13, l14, l15, some (.int x), l17, l18, l19] (.int x :: st) σ Q := rn_step rfl (fun _ _ => rfl)
set_option maxRecDepth 20000 in
theorem sL_law_417 {d : Nat} {Q : mb_O → mb_S → Prop} {σ : mb_S} {st : List Value} {ls : mb_L} : mb_Rn d 90 417 ls st σ Q = mb_Rn d 90 418 ls (.int 1 :: st) σ Q := rn_step rfl (fun _ _ => rfl)
set_option maxRecDepth 20000 in
theorem sL_law_418 {d : Nat} {Q : mb_O → mb_S → Prop} {σ : mb_S} {st : List Value} {ls : mb_L} {x z : Int32} : mb_Rn d 90 418 ls (.int z :: .int x :: st) σ Q = if x = z then mb_Rn d 90 421 ls st σ Q else mb_Rn d 90 454 ls st σ Q := rn_ifn rfl (fun _ _ => rfl) bne_iff_ne
set_option maxRecDepth 20000 in
theorem sL_law_421 {d : Nat} {Q : mb_O → mb_S → Prop} {σ : mb_S} {st : List Value} {l0 l2 l3 l4 l5 l6 l7 l8 l9 l10 l11 l12 l13 l14 l15 l16 l17 l18 l19 : Option Value} {a : Nat} : mb_Rn d 90 421 [l0, some (.ref a), l2, l3, l4, l5, l6, l7, l8, l9, l10, l11, l12, l13, l14, l15, l16, l17, l18, l19] st σ Q = mb_Rn d 90 422 [l0, some (.ref a), l2, l3, l4, l5, l6, l7, l8, l9, l10, l11, l12, l13, l14, l15, l16, l17, l18, l19] (.ref a :: st) σ Q := rn_step rfl (fun _ _ => rfl)
set_option maxRecDepth 20000 in
theorem sL_law_421n {d : Nat} {Q : mb_O → mb_S → Prop} {σ : mb_S} {st : List Value} {l0 l2 l3 l4 l5 l6 l7 l8 l9 l10 l11 l12 l13 l14 l15 l16 l17 l18 l19 : Option Value} : mb_Rn d 90 421 [l0, some (.null), l2, l3, l4, l5, l6, l7, l8, l9, l10, l11, l12, l13, l14, l15, l16, l17, l18, l19] st σ Q = mb_Rn d 90 422 [l0, some (.null), l2, l3, l4, l5, l6, l7, l8, l9, l10, l11, l12, l13, l14, l15, l16, l17, l18, l19] (.null :: st) σ Q := rn_step rfl (fun _ _ => rfl)
set_option maxRecDepth 20000 in
theorem sL_law_422 {d : Nat} {Q : mb_O → mb_S → Prop} {σ : mb_S} {st : List Value} {ls : mb_L} : mb_Rn d 90 422 ls st σ Q = mb_Rn d 90 423 ls (.int 2 :: st) σ Q := rn_step rfl (fun _ _ => rfl)
set_option maxRecDepth 20000 in
theorem sL_law_423 {d : Nat} {Q : mb_O → mb_S → Prop} {σ : mb_S} {st : List Value} {l0 l1 l2 l3 l4 l5 l6 l7 l8 l9 l10 l11 l12 l13 l15 l16 l17 l18 l19 : Option Value} {x : Int32} : mb_Rn d 90 423 [l0, l1, l2, l3, l4, l5, l6, l7, l8, l9, l10, l11, l12, l13, some (.int x), l15, l16, l17, l18, l19] st σ Q = mb_Rn d 90 425 [l0, l1, l2, l3, l4, l5, l6, l7, l8, l9, l10, l11, l12, l13, some (.int x), l15, l16, l17, l18, l19] (.int x :: st) σ Q := rn_step rfl (fun _ _ => rfl)
set_option maxRecDepth 20000 in
theorem sL_law_425 {d : Nat} {Q : mb_O → mb_S → Prop} {σ : mb_S} {st : List Value} {l0 l1 l2 l3 l4 l5 l6 l7 l8 l9 l10 l11 l13 l14 l15 l16 l17 l18 l19 : Option Value} {x : Int32} : mb_Rn d 90 425 [l0, l1, l2, l3, l4, l5, l6, l7, l8, l9, l10, l11, some (.int x), l13, l14, l15, l16, l17, l18, l19] st σ Q = mb_Rn d 90 427 [l0, l1, l2, l3, l4, l5, l6, l7, l8, l9, l10, l11, some (.int x), l13, l14, l15, l16, l17, l18, l19] (.int x :: st) σ Q := rn_step rfl (fun _ _ => rfl)
set_option maxRecDepth 20000 in
theorem sL_law_427 {d : Nat} {Q : mb_O → mb_S → Prop} {σ : mb_S} {st : List Value} {ls : mb_L} : mb_Rn d 90 427 ls st σ Q = mb_Rn d 90 428 ls (.int 2 :: st) σ Q := rn_step rfl (fun _ _ => rfl)
set_option maxRecDepth 20000 in
theorem sL_law_428 {d : Nat} {Q : mb_O → mb_S → Prop} {σ : mb_S} {st : List Value} {ls : mb_L} {x z : Int32} : mb_Rn d 90 428 ls (.int z :: .int x :: st) σ Q = mb_Rn d 90 429 ls (.int (x >>> (z &&& 31)) :: st) σ Q := rn_step rfl (fun _ _ => rfl)
set_option maxRecDepth 20000 in
theorem sL_law_429 {d : Nat} {Q : mb_O → mb_S → Prop} {σ : mb_S} {st : List Value} {l0 l1 l2 l3 l4 l5 l7 l8 l9 l10 l11 l12 l13 l14 l15 l16 l17 l18 l19 : Option Value} {a : Nat} : mb_Rn d 90 429 [l0, l1, l2, l3, l4, l5, some (.ref a), l7, l8, l9, l10, l11, l12, l13, l14, l15, l16, l17, l18, l19] st σ Q = mb_Rn d 90 431 [l0, l1, l2, l3, l4, l5, some (.ref a), l7, l8, l9, l10, l11, l12, l13, l14, l15, l16, l17, l18, l19] (.ref a :: st) σ Q := rn_step rfl (fun _ _ => rfl)
set_option maxRecDepth 20000 in
theorem sL_law_429n {d : Nat} {Q : mb_O → mb_S → Prop} {σ : mb_S} {st : List Value} {l0 l1 l2 l3 l4 l5 l7 l8 l9 l10 l11 l12 l13 l14 l15 l16 l17 l18 l19 : Option Value} : mb_Rn d 90 429 [l0, l1, l2, l3, l4, l5, some (.null), l7, l8, l9, l10, l11, l12, l13, l14, l15, l16, l17, l18, l19] st σ Q = mb_Rn d 90 431 [l0, l1, l2, l3, l4, l5, some (.null), l7, l8, l9, l10, l11, l12, l13, l14, l15, l16, l17, l18, l19] (.null :: st) σ Q := rn_step rfl (fun _ _ => rfl)
set_option maxRecDepth 20000 in
theorem sL_law_431 {d : Nat} {Q : mb_O → mb_S → Prop} {σ : mb_S} {st : List Value} {l0 l1 l2 l3 l4 l5 l6 l7 l8 l9 l10 l11 l12 l13 l15 l16 l17 l18 l19 : Option Value} {x : Int32} : mb_Rn d 90 431 [l0, l1, l2, l3, l4, l5, l6, l7, l8, l9, l10, l11, l12, l13, some (.int x), l15, l16, l17, l18, l19] st σ Q = mb_Rn d 90 433 [l0, l1, l2, l3, l4, l5, l6, l7, l8, l9, l10, l11, l12, l13, some (.int x), l15, l16, l17, l18, l19] (.int x :: st) σ Q := rn_step rfl (fun _ _ => rfl)
set_option maxRecDepth 20000 in
theorem sL_law_433 {d : Nat} {Q : mb_O → mb_S → Prop} {σ : mb_S} {st : List Value} {ls : mb_L} {a : Nat} {j : Int32} : mb_Rn d 90 433 ls (.int j :: .ref a :: st) σ Q = mb_gi σ a j False (fun kd _ f => if kd = 0 ∨ kd = 9 then mb_Rn d 90 434 ls (.int (f j.toNatClampNeg) :: st) σ Q else False) := rn_iald rfl
set_option maxRecDepth 20000 in
theorem sL_law_434 {d : Nat} {Q : mb_O → mb_S → Prop} {σ : mb_S} {st : List Value} {ls : mb_L} {x z : Int32} : mb_Rn d 90 434 ls (.int z :: .int x :: st) σ Q = if z = 0 then False else mb_Rn d 90 435 ls (.int (x % z) :: st) σ Q := rn_ite (f := fun _ => none) rfl (fun _ _ => rfl) ok_none rfl
set_option maxRecDepth 20000 in
theorem sL_law_435 {d : Nat} {Q : mb_O → mb_S → Prop} {σ : mb_S} {st : List Value} {l0 l1 l2 l3 l4 l5 l6 l7 l8 l9 l10 l11 l13 l14 l15 l16 l17 l18 l19 : Option Value} {x : Int32} : mb_Rn d 90 435 [l0, l1, l2, l3, l4, l5, l6, l7, l8, l9, l10, l11, some (.int x), l13, l14, l15, l16, l17, l18, l19] st σ Q = mb_Rn d 90 437 [l0, l1, l2, l3, l4, l5, l6, l7, l8, l9, l10, l11, some (.int x), l13, l14, l15, l16, l17, l18, l19] (.int x :: st) σ Q := rn_step rfl (fun _ _ => rfl)
set_option maxRecDepth 20000 in
theorem sL_law_437 {d : Nat} {Q : mb_O → mb_S → Prop} {σ : mb_S} {st : List Value} {ls : mb_L} : mb_Rn d 90 437 ls st σ Q = mb_Rn d 90 438 ls (.int 5 :: st) σ Q := rn_step rfl (fun _ _ => rfl)
set_option maxRecDepth 20000 in
theorem sL_law_438 {d : Nat} {Q : mb_O → mb_S → Prop} {σ : mb_S} {st : List Value} {ls : mb_L} {x z : Int32} : mb_Rn d 90 438 ls (.int z :: .int x :: st) σ Q = mb_Rn d 90 439 ls (.int (x >>> (z &&& 31)) :: st) σ Q := rn_step rfl (fun _ _ => rfl)
set_option maxRecDepth 20000 in
theorem sL_law_439 {d : Nat} {Q : mb_O → mb_S → Prop} {σ : mb_S} {st : List Value} {ls : mb_L} : mb_Rn d 90 439 ls st σ Q = mb_Rn d 90 441 ls (.int 12 :: st) σ Q := rn_step rfl (fun _ _ => rfl)
set_option maxRecDepth 20000 in
theorem sL_law_441 {d : Nat} {Q : mb_O → mb_S → Prop} {σ : mb_S} {st : List Value} {ls : mb_L} {x z : Int32} : mb_Rn d 90 441 ls (.int z :: .int x :: st) σ Q = if z = 0 then False else mb_Rn d 90 442 ls (.int (x % z) :: st) σ Q := rn_ite (f := fun _ => none) rfl (fun _ _ => rfl) ok_none rfl
set_option maxRecDepth 20000 in
theorem sL_law_442 {d : Nat} {Q : mb_O → mb_S → Prop} {σ : mb_S} {st : List Value} {ls : mb_L} : mb_Rn d 90 442 ls st σ Q = mb_Rn d 90 443 ls (.int 0 :: st) σ Q := rn_step rfl (fun _ _ => rfl)
set_option maxRecDepth 20000 in
theorem sL_law_443 {d : Nat} {Q : mb_O → mb_S → Prop} {σ : mb_S} {st : List Value} {ls : mb_L} : mb_Rn d 90 443 ls st σ Q = mb_Rn d 90 444 ls (.int 0 :: st) σ Q := rn_step rfl (fun _ _ => rfl)
set_option maxRecDepth 20000 in
theorem sL_law_444 {d : Nat} {Q : mb_O → mb_S → Prop} {σ : mb_S} {st : List Value} {ls : mb_L} {p0 : Nat} {p1 : Int32} {p2 : Int32} {p3 : Int32} {p4 : Int32} {p5 : Int32} {p6 : Int32} (hd : 1 ≤ d) (h4 : st.length ≤ 4) : mb_Rn d 90 444 ls (.int p6 :: .int p5 :: .int p4 :: .int p3 :: .int p2 :: .int p1 :: .ref p0 :: st) σ Q = mb_Ex (d - 1) 86 [.ref p0, .int p1, .int p2, .int p3, .int p4, .int p5, .int p6] σ (mb_qk d 90 447 ls st Q) := rn_calls mb_good rfl hd rfl rfl ⟨rfl, rfl⟩ h4 ⟨Nat.le_of_ble_eq_true rfl, rfl⟩
set_option maxRecDepth 20000 in
theorem sL_law_447 {d : Nat} {Q : mb_O → mb_S → Prop} {σ : mb_S} {st : List Value} {ls : mb_L} {x : Int32} : mb_Rn d 90 447 ls (.int x :: st) σ Q = if x = 0 then mb_Rn d 90 450 ls st σ Q else mb_Rn d 90 454 ls st σ Q := rn_ifn rfl (fun _ _ => rfl) bne_iff_ne
set_option maxRecDepth 20000 in
theorem sL_law_450 {d : Nat} {Q : mb_O → mb_S → Prop} {σ : mb_S} {st : List Value} {ls : mb_L} : mb_Rn d 90 450 ls st σ Q = mb_Rn d 90 451 ls (.int 1 :: st) σ Q := rn_step rfl (fun _ _ => rfl)
set_option maxRecDepth 20000 in
theorem sL_law_451 {d : Nat} {Q : mb_O → mb_S → Prop} {σ : mb_S} {st : List Value} {ls : mb_L} : mb_Rn d 90 451 ls st σ Q = mb_Rn d 90 455 ls st σ Q := rn_step rfl (fun _ _ => rfl)
set_option maxRecDepth 20000 in
theorem sL_law_454 {d : Nat} {Q : mb_O → mb_S → Prop} {σ : mb_S} {st : List Value} {ls : mb_L} : mb_Rn d 90 454 ls st σ Q = mb_Rn d 90 455 ls (.int 0 :: st) σ Q := rn_step rfl (fun _ _ => rfl)
set_option maxRecDepth 20000 in
theorem sL_law_455 {d : Nat} {Q : mb_O → mb_S → Prop} {σ : mb_S} {st : List Value} {l0 l1 l2 l3 l4 l5 l6 l7 l8 l9 l10 l11 l12 l13 l14 l15 l16 l17 l18 l19 : Option Value} {x : Int32} : mb_Rn d 90 455 [l0, l1, l2, l3, l4, l5, l6, l7, l8, l9, l10, l11, l12, l13, l14, l15, l16, l17, l18, l19] (.int x :: st) σ Q = mb_Rn d 90 457 [l0, l1, l2, l3, l4, l5, l6, l7, l8, some (.int x), l10, l11, l12, l13, l14, l15, l16, l17, l18, l19] st σ Q := rn_step rfl (fun _ _ => rfl)
set_option maxRecDepth 20000 in
theorem sL_law_457 {d : Nat} {Q : mb_O → mb_S → Prop} {σ : mb_S} {st : List Value} {ls : mb_L} : mb_Rn d 90 457 ls st σ Q = mb_Rn d 90 1268 ls st σ Q := rn_step rfl (fun _ _ => rfl)
set_option maxRecDepth 20000 in
theorem sL_law_460 {d : Nat} {Q : mb_O → mb_S → Prop} {σ : mb_S} {st : List Value} {l0 l1 l2 l3 l4 l5 l6 l7 l8 l9 l10 l11 l12 l14 l15 l16 l17 l18 l19 : Option Value} {x : Int32} : mb_Rn d 90 460 [l0, l1, l2, l3, l4, l5, l6, l7, l8, l9, l10, l11, l12, some (.int x), l14, l15, l16, l17, l18, l19] st σ Q = mb_Rn d 90 462 [l0, l1, l2, l3, l4, l5, l6, l7, l8, l9, l10, l11, l12, some (.int x), l14, l15, l16, l17, l18, l19] (.int x :: st) σ Q := rn_step rfl (fun _ _ => rfl)
set_option maxRecDepth 20000 in
theorem sL_law_462 {d : Nat} {Q : mb_O → mb_S → Prop} {σ : mb_S} {st : List Value} {ls : mb_L} : mb_Rn d 90 462 ls st σ Q = mb_Rn d 90 464 ls (.int 16 :: st) σ Q := rn_step rfl (fun _ _ => rfl)
set_option maxRecDepth 20000 in
theorem sL_law_464 {d : Nat} {Q : mb_O → mb_S → Prop} {σ : mb_S} {st : List Value} {ls : mb_L} {x z : Int32} : mb_Rn d 90 464 ls (.int z :: .int x :: st) σ Q = if z ≤ x then mb_Rn d 90 558 ls st σ Q else mb_Rn d 90 467 ls st σ Q := rn_ifb rfl (fun _ _ => rfl) decide_eq_true_iff
set_option maxRecDepth 20000 in
theorem sL_law_467 {d : Nat} {Q : mb_O → mb_S → Prop} {σ : mb_S} {st : List Value} {l0 l1 l2 l3 l4 l6 l7 l8 l9 l10 l11 l12 l13 l14 l15 l16 l17 l18 l19 : Option Value} {a : Nat} : mb_Rn d 90 467 [l0, l1, l2, l3, l4, some (.ref a), l6, l7, l8, l9, l10, l11, l12, l13, l14, l15, l16, l17, l18, l19] st σ Q = mb_Rn d 90 469 [l0, l1, l2, l3, l4, some (.ref a), l6, l7, l8, l9, l10, l11, l12, l13, l14, l15, l16, l17, l18, l19] (.ref a :: st) σ Q := rn_step rfl (fun _ _ => rfl)
set_option maxRecDepth 20000 in
theorem sL_law_467n {d : Nat} {Q : mb_O → mb_S → Prop} {σ : mb_S} {st : List Value} {l0 l1 l2 l3 l4 l6 l7 l8 l9 l10 l11 l12 l13 l14 l15 l16 l17 l18 l19 : Option Value} : mb_Rn d 90 467 [l0, l1, l2, l3, l4, some (.null), l6, l7, l8, l9, l10, l11, l12, l13, l14, l15, l16, l17, l18, l19] st σ Q = mb_Rn d 90 469 [l0, l1, l2, l3, l4, some (.null), l6, l7, l8, l9, l10, l11, l12, l13, l14, l15, l16, l17, l18, l19] (.null :: st) σ Q := rn_step rfl (fun _ _ => rfl)
set_option maxRecDepth 20000 in
theorem sL_law_469 {d : Nat} {Q : mb_O → mb_S → Prop} {σ : mb_S} {st : List Value} {l0 l1 l2 l3 l4 l5 l6 l7 l8 l9 l10 l11 l12 l13 l15 l16 l17 l18 l19 : Option Value} {x : Int32} : mb_Rn d 90 469 [l0, l1, l2, l3, l4, l5, l6, l7, l8, l9, l10, l11, l12, l13, some (.int x), l15, l16, l17, l18, l19] st σ Q = mb_Rn d 90 471 [l0, l1, l2, l3, l4, l5, l6, l7, l8, l9, l10, l11, l12, l13, some (.int x), l15, l16, l17, l18, l19] (.int x :: st) σ Q := rn_step rfl (fun _ _ => rfl)
set_option maxRecDepth 20000 in
theorem sL_law_471 {d : Nat} {Q : mb_O → mb_S → Prop} {σ : mb_S} {st : List Value} {ls : mb_L} {a : Nat} {j : Int32} : mb_Rn d 90 471 ls (.int j :: .ref a :: st) σ Q = mb_gi σ a j False (fun kd _ f => if kd = 0 ∨ kd = 9 then mb_Rn d 90 472 ls (.int (f j.toNatClampNeg) :: st) σ Q else False) := rn_iald rfl
set_option maxRecDepth 20000 in
theorem sL_law_472 {d : Nat} {Q : mb_O → mb_S → Prop} {σ : mb_S} {st : List Value} {ls : mb_L} : mb_Rn d 90 472 ls st σ Q = mb_Rn d 90 474 ls (.int 12 :: st) σ Q := rn_step rfl (fun _ _ => rfl)
set_option maxRecDepth 20000 in
theorem sL_law_474 {d : Nat} {Q : mb_O → mb_S → Prop} {σ : mb_S} {st : List Value} {ls : mb_L} {x z : Int32} : mb_Rn d 90 474 ls (.int z :: .int x :: st) σ Q = if z ≤ x then mb_Rn d 90 558 ls st σ Q else mb_Rn d 90 477 ls st σ Q := rn_ifb rfl (fun _ _ => rfl) decide_eq_true_iff
set_option maxRecDepth 20000 in
theorem sL_law_477 {d : Nat} {Q : mb_O → mb_S → Prop} {σ : mb_S} {st : List Value} {l0 l2 l3 l4 l5 l6 l7 l8 l9 l10 l11 l12 l13 l14 l15 l16 l17 l18 l19 : Option Value} {a : Nat} : mb_Rn d 90 477 [l0, some (.ref a), l2, l3, l4, l5, l6, l7, l8, l9, l10, l11, l12, l13, l14, l15, l16, l17, l18, l19] st σ Q = mb_Rn d 90 478 [l0, some (.ref a), l2, l3, l4, l5, l6, l7, l8, l9, l10, l11, l12, l13, l14, l15, l16, l17, l18, l19] (.ref a :: st) σ Q := rn_step rfl (fun _ _ => rfl)
set_option maxRecDepth 20000 in
theorem sL_law_477n {d : Nat} {Q : mb_O → mb_S → Prop} {σ : mb_S} {st : List Value} {l0 l2 l3 l4 l5 l6 l7 l8 l9 l10 l11 l12 l13 l14 l15 l16 l17 l18 l19 : Option Value} : mb_Rn d 90 477 [l0, some (.null), l2, l3, l4, l5, l6, l7, l8, l9, l10, l11, l12, l13, l14, l15, l16, l17, l18, l19] st σ Q = mb_Rn d 90 478 [l0, some (.null), l2, l3, l4, l5, l6, l7, l8, l9, l10, l11, l12, l13, l14, l15, l16, l17, l18, l19] (.null :: st) σ Q := rn_step rfl (fun _ _ => rfl)
set_option maxRecDepth 20000 in
theorem sL_law_478 {d : Nat} {Q : mb_O → mb_S → Prop} {σ : mb_S} {st : List Value} {ls : mb_L} : mb_Rn d 90 478 ls st σ Q = mb_Rn d 90 479 ls (.int 3 :: st) σ Q := rn_step rfl (fun _ _ => rfl)
set_option maxRecDepth 20000 in
theorem sL_law_479 {d : Nat} {Q : mb_O → mb_S → Prop} {σ : mb_S} {st : List Value} {l0 l1 l2 l3 l4 l5 l6 l7 l8 l9 l10 l11 l12 l13 l15 l16 l17 l18 l19 : Option Value} {x : Int32} : mb_Rn d 90 479 [l0, l1, l2, l3, l4, l5, l6, l7, l8, l9, l10, l11, l12, l13, some (.int x), l15, l16, l17, l18, l19] st σ Q = mb_Rn d 90 481 [l0, l1, l2, l3, l4, l5, l6, l7, l8, l9, l10, l11, l12, l13, some (.int x), l15, l16, l17, l18, l19] (.int x :: st) σ Q := rn_step rfl (fun _ _ => rfl)
set_option maxRecDepth 20000 in
theorem sL_law_481 {d : Nat} {Q : mb_O → mb_S → Prop} {σ : mb_S} {st : List Value} {ls : mb_L} : mb_Rn d 90 481 ls st σ Q = mb_Rn d 90 482 ls (.int 0 :: st) σ Q := rn_step rfl (fun _ _ => rfl)
set_option maxRecDepth 20000 in
theorem sL_law_482 {d : Nat} {Q : mb_O → mb_S → Prop} {σ : mb_S} {st : List Value} {ls : mb_L} : mb_Rn d 90 482 ls st σ Q = mb_Rn d 90 483 ls (.int 0 :: st) σ Q := rn_step rfl (fun _ _ => rfl)
set_option maxRecDepth 20000 in
theorem sL_law_483 {d : Nat} {Q : mb_O → mb_S → Prop} {σ : mb_S} {st : List Value} {ls : mb_L} : mb_Rn d 90 483 ls st σ Q = mb_Rn d 90 484 ls (.int 0 :: st) σ Q := rn_step rfl (fun _ _ => rfl)
set_option maxRecDepth 20000 in
theorem sL_law_484 {d : Nat} {Q : mb_O → mb_S → Prop} {σ : mb_S} {st : List Value} {ls : mb_L} : mb_Rn d 90 484 ls st σ Q = mb_Rn d 90 485 ls (.int 0 :: st) σ Q := rn_step rfl (fun _ _ => rfl)
set_option maxRecDepth 20000 in
theorem sL_law_485 {d : Nat} {Q : mb_O → mb_S → Prop} {σ : mb_S} {st : List Value} {ls : mb_L} {p0 : Nat} {p1 : Int32} {p2 : Int32} {p3 : Int32} {p4 : Int32} {p5 : Int32} {p6 : Int32} (hd : 1 ≤ d) (h4 : st.length ≤ 4) : mb_Rn d 90 485 ls (.int p6 :: .int p5 :: .int p4 :: .int p3 :: .int p2 :: .int p1 :: .ref p0 :: st) σ Q = mb_Ex (d - 1) 86 [.ref p0, .int p1, .int p2, .int p3, .int p4, .int p5, .int p6] σ (mb_qk d 90 488 ls st Q) := rn_calls mb_good rfl hd rfl rfl ⟨rfl, rfl⟩ h4 ⟨Nat.le_of_ble_eq_true rfl, rfl⟩
set_option maxRecDepth 20000 in
theorem sL_law_488 {d : Nat} {Q : mb_O → mb_S → Prop} {σ : mb_S} {st : List Value} {l0 l1 l2 l3 l4 l6 l7 l8 l9 l10 l11 l12 l13 l14 l15 l16 l17 l18 l19 : Option Value} {a : Nat} : mb_Rn d 90 488 [l0, l1, l2, l3, l4, some (.ref a), l6, l7, l8, l9, l10, l11, l12, l13, l14, l15, l16, l17, l18, l19] st σ Q = mb_Rn d 90 490 [l0, l1, l2, l3, l4, some (.ref a), l6, l7, l8, l9, l10, l11, l12, l13, l14, l15, l16, l17, l18, l19] (.ref a :: st) σ Q := rn_step rfl (fun _ _ => rfl)
set_option maxRecDepth 20000 in
theorem sL_law_488n {d : Nat} {Q : mb_O → mb_S → Prop} {σ : mb_S} {st : List Value} {l0 l1 l2 l3 l4 l6 l7 l8 l9 l10 l11 l12 l13 l14 l15 l16 l17 l18 l19 : Option Value} : mb_Rn d 90 488 [l0, l1, l2, l3, l4, some (.null), l6, l7, l8, l9, l10, l11, l12, l13, l14, l15, l16, l17, l18, l19] st σ Q = mb_Rn d 90 490 [l0, l1, l2, l3, l4, some (.null), l6, l7, l8, l9, l10, l11, l12, l13, l14, l15, l16, l17, l18, l19] (.null :: st) σ Q := rn_step rfl (fun _ _ => rfl)
set_option maxRecDepth 20000 in
theorem sL_law_490 {d : Nat} {Q : mb_O → mb_S → Prop} {σ : mb_S} {st : List Value} {l0 l1 l2 l3 l4 l5 l6 l7 l8 l9 l10 l11 l12 l13 l15 l16 l17 l18 l19 : Option Value} {x : Int32} : mb_Rn d 90 490 [l0, l1, l2, l3, l4, l5, l6, l7, l8, l9, l10, l11, l12, l13, some (.int x), l15, l16, l17, l18, l19] st σ Q = mb_Rn d 90 492 [l0, l1, l2, l3, l4, l5, l6, l7, l8, l9, l10, l11, l12, l13, some (.int x), l15, l16, l17, l18, l19] (.int x :: st) σ Q := rn_step rfl (fun _ _ => rfl)
set_option maxRecDepth 20000 in
theorem sL_law_492 {d : Nat} {Q : mb_O → mb_S → Prop} {σ : mb_S} {st : List Value} {ls : mb_L} {a : Nat} {j : Int32} : mb_Rn d 90 492 ls (.int j :: .ref a :: st) σ Q = mb_gi σ a j False (fun kd _ f => if kd = 0 ∨ kd = 9 then mb_Rn d 90 493 ls (.int (f j.toNatClampNeg) :: st) σ Q else False) := rn_iald rfl
set_option maxRecDepth 20000 in
theorem sL_law_493 {d : Nat} {Q : mb_O → mb_S → Prop} {σ : mb_S} {st : List Value} {ls : mb_L} {x z : Int32} : mb_Rn d 90 493 ls (.int z :: .int x :: st) σ Q = if x = z then mb_Rn d 90 496 ls st σ Q else mb_Rn d 90 500 ls st σ Q := rn_ifn rfl (fun _ _ => rfl) bne_iff_ne
set_option maxRecDepth 20000 in
theorem sL_law_496 {d : Nat} {Q : mb_O → mb_S → Prop} {σ : mb_S} {st : List Value} {ls : mb_L} : mb_Rn d 90 496 ls st σ Q = mb_Rn d 90 497 ls (.int 1 :: st) σ Q := rn_step rfl (fun _ _ => rfl)
set_option maxRecDepth 20000 in
theorem sL_law_497 {d : Nat} {Q : mb_O → mb_S → Prop} {σ : mb_S} {st : List Value} {ls : mb_L} : mb_Rn d 90 497 ls st σ Q = mb_Rn d 90 501 ls st σ Q := rn_step rfl (fun _ _ => rfl)
set_option maxRecDepth 20000 in
theorem sL_law_500 {d : Nat} {Q : mb_O → mb_S → Prop} {σ : mb_S} {st : List Value} {ls : mb_L} : mb_Rn d 90 500 ls st σ Q = mb_Rn d 90 501 ls (.int 0 :: st) σ Q := rn_step rfl (fun _ _ => rfl)
set_option maxRecDepth 20000 in
theorem sL_law_501 {d : Nat} {Q : mb_O → mb_S → Prop} {σ : mb_S} {st : List Value} {l0 l1 l2 l3 l4 l5 l6 l7 l8 l9 l10 l11 l12 l13 l14 l15 l16 l17 l18 l19 : Option Value} {x : Int32} : mb_Rn d 90 501 [l0, l1, l2, l3, l4, l5, l6, l7, l8, l9, l10, l11, l12, l13, l14, l15, l16, l17, l18, l19] (.int x :: st) σ Q = mb_Rn d 90 503 [l0, l1, l2, l3, l4, l5, l6, l7, l8, some (.int x), l10, l11, l12, l13, l14, l15, l16, l17, l18, l19] st σ Q := rn_step rfl (fun _ _ => rfl)
set_option maxRecDepth 20000 in
theorem sL_law_503 {d : Nat} {Q : mb_O → mb_S → Prop} {σ : mb_S} {st : List Value} {l0 l1 l2 l4 l5 l6 l7 l8 l9 l10 l11 l12 l13 l14 l15 l16 l17 l18 l19 : Option Value} {a : Nat} : mb_Rn d 90 503 [l0, l1, l2, some (.ref a), l4, l5, l6, l7, l8, l9, l10, l11, l12, l13, l14, l15, l16, l17, l18, l19] st σ Q = mb_Rn d 90 504 [l0, l1, l2, some (.ref a), l4, l5, l6, l7, l8, l9, l10, l11, l12, l13, l14, l15, l16, l17, l18, l19] (.ref a :: st) σ Q := rn_step rfl (fun _ _ => rfl)
set_option maxRecDepth 20000 in
theorem sL_law_503n {d : Nat} {Q : mb_O → mb_S → Prop} {σ : mb_S} {st : List Value} {l0 l1 l2 l4 l5 l6 l7 l8 l9 l10 l11 l12 l13 l14 l15 l16 l17 l18 l19 : Option Value} : mb_Rn d 90 503 [l0, l1, l2, some (.null), l4, l5, l6, l7, l8, l9, l10, l11, l12, l13, l14, l15, l16, l17, l18, l19] st σ Q = mb_Rn d 90 504 [l0, l1, l2, some (.null), l4, l5, l6, l7, l8, l9, l10, l11, l12, l13, l14, l15, l16, l17, l18, l19] (.null :: st) σ Q := rn_step rfl (fun _ _ => rfl)
set_option maxRecDepth 20000 in
theorem sL_law_504 {d : Nat} {Q : mb_O → mb_S → Prop} {σ : mb_S} {st : List Value} {ls : mb_L} : mb_Rn d 90 504 ls st σ Q = mb_Rn d 90 506 ls (.int 12 :: st) σ Q := rn_step rfl (fun _ _ => rfl)
set_option maxRecDepth 20000 in
theorem sL_law_506 {d : Nat} {Q : mb_O → mb_S → Prop} {σ : mb_S} {st : List Value} {l0 l1 l2 l3 l4 l5 l6 l7 l8 l9 l10 l11 l12 l13 l15 l16 l17 l18 l19 : Option Value} {x : Int32} : mb_Rn d 90 506 [l0, l1, l2, l3, l4, l5, l6, l7, l8, l9, l10, l11, l12, l13, some (.int x), l15, l16, l17, l18, l19] st σ Q = mb_Rn d 90 508 [l0, l1, l2, l3, l4, l5, l6, l7, l8, l9, l10, l11, l12, l13, some (.int x), l15, l16, l17, l18, l19] (.int x :: st) σ Q := rn_step rfl (fun _ _ => rfl)
set_option maxRecDepth 20000 in
theorem sL_law_508 {d : Nat} {Q : mb_O → mb_S → Prop} {σ : mb_S} {st : List Value} {ls : mb_L} {x z : Int32} : mb_Rn d 90 508 ls (.int z :: .int x :: st) σ Q = mb_Rn d 90 509 ls (.int (x * z) :: st) σ Q := rn_step rfl (fun _ _ => rfl)
set_option maxRecDepth 20000 in
theorem sL_law_509 {d : Nat} {Q : mb_O → mb_S → Prop} {σ : mb_S} {st : List Value} {l0 l1 l2 l3 l4 l6 l7 l8 l9 l10 l11 l12 l13 l14 l15 l16 l17 l18 l19 : Option Value} {a : Nat} : mb_Rn d 90 509 [l0, l1, l2, l3, l4, some (.ref a), l6, l7, l8, l9, l10, l11, l12, l13, l14, l15, l16, l17, l18, l19] st σ Q = mb_Rn d 90 511 [l0, l1, l2, l3, l4, some (.ref a), l6, l7, l8, l9, l10, l11, l12, l13, l14, l15, l16, l17, l18, l19] (.ref a :: st) σ Q := rn_step rfl (fun _ _ => rfl)
set_option maxRecDepth 20000 in
theorem sL_law_509n {d : Nat} {Q : mb_O → mb_S → Prop} {σ : mb_S} {st : List Value} {l0 l1 l2 l3 l4 l6 l7 l8 l9 l10 l11 l12 l13 l14 l15 l16 l17 l18 l19 : Option Value} : mb_Rn d 90 509 [l0, l1, l2, l3, l4, some (.null), l6, l7, l8, l9, l10, l11, l12, l13, l14, l15, l16, l17, l18, l19] st σ Q = mb_Rn d 90 511 [l0, l1, l2, l3, l4, some (.null), l6, l7, l8, l9, l10, l11, l12, l13, l14, l15, l16, l17, l18, l19] (.null :: st) σ Q := rn_step rfl (fun _ _ => rfl)
set_option maxRecDepth 20000 in
theorem sL_law_511 {d : Nat} {Q : mb_O → mb_S → Prop} {σ : mb_S} {st : List Value} {l0 l1 l2 l3 l4 l5 l6 l7 l8 l9 l10 l11 l12 l13 l15 l16 l17 l18 l19 : Option Value} {x : Int32} : mb_Rn d 90 511 [l0, l1, l2, l3, l4, l5, l6, l7, l8, l9, l10, l11, l12, l13, some (.int x), l15, l16, l17, l18, l19] st σ Q = mb_Rn d 90 513 [l0, l1, l2, l3, l4, l5, l6, l7, l8, l9, l10, l11, l12, l13, some (.int x), l15, l16, l17, l18, l19] (.int x :: st) σ Q := rn_step rfl (fun _ _ => rfl)
set_option maxRecDepth 20000 in
theorem sL_law_513 {d : Nat} {Q : mb_O → mb_S → Prop} {σ : mb_S} {st : List Value} {ls : mb_L} {a : Nat} {j : Int32} : mb_Rn d 90 513 ls (.int j :: .ref a :: st) σ Q = mb_gi σ a j False (fun kd _ f => if kd = 0 ∨ kd = 9 then mb_Rn d 90 514 ls (.int (f j.toNatClampNeg) :: st) σ Q else False) := rn_iald rfl
set_option maxRecDepth 20000 in
theorem sL_law_514 {d : Nat} {Q : mb_O → mb_S → Prop} {σ : mb_S} {st : List Value} {ls : mb_L} {x z : Int32} : mb_Rn d 90 514 ls (.int z :: .int x :: st) σ Q = mb_Rn d 90 515 ls (.int (x + z) :: st) σ Q := rn_step rfl (fun _ _ => rfl)
set_option maxRecDepth 20000 in
theorem sL_law_515 {d : Nat} {Q : mb_O → mb_S → Prop} {σ : mb_S} {st : List Value} {l0 l1 l2 l3 l4 l5 l7 l8 l9 l10 l11 l12 l13 l14 l15 l16 l17 l18 l19 : Option Value} {a : Nat} : mb_Rn d 90 515 [l0, l1, l2, l3, l4, l5, some (.ref a), l7, l8, l9, l10, l11, l12, l13, l14, l15, l16, l17, l18, l19] st σ Q = mb_Rn d 90 517 [l0, l1, l2, l3, l4, l5, some (.ref a), l7, l8, l9, l10, l11, l12, l13, l14, l15, l16, l17, l18, l19] (.ref a :: st) σ Q := rn_step rfl (fun _ _ => rfl)
set_option maxRecDepth 20000 in
theorem sL_law_515n {d : Nat} {Q : mb_O → mb_S → Prop} {σ : mb_S} {st : List Value} {l0 l1 l2 l3 l4 l5 l7 l8 l9 l10 l11 l12 l13 l14 l15 l16 l17 l18 l19 : Option Value} : mb_Rn d 90 515 [l0, l1, l2, l3, l4, l5, some (.null), l7, l8, l9, l10, l11, l12, l13, l14, l15, l16, l17, l18, l19] st σ Q = mb_Rn d 90 517 [l0, l1, l2, l3, l4, l5, some (.null), l7, l8, l9, l10, l11, l12, l13, l14, l15, l16, l17, l18, l19] (.null :: st) σ Q := rn_step rfl (fun _ _ => rfl)
set_option maxRecDepth 20000 in
theorem sL_law_517 {d : Nat} {Q : mb_O → mb_S → Prop} {σ : mb_S} {st : List Value} {l0 l1 l2 l3 l4 l5 l6 l7 l8 l9 l10 l11 l12 l13 l15 l16 l17 l18 l19 : Option Value} {x : Int32} : mb_Rn d 90 517 [l0, l1, l2, l3, l4, l5, l6, l7, l8, l9, l10, l11, l12, l13, some (.int x), l15, l16, l17, l18, l19] st σ Q = mb_Rn d 90 519 [l0, l1, l2, l3, l4, l5, l6, l7, l8, l9, l10, l11, l12, l13, some (.int x), l15, l16, l17, l18, l19] (.int x :: st) σ Q := rn_step rfl (fun _ _ => rfl)
set_option maxRecDepth 20000 in
theorem sL_law_519 {d : Nat} {Q : mb_O → mb_S → Prop} {σ : mb_S} {st : List Value} {ls : mb_L} {a : Nat} {j : Int32} : mb_Rn d 90 519 ls (.int j :: .ref a :: st) σ Q = mb_gi σ a j False (fun kd _ f => if kd = 0 ∨ kd = 9 then mb_Rn d 90 520 ls (.int (f j.toNatClampNeg) :: st) σ Q else False) := rn_iald rfl
set_option maxRecDepth 20000 in
theorem sL_law_520 {d : Nat} {Q : mb_O → mb_S → Prop} {σ : mb_S} {st : List Value} {ls : mb_L} {a : Nat} {j x : Int32} : mb_Rn d 90 520 ls (.int x :: .int j :: .ref a :: st) σ Q = mb_gi σ a j False (fun kd n f => if kd = 0 then mb_Rn d 90 521 ls st (mb_up σ a (.inl (0, n, .inl (upd f j.toNatClampNeg x)))) Q else False) := rn_iast rfl
set_option maxRecDepth 20000 in
theorem sL_law_521 {d : Nat} {Q : mb_O → mb_S → Prop} {σ : mb_S} {st : List Value} {l0 l1 l3 l4 l5 l6 l7 l8 l9 l10 l11 l12 l13 l14 l15 l16 l17 l18 l19 : Option Value} {a : Nat} : mb_Rn d 90 521 [l0, l1, some (.ref a), l3, l4, l5, l6, l7, l8, l9, l10, l11, l12, l13, l14, l15, l16, l17, l18, l19] st σ Q = mb_Rn d 90 522 [l0, l1, some (.ref a), l3, l4, l5, l6, l7, l8, l9, l10, l11, l12, l13, l14, l15, l16, l17, l18, l19] (.ref a :: st) σ Q := rn_step rfl (fun _ _ => rfl)
set_option maxRecDepth 20000 in
theorem sL_law_521n {d : Nat} {Q : mb_O → mb_S → Prop} {σ : mb_S} {st : List Value} {l0 l1 l3 l4 l5 l6 l7 l8 l9 l10 l11 l12 l13 l14 l15 l16 l17 l18 l19 : Option Value} : mb_Rn d 90 521 [l0, l1, some (.null), l3, l4, l5, l6, l7, l8, l9, l10, l11, l12, l13, l14, l15, l16, l17, l18, l19] st σ Q = mb_Rn d 90 522 [l0, l1, some (.null), l3, l4, l5, l6, l7, l8, l9, l10, l11, l12, l13, l14, l15, l16, l17, l18, l19] (.null :: st) σ Q := rn_step rfl (fun _ _ => rfl)
set_option maxRecDepth 20000 in
theorem sL_law_522 {d : Nat} {Q : mb_O → mb_S → Prop} {σ : mb_S} {st : List Value} {ls : mb_L} : mb_Rn d 90 522 ls st σ Q = mb_Rn d 90 524 ls (.int 12 :: st) σ Q := rn_step rfl (fun _ _ => rfl)
set_option maxRecDepth 20000 in
theorem sL_law_524 {d : Nat} {Q : mb_O → mb_S → Prop} {σ : mb_S} {st : List Value} {l0 l1 l2 l3 l4 l5 l6 l7 l8 l9 l10 l11 l12 l13 l15 l16 l17 l18 l19 : Option Value} {x : Int32} : mb_Rn d 90 524 [l0, l1, l2, l3, l4, l5, l6, l7, l8, l9, l10, l11, l12, l13, some (.int x), l15, l16, l17, l18, l19] st σ Q = mb_Rn d 90 526 [l0, l1, l2, l3, l4, l5, l6, l7, l8, l9, l10, l11, l12, l13, some (.int x), l15, l16, l17, l18, l19] (.int x :: st) σ Q := rn_step rfl (fun _ _ => rfl)
set_option maxRecDepth 20000 in
theorem sL_law_526 {d : Nat} {Q : mb_O → mb_S → Prop} {σ : mb_S} {st : List Value} {ls : mb_L} {x z : Int32} : mb_Rn d 90 526 ls (.int z :: .int x :: st) σ Q = mb_Rn d 90 527 ls (.int (x * z) :: st) σ Q := rn_step rfl (fun _ _ => rfl)
set_option maxRecDepth 20000 in
theorem sL_law_527 {d : Nat} {Q : mb_O → mb_S → Prop} {σ : mb_S} {st : List Value} {l0 l1 l2 l3 l4 l6 l7 l8 l9 l10 l11 l12 l13 l14 l15 l16 l17 l18 l19 : Option Value} {a : Nat} : mb_Rn d 90 527 [l0, l1, l2, l3, l4, some (.ref a), l6, l7, l8, l9, l10, l11, l12, l13, l14, l15, l16, l17, l18, l19] st σ Q = mb_Rn d 90 529 [l0, l1, l2, l3, l4, some (.ref a), l6, l7, l8, l9, l10, l11, l12, l13, l14, l15, l16, l17, l18, l19] (.ref a :: st) σ Q := rn_step rfl (fun _ _ => rfl)
set_option maxRecDepth 20000 in
theorem sL_law_527n {d : Nat} {Q : mb_O → mb_S → Prop} {σ : mb_S} {st : List Value} {l0 l1 l2 l3 l4 l6 l7 l8 l9 l10 l11 l12 l13 l14 l15 l16 l17 l18 l19 : Option Value} : mb_Rn d 90 527 [l0, l1, l2, l3, l4, some (.null), l6, l7, l8, l9, l10, l11, l12, l13, l14, l15, l16, l17, l18, l19] st σ Q = mb_Rn d 90 529 [l0, l1, l2, l3, l4, some (.null), l6, l7, l8, l9, l10, l11, l12, l13, l14, l15, l16, l17, l18, l19] (.null :: st) σ Q := rn_step rfl (fun _ _ => rfl)
set_option maxRecDepth 20000 in
theorem sL_law_529 {d : Nat} {Q : mb_O → mb_S → Prop} {σ : mb_S} {st : List Value} {l0 l1 l2 l3 l4 l5 l6 l7 l8 l9 l10 l11 l12 l13 l15 l16 l17 l18 l19 : Option Value} {x : Int32} : mb_Rn d 90 529 [l0, l1, l2, l3, l4, l5, l6, l7, l8, l9, l10, l11, l12, l13, some (.int x), l15, l16, l17, l18, l19] st σ Q = mb_Rn d 90 531 [l0, l1, l2, l3, l4, l5, l6, l7, l8, l9, l10, l11, l12, l13, some (.int x), l15, l16, l17, l18, l19] (.int x :: st) σ Q := rn_step rfl (fun _ _ => rfl)
set_option maxRecDepth 20000 in
theorem sL_law_531 {d : Nat} {Q : mb_O → mb_S → Prop} {σ : mb_S} {st : List Value} {ls : mb_L} {a : Nat} {j : Int32} : mb_Rn d 90 531 ls (.int j :: .ref a :: st) σ Q = mb_gi σ a j False (fun kd _ f => if kd = 0 ∨ kd = 9 then mb_Rn d 90 532 ls (.int (f j.toNatClampNeg) :: st) σ Q else False) := rn_iald rfl
set_option maxRecDepth 20000 in
theorem sL_law_532 {d : Nat} {Q : mb_O → mb_S → Prop} {σ : mb_S} {st : List Value} {ls : mb_L} {x z : Int32} : mb_Rn d 90 532 ls (.int z :: .int x :: st) σ Q = mb_Rn d 90 533 ls (.int (x + z) :: st) σ Q := rn_step rfl (fun _ _ => rfl)
set_option maxRecDepth 20000 in
theorem sL_law_533 {d : Nat} {Q : mb_O → mb_S → Prop} {σ : mb_S} {st : List Value} {l0 l2 l3 l4 l5 l6 l7 l8 l9 l10 l11 l12 l13 l14 l15 l16 l17 l18 l19 : Option Value} {a : Nat} : mb_Rn d 90 533 [l0, some (.ref a), l2, l3, l4, l5, l6, l7, l8, l9, l10, l11, l12, l13, l14, l15, l16, l17, l18, l19] st σ Q = mb_Rn d 90 534 [l0, some (.ref a), l2, l3, l4, l5, l6, l7, l8, l9, l10, l11, l12, l13, l14, l15, l16, l17, l18, l19] (.ref a :: st) σ Q := rn_step rfl (fun _ _ => rfl)
set_option maxRecDepth 20000 in
theorem sL_law_533n {d : Nat} {Q : mb_O → mb_S → Prop} {σ : mb_S} {st : List Value} {l0 l2 l3 l4 l5 l6 l7 l8 l9 l10 l11 l12 l13 l14 l15 l16 l17 l18 l19 : Option Value} : mb_Rn d 90 533 [l0, some (.null), l2, l3, l4, l5, l6, l7, l8, l9, l10, l11, l12, l13, l14, l15, l16, l17, l18, l19] st σ Q = mb_Rn d 90 534 [l0, some (.null), l2, l3, l4, l5, l6, l7, l8, l9, l10, l11, l12, l13, l14, l15, l16, l17, l18, l19] (.null :: st) σ Q := rn_step rfl (fun _ _ => rfl)
set_option maxRecDepth 20000 in
theorem sL_law_534 {d : Nat} {Q : mb_O → mb_S → Prop} {σ : mb_S} {st : List Value} {l0 l1 l2 l3 l4 l5 l6 l7 l8 l9 l10 l11 l12 l13 l15 l16 l17 l18 l19 : Option Value} {x : Int32} : mb_Rn d 90 534 [l0, l1, l2, l3, l4, l5, l6, l7, l8, l9, l10, l11, l12, l13, some (.int x), l15, l16, l17, l18, l19] st σ Q = mb_Rn d 90 536 [l0, l1, l2, l3, l4, l5, l6, l7, l8, l9, l10, l11, l12, l13, some (.int x), l15, l16, l17, l18, l19] (.int x :: st) σ Q := rn_step rfl (fun _ _ => rfl)
set_option maxRecDepth 20000 in
theorem sL_law_536 {d : Nat} {Q : mb_O → mb_S → Prop} {σ : mb_S} {st : List Value} {ls : mb_L} : mb_Rn d 90 536 ls st σ Q = mb_Rn d 90 537 ls (.int (-1) :: st) σ Q := rn_step rfl (fun _ _ => rfl)
set_option maxRecDepth 20000 in
theorem sL_law_537 {d : Nat} {Q : mb_O → mb_S → Prop} {σ : mb_S} {st : List Value} {l0 l1 l2 l3 l4 l5 l7 l8 l9 l10 l11 l12 l13 l14 l15 l16 l17 l18 l19 : Option Value} {a : Nat} : mb_Rn d 90 537 [l0, l1, l2, l3, l4, l5, some (.ref a), l7, l8, l9, l10, l11, l12, l13, l14, l15, l16, l17, l18, l19] st σ Q = mb_Rn d 90 539 [l0, l1, l2, l3, l4, l5, some (.ref a), l7, l8, l9, l10, l11, l12, l13, l14, l15, l16, l17, l18, l19] (.ref a :: st) σ Q := rn_step rfl (fun _ _ => rfl)
set_option maxRecDepth 20000 in
theorem sL_law_537n {d : Nat} {Q : mb_O → mb_S → Prop} {σ : mb_S} {st : List Value} {l0 l1 l2 l3 l4 l5 l7 l8 l9 l10 l11 l12 l13 l14 l15 l16 l17 l18 l19 : Option Value} : mb_Rn d 90 537 [l0, l1, l2, l3, l4, l5, some (.null), l7, l8, l9, l10, l11, l12, l13, l14, l15, l16, l17, l18, l19] st σ Q = mb_Rn d 90 539 [l0, l1, l2, l3, l4, l5, some (.null), l7, l8, l9, l10, l11, l12, l13, l14, l15, l16, l17, l18, l19] (.null :: st) σ Q := rn_step rfl (fun _ _ => rfl)
set_option maxRecDepth 20000 in
theorem sL_law_539 {d : Nat} {Q : mb_O → mb_S → Prop} {σ : mb_S} {st : List Value} {l0 l1 l2 l3 l4 l5 l6 l7 l8 l9 l10 l11 l12 l13 l15 l16 l17 l18 l19 : Option Value} {x : Int32} : mb_Rn d 90 539 [l0, l1, l2, l3, l4, l5, l6, l7, l8, l9, l10, l11, l12, l13, some (.int x), l15, l16, l17, l18, l19] st σ Q = mb_Rn d 90 541 [l0, l1, l2, l3, l4, l5, l6, l7, l8, l9, l10, l11, l12, l13, some (.int x), l15, l16, l17, l18, l19] (.int x :: st) σ Q := rn_step rfl (fun _ _ => rfl)
set_option maxRecDepth 20000 in
theorem sL_law_541 {d : Nat} {Q : mb_O → mb_S → Prop} {σ : mb_S} {st : List Value} {ls : mb_L} {a : Nat} {j : Int32} : mb_Rn d 90 541 ls (.int j :: .ref a :: st) σ Q = mb_gi σ a j False (fun kd _ f => if kd = 0 ∨ kd = 9 then mb_Rn d 90 542 ls (.int (f j.toNatClampNeg) :: st) σ Q else False) := rn_iald rfl
set_option maxRecDepth 20000 in
theorem sL_law_542 {d : Nat} {Q : mb_O → mb_S → Prop} {σ : mb_S} {st : List Value} {ls : mb_L} {p0 : Nat} {p1 : Int32} {p2 : Int32} {p3 : Int32} (hd : 1 ≤ d) (h4 : st.length ≤ 4) : mb_Rn d 90 542 ls (.int p3 :: .int p2 :: .int p1 :: .ref p0 :: st) σ Q = mb_Ex (d - 1) 88 [.ref p0, .int p1, .int p2, .int p3] σ (mb_qk d 90 545 ls st Q) := rn_calls mb_good rfl hd rfl rfl ⟨rfl, rfl⟩ h4 ⟨Nat.le_of_ble_eq_true rfl, rfl⟩
set_option maxRecDepth 20000 in
theorem sL_law_545 {d : Nat} {Q : mb_O → mb_S → Prop} {σ : mb_S} {st : List Value} {ls : mb_L} {a : Nat} {j x : Int32} : mb_Rn d 90 545 ls (.int x :: .int j :: .ref a :: st) σ Q = mb_gi σ a j False (fun kd n f => if kd = 0 then mb_Rn d 90 546 ls st (mb_up σ a (.inl (0, n, .inl (upd f j.toNatClampNeg x)))) Q else False) := rn_iast rfl
set_option maxRecDepth 20000 in
theorem sL_law_546 {d : Nat} {Q : mb_O → mb_S → Prop} {σ : mb_S} {st : List Value} {l0 l1 l2 l3 l4 l6 l7 l8 l9 l10 l11 l12 l13 l14 l15 l16 l17 l18 l19 : Option Value} {a : Nat} : mb_Rn d 90 546 [l0, l1, l2, l3, l4, some (.ref a), l6, l7, l8, l9, l10, l11, l12, l13, l14, l15, l16, l17, l18, l19] st σ Q = mb_Rn d 90 548 [l0, l1, l2, l3, l4, some (.ref a), l6, l7, l8, l9, l10, l11, l12, l13, l14, l15, l16, l17, l18, l19] (.ref a :: st) σ Q := rn_step rfl (fun _ _ => rfl)
set_option maxRecDepth 20000 in
theorem sL_law_546n {d : Nat} {Q : mb_O → mb_S → Prop} {σ : mb_S} {st : List Value} {l0 l1 l2 l3 l4 l6 l7 l8 l9 l10 l11 l12 l13 l14 l15 l16 l17 l18 l19 : Option Value} : mb_Rn d 90 546 [l0, l1, l2, l3, l4, some (.null), l6, l7, l8, l9, l10, l11, l12, l13, l14, l15, l16, l17, l18, l19] st σ Q = mb_Rn d 90 548 [l0, l1, l2, l3, l4, some (.null), l6, l7, l8, l9, l10, l11, l12, l13, l14, l15, l16, l17, l18, l19] (.null :: st) σ Q := rn_step rfl (fun _ _ => rfl)
set_option maxRecDepth 20000 in
theorem sL_law_548 {d : Nat} {Q : mb_O → mb_S → Prop} {σ : mb_S} {st : List Value} {l0 l1 l2 l3 l4 l5 l6 l7 l8 l9 l10 l11 l12 l13 l15 l16 l17 l18 l19 : Option Value} {x : Int32} : mb_Rn d 90 548 [l0, l1, l2, l3, l4, l5, l6, l7, l8, l9, l10, l11, l12, l13, some (.int x), l15, l16, l17, l18, l19] st σ Q = mb_Rn d 90 550 [l0, l1, l2, l3, l4, l5, l6, l7, l8, l9, l10, l11, l12, l13, some (.int x), l15, l16, l17, l18, l19] (.int x :: st) σ Q := rn_step rfl (fun _ _ => rfl)
set_option maxRecDepth 20000 in
theorem sL_law_550 {d : Nat} {Q : mb_O → mb_S → Prop} {σ : mb_S} {st : List Value} {ls : mb_L} {a : Nat} {x : Int32} : mb_Rn d 90 550 ls (.int x :: .ref a :: st) σ Q = mb_Rn d 90 551 ls (.int x :: .ref a :: .int x :: .ref a :: st) σ Q := rn_step rfl (fun _ _ => rfl)
set_option maxRecDepth 20000 in
theorem sL_law_551 {d : Nat} {Q : mb_O → mb_S → Prop} {σ : mb_S} {st : List Value} {ls : mb_L} {a : Nat} {j : Int32} : mb_Rn d 90 551 ls (.int j :: .ref a :: st) σ Q = mb_gi σ a j False (fun kd _ f => if kd = 0 ∨ kd = 9 then mb_Rn d 90 552 ls (.int (f j.toNatClampNeg) :: st) σ Q else False) := rn_iald rfl
set_option maxRecDepth 20000 in
theorem sL_law_552 {d : Nat} {Q : mb_O → mb_S → Prop} {σ : mb_S} {st : List Value} {ls : mb_L} : mb_Rn d 90 552 ls st σ Q = mb_Rn d 90 553 ls (.int 1 :: st) σ Q := rn_step rfl (fun _ _ => rfl)
set_option maxRecDepth 20000 in
theorem sL_law_553 {d : Nat} {Q : mb_O → mb_S → Prop} {σ : mb_S} {st : List Value} {ls : mb_L} {x z : Int32} : mb_Rn d 90 553 ls (.int z :: .int x :: st) σ Q = mb_Rn d 90 554 ls (.int (x + z) :: st) σ Q := rn_step rfl (fun _ _ => rfl)
set_option maxRecDepth 20000 in
theorem sL_law_554 {d : Nat} {Q : mb_O → mb_S → Prop} {σ : mb_S} {st : List Value} {ls : mb_L} {a : Nat} {j x : Int32} : mb_Rn d 90 554 ls (.int x :: .int j :: .ref a :: st) σ Q = mb_gi σ a j False (fun kd n f => if kd = 0 then mb_Rn d 90 555 ls st (mb_up σ a (.inl (0, n, .inl (upd f j.toNatClampNeg x)))) Q else False) := rn_iast rfl
set_option maxRecDepth 20000 in
theorem sL_law_555 {d : Nat} {Q : mb_O → mb_S → Prop} {σ : mb_S} {st : List Value} {ls : mb_L} : mb_Rn d 90 555 ls st σ Q = mb_Rn d 90 1268 ls st σ Q := rn_step rfl (fun _ _ => rfl)
set_option maxRecDepth 20000 in
theorem sL_law_558 {d : Nat} {Q : mb_O → mb_S → Prop} {σ : mb_S} {st : List Value} {l0 l1 l2 l3 l4 l5 l6 l7 l8 l9 l10 l11 l12 l14 l15 l16 l17 l18 l19 : Option Value} {x : Int32} : mb_Rn d 90 558 [l0, l1, l2, l3, l4, l5, l6, l7, l8, l9, l10, l11, l12, some (.int x), l14, l15, l16, l17, l18, l19] st σ Q = mb_Rn d 90 560 [l0, l1, l2, l3, l4, l5, l6, l7, l8, l9, l10, l11, l12, some (.int x), l14, l15, l16, l17, l18, l19] (.int x :: st) σ Q := rn_step rfl (fun _ _ => rfl)
set_option maxRecDepth 20000 in
theorem sL_law_560 {d : Nat} {Q : mb_O → mb_S → Prop} {σ : mb_S} {st : List Value} {ls : mb_L} : mb_Rn d 90 560 ls st σ Q = mb_Rn d 90 562 ls (.int 19 :: st) σ Q := rn_step rfl (fun _ _ => rfl)
set_option maxRecDepth 20000 in
theorem sL_law_562 {d : Nat} {Q : mb_O → mb_S → Prop} {σ : mb_S} {st : List Value} {ls : mb_L} {x z : Int32} : mb_Rn d 90 562 ls (.int z :: .int x :: st) σ Q = if z ≤ x then mb_Rn d 90 639 ls st σ Q else mb_Rn d 90 565 ls st σ Q := rn_ifb rfl (fun _ _ => rfl) decide_eq_true_iff
set_option maxRecDepth 20000 in
theorem sL_law_565 {d : Nat} {Q : mb_O → mb_S → Prop} {σ : mb_S} {st : List Value} {l0 l1 l2 l3 l4 l5 l6 l7 l8 l9 l10 l11 l13 l14 l15 l16 l17 l18 l19 : Option Value} {x : Int32} : mb_Rn d 90 565 [l0, l1, l2, l3, l4, l5, l6, l7, l8, l9, l10, l11, some (.int x), l13, l14, l15, l16, l17, l18, l19] st σ Q = mb_Rn d 90 567 [l0, l1, l2, l3, l4, l5, l6, l7, l8, l9, l10, l11, some (.int x), l13, l14, l15, l16, l17, l18, l19] (.int x :: st) σ Q := rn_step rfl (fun _ _ => rfl)
set_option maxRecDepth 20000 in
theorem sL_law_567 {d : Nat} {Q : mb_O → mb_S → Prop} {σ : mb_S} {st : List Value} {ls : mb_L} : mb_Rn d 90 567 ls st σ Q = mb_Rn d 90 568 ls (.int 2 :: st) σ Q := rn_step rfl (fun _ _ => rfl)
set_option maxRecDepth 20000 in
theorem sL_law_568 {d : Nat} {Q : mb_O → mb_S → Prop} {σ : mb_S} {st : List Value} {ls : mb_L} {x z : Int32} : mb_Rn d 90 568 ls (.int z :: .int x :: st) σ Q = mb_Rn d 90 569 ls (.int (x >>> (z &&& 31)) :: st) σ Q := rn_step rfl (fun _ _ => rfl)
set_option maxRecDepth 20000 in
theorem sL_law_569 {d : Nat} {Q : mb_O → mb_S → Prop} {σ : mb_S} {st : List Value} {l0 l1 l2 l3 l4 l6 l7 l8 l9 l10 l11 l12 l13 l14 l15 l16 l17 l18 l19 : Option Value} {a : Nat} : mb_Rn d 90 569 [l0, l1, l2, l3, l4, some (.ref a), l6, l7, l8, l9, l10, l11, l12, l13, l14, l15, l16, l17, l18, l19] st σ Q = mb_Rn d 90 571 [l0, l1, l2, l3, l4, some (.ref a), l6, l7, l8, l9, l10, l11, l12, l13, l14, l15, l16, l17, l18, l19] (.ref a :: st) σ Q := rn_step rfl (fun _ _ => rfl)
set_option maxRecDepth 20000 in
theorem sL_law_569n {d : Nat} {Q : mb_O → mb_S → Prop} {σ : mb_S} {st : List Value} {l0 l1 l2 l3 l4 l6 l7 l8 l9 l10 l11 l12 l13 l14 l15 l16 l17 l18 l19 : Option Value} : mb_Rn d 90 569 [l0, l1, l2, l3, l4, some (.null), l6, l7, l8, l9, l10, l11, l12, l13, l14, l15, l16, l17, l18, l19] st σ Q = mb_Rn d 90 571 [l0, l1, l2, l3, l4, some (.null), l6, l7, l8, l9, l10, l11, l12, l13, l14, l15, l16, l17, l18, l19] (.null :: st) σ Q := rn_step rfl (fun _ _ => rfl)
set_option maxRecDepth 20000 in
theorem sL_law_571 {d : Nat} {Q : mb_O → mb_S → Prop} {σ : mb_S} {st : List Value} {l0 l1 l2 l3 l4 l5 l6 l7 l8 l9 l10 l11 l12 l13 l15 l16 l17 l18 l19 : Option Value} {x : Int32} : mb_Rn d 90 571 [l0, l1, l2, l3, l4, l5, l6, l7, l8, l9, l10, l11, l12, l13, some (.int x), l15, l16, l17, l18, l19] st σ Q = mb_Rn d 90 573 [l0, l1, l2, l3, l4, l5, l6, l7, l8, l9, l10, l11, l12, l13, some (.int x), l15, l16, l17, l18, l19] (.int x :: st) σ Q := rn_step rfl (fun _ _ => rfl)
set_option maxRecDepth 20000 in
theorem sL_law_573 {d : Nat} {Q : mb_O → mb_S → Prop} {σ : mb_S} {st : List Value} {ls : mb_L} {a : Nat} {j : Int32} : mb_Rn d 90 573 ls (.int j :: .ref a :: st) σ Q = mb_gi σ a j False (fun kd _ f => if kd = 0 ∨ kd = 9 then mb_Rn d 90 574 ls (.int (f j.toNatClampNeg) :: st) σ Q else False) := rn_iald rfl
set_option maxRecDepth 20000 in
theorem sL_law_574 {d : Nat} {Q : mb_O → mb_S → Prop} {σ : mb_S} {st : List Value} {ls : mb_L} : mb_Rn d 90 574 ls st σ Q = mb_Rn d 90 575 ls (.int 1 :: st) σ Q := rn_step rfl (fun _ _ => rfl)
set_option maxRecDepth 20000 in
theorem sL_law_575 {d : Nat} {Q : mb_O → mb_S → Prop} {σ : mb_S} {st : List Value} {ls : mb_L} {x z : Int32} : mb_Rn d 90 575 ls (.int z :: .int x :: st) σ Q = mb_Rn d 90 576 ls (.int (x + z) :: st) σ Q := rn_step rfl (fun _ _ => rfl)
set_option maxRecDepth 20000 in
theorem sL_law_576 {d : Nat} {Q : mb_O → mb_S → Prop} {σ : mb_S} {st : List Value} {ls : mb_L} {x z : Int32} : mb_Rn d 90 576 ls (.int z :: .int x :: st) σ Q = if z = 0 then False else mb_Rn d 90 577 ls (.int (x % z) :: st) σ Q := rn_ite (f := fun _ => none) rfl (fun _ _ => rfl) ok_none rfl
set_option maxRecDepth 20000 in
theorem sL_law_577 {d : Nat} {Q : mb_O → mb_S → Prop} {σ : mb_S} {st : List Value} {ls : mb_L} : mb_Rn d 90 577 ls st σ Q = mb_Rn d 90 578 ls (.int 1 :: st) σ Q := rn_step rfl (fun _ _ => rfl)
set_option maxRecDepth 20000 in
theorem sL_law_578 {d : Nat} {Q : mb_O → mb_S → Prop} {σ : mb_S} {st : List Value} {ls : mb_L} {x z : Int32} : mb_Rn d 90 578 ls (.int z :: .int x :: st) σ Q = mb_Rn d 90 579 ls (.int (x - z) :: st) σ Q := rn_step rfl (fun _ _ => rfl)
set_option maxRecDepth 20000 in
theorem sL_law_579 {d : Nat} {Q : mb_O → mb_S → Prop} {σ : mb_S} {st : List Value} {l0 l1 l2 l3 l4 l5 l6 l7 l8 l9 l10 l11 l12 l13 l14 l15 l16 l17 l18 l19 : Option Value} {x : Int32} : mb_Rn d 90 579 [l0, l1, l2, l3, l4, l5, l6, l7, l8, l9, l10, l11, l12, l13, l14, l15, l16, l17, l18, l19] (.int x :: st) σ Q = mb_Rn d 90 581 [l0, l1, l2, l3, l4, l5, l6, l7, l8, l9, l10, l11, l12, l13, l14, l15, some (.int x), l17, l18, l19] st σ Q := rn_step rfl (fun _ _ => rfl)
set_option maxRecDepth 20000 in
theorem sL_law_581 {d : Nat} {Q : mb_O → mb_S → Prop} {σ : mb_S} {st : List Value} {l0 l1 l2 l3 l4 l5 l6 l7 l8 l9 l10 l11 l13 l14 l15 l16 l17 l18 l19 : Option Value} {x : Int32} : mb_Rn d 90 581 [l0, l1, l2, l3, l4, l5, l6, l7, l8, l9, l10, l11, some (.int x), l13, l14, l15, l16, l17, l18, l19] st σ Q = mb_Rn d 90 583 [l0, l1, l2, l3, l4, l5, l6, l7, l8, l9, l10, l11, some (.int x), l13, l14, l15, l16, l17, l18, l19] (.int x :: st) σ Q := rn_step rfl (fun _ _ => rfl)
set_option maxRecDepth 20000 in
theorem sL_law_583 {d : Nat} {Q : mb_O → mb_S → Prop} {σ : mb_S} {st : List Value} {ls : mb_L} : mb_Rn d 90 583 ls st σ Q = mb_Rn d 90 585 ls (.int 6 :: st) σ Q := rn_step rfl (fun _ _ => rfl)
set_option maxRecDepth 20000 in
theorem sL_law_585 {d : Nat} {Q : mb_O → mb_S → Prop} {σ : mb_S} {st : List Value} {ls : mb_L} {x z : Int32} : mb_Rn d 90 585 ls (.int z :: .int x :: st) σ Q = mb_Rn d 90 586 ls (.int (x >>> (z &&& 31)) :: st) σ Q := rn_step rfl (fun _ _ => rfl)
set_option maxRecDepth 20000 in
theorem sL_law_586 {d : Nat} {Q : mb_O → mb_S → Prop} {σ : mb_S} {st : List Value} {ls : mb_L} : mb_Rn d 90 586 ls st σ Q = mb_Rn d 90 588 ls (.int 6 :: st) σ Q := rn_step rfl (fun _ _ => rfl)
set_option maxRecDepth 20000 in
theorem sL_law_588 {d : Nat} {Q : mb_O → mb_S → Prop} {σ : mb_S} {st : List Value} {ls : mb_L} {x z : Int32} : mb_Rn d 90 588 ls (.int z :: .int x :: st) σ Q = if z = 0 then False else mb_Rn d 90 589 ls (.int (x % z) :: st) σ Q := rn_ite (f := fun _ => none) rfl (fun _ _ => rfl) ok_none rfl
set_option maxRecDepth 20000 in
theorem sL_law_589 {d : Nat} {Q : mb_O → mb_S → Prop} {σ : mb_S} {st : List Value} {l0 l1 l2 l3 l4 l5 l6 l7 l8 l9 l10 l11 l12 l13 l14 l15 l16 l17 l18 l19 : Option Value} {x : Int32} : mb_Rn d 90 589 [l0, l1, l2, l3, l4, l5, l6, l7, l8, l9, l10, l11, l12, l13, l14, l15, l16, l17, l18, l19] (.int x :: st) σ Q = mb_Rn d 90 591 [l0, l1, l2, l3, l4, l5, l6, l7, l8, l9, l10, l11, l12, l13, l14, l15, l16, some (.int x), l18, l19] st σ Q := rn_step rfl (fun _ _ => rfl)
set_option maxRecDepth 20000 in
theorem sL_law_591 {d : Nat} {Q : mb_O → mb_S → Prop} {σ : mb_S} {st : List Value} {l0 l2 l3 l4 l5 l6 l7 l8 l9 l10 l11 l12 l13 l14 l15 l16 l17 l18 l19 : Option Value} {a : Nat} : mb_Rn d 90 591 [l0, some (.ref a), l2, l3, l4, l5, l6, l7, l8, l9, l10, l11, l12, l13, l14, l15, l16, l17, l18, l19] st σ Q = mb_Rn d 90 592 [l0, some (.ref a), l2, l3, l4, l5, l6, l7, l8, l9, l10, l11, l12, l13, l14, l15, l16, l17, l18, l19] (.ref a :: st) σ Q := rn_step rfl (fun _ _ => rfl)
set_option maxRecDepth 20000 in
theorem sL_law_591n {d : Nat} {Q : mb_O → mb_S → Prop} {σ : mb_S} {st : List Value} {l0 l2 l3 l4 l5 l6 l7 l8 l9 l10 l11 l12 l13 l14 l15 l16 l17 l18 l19 : Option Value} : mb_Rn d 90 591 [l0, some (.null), l2, l3, l4, l5, l6, l7, l8, l9, l10, l11, l12, l13, l14, l15, l16, l17, l18, l19] st σ Q = mb_Rn d 90 592 [l0, some (.null), l2, l3, l4, l5, l6, l7, l8, l9, l10, l11, l12, l13, l14, l15, l16, l17, l18, l19] (.null :: st) σ Q := rn_step rfl (fun _ _ => rfl)
set_option maxRecDepth 20000 in
theorem sL_law_592 {d : Nat} {Q : mb_O → mb_S → Prop} {σ : mb_S} {st : List Value} {ls : mb_L} : mb_Rn d 90 592 ls st σ Q = mb_Rn d 90 593 ls (.int 4 :: st) σ Q := rn_step rfl (fun _ _ => rfl)
set_option maxRecDepth 20000 in
theorem sL_law_593 {d : Nat} {Q : mb_O → mb_S → Prop} {σ : mb_S} {st : List Value} {l0 l1 l2 l3 l4 l5 l6 l7 l8 l9 l10 l11 l12 l13 l14 l16 l17 l18 l19 : Option Value} {x : Int32} : mb_Rn d 90 593 [l0, l1, l2, l3, l4, l5, l6, l7, l8, l9, l10, l11, l12, l13, l14, some (.int x), l16, l17, l18, l19] st σ Q = mb_Rn d 90 595 [l0, l1, l2, l3, l4, l5, l6, l7, l8, l9, l10, l11, l12, l13, l14, some (.int x), l16, l17, l18, l19] (.int x :: st) σ Q := rn_step rfl (fun _ _ => rfl)
set_option maxRecDepth 20000 in
theorem sL_law_595 {d : Nat} {Q : mb_O → mb_S → Prop} {σ : mb_S} {st : List Value} {l0 l1 l2 l3 l4 l5 l6 l7 l8 l9 l10 l11 l12 l13 l15 l16 l17 l18 l19 : Option Value} {x : Int32} : mb_Rn d 90 595 [l0, l1, l2, l3, l4, l5, l6, l7, l8, l9, l10, l11, l12, l13, some (.int x), l15, l16, l17, l18, l19] st σ Q = mb_Rn d 90 597 [l0, l1, l2, l3, l4, l5, l6, l7, l8, l9, l10, l11, l12, l13, some (.int x), l15, l16, l17, l18, l19] (.int x :: st) σ Q := rn_step rfl (fun _ _ => rfl)
set_option maxRecDepth 20000 in
theorem sL_law_597 {d : Nat} {Q : mb_O → mb_S → Prop} {σ : mb_S} {st : List Value} {l0 l1 l2 l3 l4 l5 l6 l7 l8 l9 l10 l11 l12 l13 l14 l15 l17 l18 l19 : Option Value} {x : Int32} : mb_Rn d 90 597 [l0, l1, l2, l3, l4, l5, l6, l7, l8, l9, l10, l11, l12, l13, l14, l15, some (.int x), l17, l18, l19] st σ Q = mb_Rn d 90 599 [l0, l1, l2, l3, l4, l5, l6, l7, l8, l9, l10, l11, l12, l13, l14, l15, some (.int x), l17, l18, l19] (.int x :: st) σ Q := rn_step rfl (fun _ _ => rfl)
set_option maxRecDepth 20000 in
theorem sL_law_599 {d : Nat} {Q : mb_O → mb_S → Prop} {σ : mb_S} {st : List Value} {l0 l1 l2 l3 l4 l5 l6 l7 l8 l9 l10 l11 l12 l13 l14 l15 l16 l18 l19 : Option Value} {x : Int32} : mb_Rn d 90 599 [l0, l1, l2, l3, l4, l5, l6, l7, l8, l9, l10, l11, l12, l13, l14, l15, l16, some (.int x), l18, l19] st σ Q = mb_Rn d 90 601 [l0, l1, l2, l3, l4, l5, l6, l7, l8, l9, l10, l11, l12, l13, l14, l15, l16, some (.int x), l18, l19] (.int x :: st) σ Q := rn_step rfl (fun _ _ => rfl)
set_option maxRecDepth 20000 in
theorem sL_law_601 {d : Nat} {Q : mb_O → mb_S → Prop} {σ : mb_S} {st : List Value} {l0 l1 l2 l3 l4 l5 l6 l7 l8 l9 l10 l11 l12 l13 l14 l15 l16 l18 l19 : Option Value} {x : Int32} : mb_Rn d 90 601 [l0, l1, l2, l3, l4, l5, l6, l7, l8, l9, l10, l11, l12, l13, l14, l15, l16, some (.int x), l18, l19] st σ Q = mb_Rn d 90 603 [l0, l1, l2, l3, l4, l5, l6, l7, l8, l9, l10, l11, l12, l13, l14, l15, l16, some (.int x), l18, l19] (.int x :: st) σ Q := rn_step rfl (fun _ _ => rfl)
set_option maxRecDepth 20000 in
theorem sL_law_603 {d : Nat} {Q : mb_O → mb_S → Prop} {σ : mb_S} {st : List Value} {l0 l1 l2 l3 l4 l5 l6 l7 l8 l9 l10 l11 l13 l14 l15 l16 l17 l18 l19 : Option Value} {x : Int32} : mb_Rn d 90 603 [l0, l1, l2, l3, l4, l5, l6, l7, l8, l9, l10, l11, some (.int x), l13, l14, l15, l16, l17, l18, l19] st σ Q = mb_Rn d 90 605 [l0, l1, l2, l3, l4, l5, l6, l7, l8, l9, l10, l11, some (.int x), l13, l14, l15, l16, l17, l18, l19] (.int x :: st) σ Q := rn_step rfl (fun _ _ => rfl)
set_option maxRecDepth 20000 in
theorem sL_law_605 {d : Nat} {Q : mb_O → mb_S → Prop} {σ : mb_S} {st : List Value} {ls : mb_L} : mb_Rn d 90 605 ls st σ Q = mb_Rn d 90 607 ls (.int 9 :: st) σ Q := rn_step rfl (fun _ _ => rfl)
set_option maxRecDepth 20000 in
theorem sL_law_607 {d : Nat} {Q : mb_O → mb_S → Prop} {σ : mb_S} {st : List Value} {ls : mb_L} {x z : Int32} : mb_Rn d 90 607 ls (.int z :: .int x :: st) σ Q = mb_Rn d 90 608 ls (.int (x >>> (z &&& 31)) :: st) σ Q := rn_step rfl (fun _ _ => rfl)
set_option maxRecDepth 20000 in
theorem sL_law_608 {d : Nat} {Q : mb_O → mb_S → Prop} {σ : mb_S} {st : List Value} {ls : mb_L} : mb_Rn d 90 608 ls st σ Q = mb_Rn d 90 610 ls (.int 8 :: st) σ Q := rn_step rfl (fun _ _ => rfl)
set_option maxRecDepth 20000 in
theorem sL_law_610 {d : Nat} {Q : mb_O → mb_S → Prop} {σ : mb_S} {st : List Value} {ls : mb_L} {x z : Int32} : mb_Rn d 90 610 ls (.int z :: .int x :: st) σ Q = if z = 0 then False else mb_Rn d 90 611 ls (.int (x % z) :: st) σ Q := rn_ite (f := fun _ => none) rfl (fun _ _ => rfl) ok_none rfl
set_option maxRecDepth 20000 in
theorem sL_law_611 {d : Nat} {Q : mb_O → mb_S → Prop} {σ : mb_S} {st : List Value} {ls : mb_L} {x z : Int32} : mb_Rn d 90 611 ls (.int z :: .int x :: st) σ Q = mb_Rn d 90 612 ls (.int (x + z) :: st) σ Q := rn_step rfl (fun _ _ => rfl)
set_option maxRecDepth 20000 in
theorem sL_law_612 {d : Nat} {Q : mb_O → mb_S → Prop} {σ : mb_S} {st : List Value} {ls : mb_L} {p0 : Nat} {p1 : Int32} {p2 : Int32} {p3 : Int32} {p4 : Int32} {p5 : Int32} {p6 : Int32} (hd : 1 ≤ d) (h4 : st.length ≤ 4) : mb_Rn d 90 612 ls (.int p6 :: .int p5 :: .int p4 :: .int p3 :: .int p2 :: .int p1 :: .ref p0 :: st) σ Q = mb_Ex (d - 1) 86 [.ref p0, .int p1, .int p2, .int p3, .int p4, .int p5, .int p6] σ (mb_qk d 90 615 ls st Q) := rn_calls mb_good rfl hd rfl rfl ⟨rfl, rfl⟩ h4 ⟨Nat.le_of_ble_eq_true rfl, rfl⟩
set_option maxRecDepth 20000 in
theorem sL_law_615 {d : Nat} {Q : mb_O → mb_S → Prop} {σ : mb_S} {st : List Value} {l0 l1 l2 l3 l4 l5 l6 l7 l8 l9 l10 l11 l12 l13 l14 l15 l16 l17 l18 l19 : Option Value} {x : Int32} : mb_Rn d 90 615 [l0, l1, l2, l3, l4, l5, l6, l7, l8, l9, l10, l11, l12, l13, l14, l15, l16, l17, l18, l19] (.int x :: st) σ Q = mb_Rn d 90 617 [l0, l1, l2, l3, l4, l5, l6, l7, l8, l9, l10, l11, l12, l13, l14, l15, l16, l17, some (.int x), l19] st σ Q := rn_step rfl (fun _ _ => rfl)
set_option maxRecDepth 20000 in
theorem sL_law_617 {d : Nat} {Q : mb_O → mb_S → Prop} {σ : mb_S} {st : List Value} {l0 l1 l2 l3 l4 l5 l6 l7 l8 l9 l10 l11 l12 l13 l14 l15 l16 l17 l19 : Option Value} {x : Int32} : mb_Rn d 90 617 [l0, l1, l2, l3, l4, l5, l6, l7, l8, l9, l10, l11, l12, l13, l14, l15, l16, l17, some (.int x), l19] st σ Q = mb_Rn d 90 619 [l0, l1, l2, l3, l4, l5, l6, l7, l8, l9, l10, l11, l12, l13, l14, l15, l16, l17, some (.int x), l19] (.int x :: st) σ Q := rn_step rfl (fun _ _ => rfl)
set_option maxRecDepth 20000 in
theorem sL_law_619 {d : Nat} {Q : mb_O → mb_S → Prop} {σ : mb_S} {st : List Value} {ls : mb_L} : mb_Rn d 90 619 ls st σ Q = mb_Rn d 90 620 ls (.int 1 :: st) σ Q := rn_step rfl (fun _ _ => rfl)
set_option maxRecDepth 20000 in
theorem sL_law_620 {d : Nat} {Q : mb_O → mb_S → Prop} {σ : mb_S} {st : List Value} {ls : mb_L} {x z : Int32} : mb_Rn d 90 620 ls (.int z :: .int x :: st) σ Q = if x = z then mb_Rn d 90 629 ls st σ Q else mb_Rn d 90 623 ls st σ Q := rn_ifb rfl (fun _ _ => rfl) beq_iff_eq
set_option maxRecDepth 20000 in
theorem sL_law_623 {d : Nat} {Q : mb_O → mb_S → Prop} {σ : mb_S} {st : List Value} {l0 l1 l2 l3 l4 l5 l6 l7 l8 l9 l10 l11 l12 l13 l14 l15 l16 l17 l19 : Option Value} {x : Int32} : mb_Rn d 90 623 [l0, l1, l2, l3, l4, l5, l6, l7, l8, l9, l10, l11, l12, l13, l14, l15, l16, l17, some (.int x), l19] st σ Q = mb_Rn d 90 625 [l0, l1, l2, l3, l4, l5, l6, l7, l8, l9, l10, l11, l12, l13, l14, l15, l16, l17, some (.int x), l19] (.int x :: st) σ Q := rn_step rfl (fun _ _ => rfl)
set_option maxRecDepth 20000 in
theorem sL_law_625 {d : Nat} {Q : mb_O → mb_S → Prop} {σ : mb_S} {st : List Value} {ls : mb_L} : mb_Rn d 90 625 ls st σ Q = mb_Rn d 90 626 ls (.int 2 :: st) σ Q := rn_step rfl (fun _ _ => rfl)
set_option maxRecDepth 20000 in
theorem sL_law_626 {d : Nat} {Q : mb_O → mb_S → Prop} {σ : mb_S} {st : List Value} {ls : mb_L} {x z : Int32} : mb_Rn d 90 626 ls (.int z :: .int x :: st) σ Q = if x = z then mb_Rn d 90 629 ls st σ Q else mb_Rn d 90 633 ls st σ Q := rn_ifn rfl (fun _ _ => rfl) bne_iff_ne
set_option maxRecDepth 20000 in
theorem sL_law_629 {d : Nat} {Q : mb_O → mb_S → Prop} {σ : mb_S} {st : List Value} {ls : mb_L} : mb_Rn d 90 629 ls st σ Q = mb_Rn d 90 630 ls (.int 1 :: st) σ Q := rn_step rfl (fun _ _ => rfl)
set_option maxRecDepth 20000 in
theorem sL_law_630 {d : Nat} {Q : mb_O → mb_S → Prop} {σ : mb_S} {st : List Value} {ls : mb_L} : mb_Rn d 90 630 ls st σ Q = mb_Rn d 90 634 ls st σ Q := rn_step rfl (fun _ _ => rfl)
set_option maxRecDepth 20000 in
theorem sL_law_633 {d : Nat} {Q : mb_O → mb_S → Prop} {σ : mb_S} {st : List Value} {ls : mb_L} : mb_Rn d 90 633 ls st σ Q = mb_Rn d 90 634 ls (.int 0 :: st) σ Q := rn_step rfl (fun _ _ => rfl)
set_option maxRecDepth 20000 in
theorem sL_law_634 {d : Nat} {Q : mb_O → mb_S → Prop} {σ : mb_S} {st : List Value} {l0 l1 l2 l3 l4 l5 l6 l7 l8 l9 l10 l11 l12 l13 l14 l15 l16 l17 l18 l19 : Option Value} {x : Int32} : mb_Rn d 90 634 [l0, l1, l2, l3, l4, l5, l6, l7, l8, l9, l10, l11, l12, l13, l14, l15, l16, l17, l18, l19] (.int x :: st) σ Q = mb_Rn d 90 636 [l0, l1, l2, l3, l4, l5, l6, l7, l8, some (.int x), l10, l11, l12, l13, l14, l15, l16, l17, l18, l19] st σ Q := rn_step rfl (fun _ _ => rfl)
set_option maxRecDepth 20000 in
theorem sL_law_636 {d : Nat} {Q : mb_O → mb_S → Prop} {σ : mb_S} {st : List Value} {ls : mb_L} : mb_Rn d 90 636 ls st σ Q = mb_Rn d 90 1268 ls st σ Q := rn_step rfl (fun _ _ => rfl)
set_option maxRecDepth 20000 in
theorem sL_law_639 {d : Nat} {Q : mb_O → mb_S → Prop} {σ : mb_S} {st : List Value} {l0 l1 l2 l3 l4 l5 l6 l7 l8 l9 l10 l11 l12 l14 l15 l16 l17 l18 l19 : Option Value} {x : Int32} : mb_Rn d 90 639 [l0, l1, l2, l3, l4, l5, l6, l7, l8, l9, l10, l11, l12, some (.int x), l14, l15, l16, l17, l18, l19] st σ Q = mb_Rn d 90 641 [l0, l1, l2, l3, l4, l5, l6, l7, l8, l9, l10, l11, l12, some (.int x), l14, l15, l16, l17, l18, l19] (.int x :: st) σ Q := rn_step rfl (fun _ _ => rfl)
set_option maxRecDepth 20000 in
theorem sL_law_641 {d : Nat} {Q : mb_O → mb_S → Prop} {σ : mb_S} {st : List Value} {ls : mb_L} : mb_Rn d 90 641 ls st σ Q = mb_Rn d 90 643 ls (.int 19 :: st) σ Q := rn_step rfl (fun _ _ => rfl)
set_option maxRecDepth 20000 in
theorem sL_law_643 {d : Nat} {Q : mb_O → mb_S → Prop} {σ : mb_S} {st : List Value} {ls : mb_L} {x z : Int32} : mb_Rn d 90 643 ls (.int z :: .int x :: st) σ Q = if x = z then mb_Rn d 90 646 ls st σ Q else mb_Rn d 90 765 ls st σ Q := rn_ifn rfl (fun _ _ => rfl) bne_iff_ne
set_option maxRecDepth 20000 in
theorem sL_law_646 {d : Nat} {Q : mb_O → mb_S → Prop} {σ : mb_S} {st : List Value} {l0 l1 l2 l3 l4 l5 l6 l7 l8 l9 l10 l11 l13 l14 l15 l16 l17 l18 l19 : Option Value} {x : Int32} : mb_Rn d 90 646 [l0, l1, l2, l3, l4, l5, l6, l7, l8, l9, l10, l11, some (.int x), l13, l14, l15, l16, l17, l18, l19] st σ Q = mb_Rn d 90 648 [l0, l1, l2, l3, l4, l5, l6, l7, l8, l9, l10, l11, some (.int x), l13, l14, l15, l16, l17, l18, l19] (.int x :: st) σ Q := rn_step rfl (fun _ _ => rfl)
set_option maxRecDepth 20000 in
theorem sL_law_648 {d : Nat} {Q : mb_O → mb_S → Prop} {σ : mb_S} {st : List Value} {ls : mb_L} : mb_Rn d 90 648 ls st σ Q = mb_Rn d 90 649 ls (.int 2 :: st) σ Q := rn_step rfl (fun _ _ => rfl)
set_option maxRecDepth 20000 in
theorem sL_law_649 {d : Nat} {Q : mb_O → mb_S → Prop} {σ : mb_S} {st : List Value} {ls : mb_L} {x z : Int32} : mb_Rn d 90 649 ls (.int z :: .int x :: st) σ Q = mb_Rn d 90 650 ls (.int (x >>> (z &&& 31)) :: st) σ Q := rn_step rfl (fun _ _ => rfl)
set_option maxRecDepth 20000 in
theorem sL_law_650 {d : Nat} {Q : mb_O → mb_S → Prop} {σ : mb_S} {st : List Value} {l0 l1 l2 l3 l5 l6 l7 l8 l9 l10 l11 l12 l13 l14 l15 l16 l17 l18 l19 : Option Value} {a : Nat} : mb_Rn d 90 650 [l0, l1, l2, l3, some (.ref a), l5, l6, l7, l8, l9, l10, l11, l12, l13, l14, l15, l16, l17, l18, l19] st σ Q = mb_Rn d 90 652 [l0, l1, l2, l3, some (.ref a), l5, l6, l7, l8, l9, l10, l11, l12, l13, l14, l15, l16, l17, l18, l19] (.ref a :: st) σ Q := rn_step rfl (fun _ _ => rfl)
set_option maxRecDepth 20000 in
theorem sL_law_650n {d : Nat} {Q : mb_O → mb_S → Prop} {σ : mb_S} {st : List Value} {l0 l1 l2 l3 l5 l6 l7 l8 l9 l10 l11 l12 l13 l14 l15 l16 l17 l18 l19 : Option Value} : mb_Rn d 90 650 [l0, l1, l2, l3, some (.null), l5, l6, l7, l8, l9, l10, l11, l12, l13, l14, l15, l16, l17, l18, l19] st σ Q = mb_Rn d 90 652 [l0, l1, l2, l3, some (.null), l5, l6, l7, l8, l9, l10, l11, l12, l13, l14, l15, l16, l17, l18, l19] (.null :: st) σ Q := rn_step rfl (fun _ _ => rfl)
set_option maxRecDepth 20000 in
theorem sL_law_652 {d : Nat} {Q : mb_O → mb_S → Prop} {σ : mb_S} {st : List Value} {l0 l1 l2 l3 l4 l5 l6 l7 l8 l9 l10 l11 l12 l13 l14 l16 l17 l18 l19 : Option Value} {x : Int32} : mb_Rn d 90 652 [l0, l1, l2, l3, l4, l5, l6, l7, l8, l9, l10, l11, l12, l13, l14, some (.int x), l16, l17, l18, l19] st σ Q = mb_Rn d 90 654 [l0, l1, l2, l3, l4, l5, l6, l7, l8, l9, l10, l11, l12, l13, l14, some (.int x), l16, l17, l18, l19] (.int x :: st) σ Q := rn_step rfl (fun _ _ => rfl)
set_option maxRecDepth 20000 in
theorem sL_law_654 {d : Nat} {Q : mb_O → mb_S → Prop} {σ : mb_S} {st : List Value} {ls : mb_L} {a : Nat} {j : Int32} : mb_Rn d 90 654 ls (.int j :: .ref a :: st) σ Q = mb_gi σ a j False (fun kd _ f => if kd = 0 ∨ kd = 9 then mb_Rn d 90 655 ls (.int (f j.toNatClampNeg) :: st) σ Q else False) := rn_iald rfl
set_option maxRecDepth 20000 in
theorem sL_law_655 {d : Nat} {Q : mb_O → mb_S → Prop} {σ : mb_S} {st : List Value} {ls : mb_L} {x z : Int32} : mb_Rn d 90 655 ls (.int z :: .int x :: st) σ Q = if z = 0 then False else mb_Rn d 90 656 ls (.int (x % z) :: st) σ Q := rn_ite (f := fun _ => none) rfl (fun _ _ => rfl) ok_none rfl
set_option maxRecDepth 20000 in
theorem sL_law_656 {d : Nat} {Q : mb_O → mb_S → Prop} {σ : mb_S} {st : List Value} {l0 l1 l2 l3 l4 l5 l6 l7 l8 l9 l10 l11 l12 l13 l14 l15 l16 l17 l18 l19 : Option Value} {x : Int32} : mb_Rn d 90 656 [l0, l1, l2, l3, l4, l5, l6, l7, l8, l9, l10, l11, l12, l13, l14, l15, l16, l17, l18, l19] (.int x :: st) σ Q = mb_Rn d 90 658 [l0, l1, l2, l3, l4, l5, l6, l7, l8, l9, l10, l11, l12, l13, l14, l15, some (.int x), l17, l18, l19] st σ Q := rn_step rfl (fun _ _ => rfl)
set_option maxRecDepth 20000 in
theorem sL_law_658 {d : Nat} {Q : mb_O → mb_S → Prop} {σ : mb_S} {st : List Value} {ls : mb_L} : mb_Rn d 90 658 ls st σ Q = mb_Rn d 90 659 ls (.int 1 :: st) σ Q := rn_step rfl (fun _ _ => rfl)
set_option maxRecDepth 20000 in
theorem sL_law_659 {d : Nat} {Q : mb_O → mb_S → Prop} {σ : mb_S} {st : List Value} {l0 l1 l2 l3 l4 l5 l6 l7 l8 l9 l10 l11 l13 l14 l15 l16 l17 l18 l19 : Option Value} {x : Int32} : mb_Rn d 90 659 [l0, l1, l2, l3, l4, l5, l6, l7, l8, l9, l10, l11, some (.int x), l13, l14, l15, l16, l17, l18, l19] st σ Q = mb_Rn d 90 661 [l0, l1, l2, l3, l4, l5, l6, l7, l8, l9, l10, l11, some (.int x), l13, l14, l15, l16, l17, l18, l19] (.int x :: st) σ Q := rn_step rfl (fun _ _ => rfl)
set_option maxRecDepth 20000 in
theorem sL_law_661 {d : Nat} {Q : mb_O → mb_S → Prop} {σ : mb_S} {st : List Value} {ls : mb_L} : mb_Rn d 90 661 ls st σ Q = mb_Rn d 90 662 ls (.int 5 :: st) σ Q := rn_step rfl (fun _ _ => rfl)
set_option maxRecDepth 20000 in
theorem sL_law_662 {d : Nat} {Q : mb_O → mb_S → Prop} {σ : mb_S} {st : List Value} {ls : mb_L} {x z : Int32} : mb_Rn d 90 662 ls (.int z :: .int x :: st) σ Q = mb_Rn d 90 663 ls (.int (x >>> (z &&& 31)) :: st) σ Q := rn_step rfl (fun _ _ => rfl)
set_option maxRecDepth 20000 in
theorem sL_law_663 {d : Nat} {Q : mb_O → mb_S → Prop} {σ : mb_S} {st : List Value} {ls : mb_L} : mb_Rn d 90 663 ls st σ Q = mb_Rn d 90 664 ls (.int 2 :: st) σ Q := rn_step rfl (fun _ _ => rfl)
set_option maxRecDepth 20000 in
theorem sL_law_664 {d : Nat} {Q : mb_O → mb_S → Prop} {σ : mb_S} {st : List Value} {ls : mb_L} {x z : Int32} : mb_Rn d 90 664 ls (.int z :: .int x :: st) σ Q = if z = 0 then False else mb_Rn d 90 665 ls (.int (x % z) :: st) σ Q := rn_ite (f := fun _ => none) rfl (fun _ _ => rfl) ok_none rfl
set_option maxRecDepth 20000 in
theorem sL_law_665 {d : Nat} {Q : mb_O → mb_S → Prop} {σ : mb_S} {st : List Value} {ls : mb_L} {x z : Int32} : mb_Rn d 90 665 ls (.int z :: .int x :: st) σ Q = mb_Rn d 90 666 ls (.int (x + z) :: st) σ Q := rn_step rfl (fun _ _ => rfl)
set_option maxRecDepth 20000 in
theorem sL_law_666 {d : Nat} {Q : mb_O → mb_S → Prop} {σ : mb_S} {st : List Value} {l0 l1 l2 l3 l4 l5 l6 l7 l8 l9 l10 l11 l12 l13 l14 l15 l16 l17 l18 l19 : Option Value} {x : Int32} : mb_Rn d 90 666 [l0, l1, l2, l3, l4, l5, l6, l7, l8, l9, l10, l11, l12, l13, l14, l15, l16, l17, l18, l19] (.int x :: st) σ Q = mb_Rn d 90 668 [l0, l1, l2, l3, l4, l5, l6, l7, l8, l9, l10, l11, l12, l13, l14, l15, l16, some (.int x), l18, l19] st σ Q := rn_step rfl (fun _ _ => rfl)
set_option maxRecDepth 20000 in
theorem sL_law_668 {d : Nat} {Q : mb_O → mb_S → Prop} {σ : mb_S} {st : List Value} {l0 l2 l3 l4 l5 l6 l7 l8 l9 l10 l11 l12 l13 l14 l15 l16 l17 l18 l19 : Option Value} {a : Nat} : mb_Rn d 90 668 [l0, some (.ref a), l2, l3, l4, l5, l6, l7, l8, l9, l10, l11, l12, l13, l14, l15, l16, l17, l18, l19] st σ Q = mb_Rn d 90 669 [l0, some (.ref a), l2, l3, l4, l5, l6, l7, l8, l9, l10, l11, l12, l13, l14, l15, l16, l17, l18, l19] (.ref a :: st) σ Q := rn_step rfl (fun _ _ => rfl)
set_option maxRecDepth 20000 in
theorem sL_law_668n {d : Nat} {Q : mb_O → mb_S → Prop} {σ : mb_S} {st : List Value} {l0 l2 l3 l4 l5 l6 l7 l8 l9 l10 l11 l12 l13 l14 l15 l16 l17 l18 l19 : Option Value} : mb_Rn d 90 668 [l0, some (.null), l2, l3, l4, l5, l6, l7, l8, l9, l10, l11, l12, l13, l14, l15, l16, l17, l18, l19] st σ Q = mb_Rn d 90 669 [l0, some (.null), l2, l3, l4, l5, l6, l7, l8, l9, l10, l11, l12, l13, l14, l15, l16, l17, l18, l19] (.null :: st) σ Q := rn_step rfl (fun _ _ => rfl)
set_option maxRecDepth 20000 in
theorem sL_law_669 {d : Nat} {Q : mb_O → mb_S → Prop} {σ : mb_S} {st : List Value} {ls : mb_L} : mb_Rn d 90 669 ls st σ Q = mb_Rn d 90 670 ls (.int 5 :: st) σ Q := rn_step rfl (fun _ _ => rfl)
set_option maxRecDepth 20000 in
theorem sL_law_670 {d : Nat} {Q : mb_O → mb_S → Prop} {σ : mb_S} {st : List Value} {l0 l1 l2 l3 l4 l5 l6 l7 l8 l9 l10 l11 l12 l13 l14 l16 l17 l18 l19 : Option Value} {x : Int32} : mb_Rn d 90 670 [l0, l1, l2, l3, l4, l5, l6, l7, l8, l9, l10, l11, l12, l13, l14, some (.int x), l16, l17, l18, l19] st σ Q = mb_Rn d 90 672 [l0, l1, l2, l3, l4, l5, l6, l7, l8, l9, l10, l11, l12, l13, l14, some (.int x), l16, l17, l18, l19] (.int x :: st) σ Q := rn_step rfl (fun _ _ => rfl)
set_option maxRecDepth 20000 in
theorem sL_law_672 {d : Nat} {Q : mb_O → mb_S → Prop} {σ : mb_S} {st : List Value} {l0 l1 l2 l3 l4 l5 l6 l7 l8 l9 l10 l11 l12 l13 l14 l15 l17 l18 l19 : Option Value} {x : Int32} : mb_Rn d 90 672 [l0, l1, l2, l3, l4, l5, l6, l7, l8, l9, l10, l11, l12, l13, l14, l15, some (.int x), l17, l18, l19] st σ Q = mb_Rn d 90 674 [l0, l1, l2, l3, l4, l5, l6, l7, l8, l9, l10, l11, l12, l13, l14, l15, some (.int x), l17, l18, l19] (.int x :: st) σ Q := rn_step rfl (fun _ _ => rfl)
set_option maxRecDepth 20000 in
theorem sL_law_674 {d : Nat} {Q : mb_O → mb_S → Prop} {σ : mb_S} {st : List Value} {l0 l1 l2 l3 l4 l5 l6 l7 l8 l9 l10 l11 l12 l13 l14 l15 l16 l18 l19 : Option Value} {x : Int32} : mb_Rn d 90 674 [l0, l1, l2, l3, l4, l5, l6, l7, l8, l9, l10, l11, l12, l13, l14, l15, l16, some (.int x), l18, l19] st σ Q = mb_Rn d 90 676 [l0, l1, l2, l3, l4, l5, l6, l7, l8, l9, l10, l11, l12, l13, l14, l15, l16, some (.int x), l18, l19] (.int x :: st) σ Q := rn_step rfl (fun _ _ => rfl)
set_option maxRecDepth 20000 in
theorem sL_law_676 {d : Nat} {Q : mb_O → mb_S → Prop} {σ : mb_S} {st : List Value} {ls : mb_L} : mb_Rn d 90 676 ls st σ Q = mb_Rn d 90 677 ls (.int 0 :: st) σ Q := rn_step rfl (fun _ _ => rfl)
set_option maxRecDepth 20000 in
theorem sL_law_677 {d : Nat} {Q : mb_O → mb_S → Prop} {σ : mb_S} {st : List Value} {ls : mb_L} : mb_Rn d 90 677 ls st σ Q = mb_Rn d 90 678 ls (.int 0 :: st) σ Q := rn_step rfl (fun _ _ => rfl)
set_option maxRecDepth 20000 in
theorem sL_law_678 {d : Nat} {Q : mb_O → mb_S → Prop} {σ : mb_S} {st : List Value} {ls : mb_L} {p0 : Nat} {p1 : Int32} {p2 : Int32} {p3 : Int32} {p4 : Int32} {p5 : Int32} {p6 : Int32} (hd : 1 ≤ d) (h4 : st.length ≤ 4) : mb_Rn d 90 678 ls (.int p6 :: .int p5 :: .int p4 :: .int p3 :: .int p2 :: .int p1 :: .ref p0 :: st) σ Q = mb_Ex (d - 1) 86 [.ref p0, .int p1, .int p2, .int p3, .int p4, .int p5, .int p6] σ (mb_qk d 90 681 ls st Q) := rn_calls mb_good rfl hd rfl rfl ⟨rfl, rfl⟩ h4 ⟨Nat.le_of_ble_eq_true rfl, rfl⟩
set_option maxRecDepth 20000 in
theorem sL_law_681 {d : Nat} {Q : mb_O → mb_S → Prop} {σ : mb_S} {st : List Value} {l0 l1 l2 l3 l4 l5 l6 l7 l8 l9 l10 l11 l12 l13 l14 l15 l16 l17 l18 l19 : Option Value} {x : Int32} : mb_Rn d 90 681 [l0, l1, l2, l3, l4, l5, l6, l7, l8, l9, l10, l11, l12, l13, l14, l15, l16, l17, l18, l19] (.int x :: st) σ Q = mb_Rn d 90 683 [l0, l1, l2, l3, l4, l5, l6, l7, l8, l9, l10, l11, l12, l13, l14, l15, l16, l17, some (.int x), l19] st σ Q := rn_step rfl (fun _ _ => rfl)
set_option maxRecDepth 20000 in
theorem sL_law_683 {d : Nat} {Q : mb_O → mb_S → Prop} {σ : mb_S} {st : List Value} {l0 l1 l2 l3 l4 l5 l6 l7 l8 l9 l10 l11 l12 l13 l14 l15 l16 l18 l19 : Option Value} {x : Int32} : mb_Rn d 90 683 [l0, l1, l2, l3, l4, l5, l6, l7, l8, l9, l10, l11, l12, l13, l14, l15, l16, some (.int x), l18, l19] st σ Q = mb_Rn d 90 685 [l0, l1, l2, l3, l4, l5, l6, l7, l8, l9, l10, l11, l12, l13, l14, l15, l16, some (.int x), l18, l19] (.int x :: st) σ Q := rn_step rfl (fun _ _ => rfl)
set_option maxRecDepth 20000 in
theorem sL_law_685 {d : Nat} {Q : mb_O → mb_S → Prop} {σ : mb_S} {st : List Value} {l0 l1 l2 l3 l5 l6 l7 l8 l9 l10 l11 l12 l13 l14 l15 l16 l17 l18 l19 : Option Value} {a : Nat} : mb_Rn d 90 685 [l0, l1, l2, l3, some (.ref a), l5, l6, l7, l8, l9, l10, l11, l12, l13, l14, l15, l16, l17, l18, l19] st σ Q = mb_Rn d 90 687 [l0, l1, l2, l3, some (.ref a), l5, l6, l7, l8, l9, l10, l11, l12, l13, l14, l15, l16, l17, l18, l19] (.ref a :: st) σ Q := rn_step rfl (fun _ _ => rfl)
set_option maxRecDepth 20000 in
theorem sL_law_685n {d : Nat} {Q : mb_O → mb_S → Prop} {σ : mb_S} {st : List Value} {l0 l1 l2 l3 l5 l6 l7 l8 l9 l10 l11 l12 l13 l14 l15 l16 l17 l18 l19 : Option Value} : mb_Rn d 90 685 [l0, l1, l2, l3, some (.null), l5, l6, l7, l8, l9, l10, l11, l12, l13, l14, l15, l16, l17, l18, l19] st σ Q = mb_Rn d 90 687 [l0, l1, l2, l3, some (.null), l5, l6, l7, l8, l9, l10, l11, l12, l13, l14, l15, l16, l17, l18, l19] (.null :: st) σ Q := rn_step rfl (fun _ _ => rfl)
set_option maxRecDepth 20000 in
theorem sL_law_687 {d : Nat} {Q : mb_O → mb_S → Prop} {σ : mb_S} {st : List Value} {l0 l1 l2 l3 l4 l5 l6 l7 l8 l9 l10 l11 l12 l13 l14 l16 l17 l18 l19 : Option Value} {x : Int32} : mb_Rn d 90 687 [l0, l1, l2, l3, l4, l5, l6, l7, l8, l9, l10, l11, l12, l13, l14, some (.int x), l16, l17, l18, l19] st σ Q = mb_Rn d 90 689 [l0, l1, l2, l3, l4, l5, l6, l7, l8, l9, l10, l11, l12, l13, l14, some (.int x), l16, l17, l18, l19] (.int x :: st) σ Q := rn_step rfl (fun _ _ => rfl)
set_option maxRecDepth 20000 in
theorem sL_law_689 {d : Nat} {Q : mb_O → mb_S → Prop} {σ : mb_S} {st : List Value} {ls : mb_L} {a : Nat} {j : Int32} : mb_Rn d 90 689 ls (.int j :: .ref a :: st) σ Q = mb_gi σ a j False (fun kd _ f => if kd = 0 ∨ kd = 9 then mb_Rn d 90 690 ls (.int (f j.toNatClampNeg) :: st) σ Q else False) := rn_iald rfl
set_option maxRecDepth 20000 in
theorem sL_law_690 {d : Nat} {Q : mb_O → mb_S → Prop} {σ : mb_S} {st : List Value} {l0 l1 l2 l3 l4 l5 l6 l7 l8 l9 l10 l11 l12 l13 l14 l15 l17 l18 l19 : Option Value} {x : Int32} : mb_Rn d 90 690 [l0, l1, l2, l3, l4, l5, l6, l7, l8, l9, l10, l11, l12, l13, l14, l15, some (.int x), l17, l18, l19] st σ Q = mb_Rn d 90 692 [l0, l1, l2, l3, l4, l5, l6, l7, l8, l9, l10, l11, l12, l13, l14, l15, some (.int x), l17, l18, l19] (.int x :: st) σ Q := rn_step rfl (fun _ _ => rfl)
set_option maxRecDepth 20000 in
theorem sL_law_692 {d : Nat} {Q : mb_O → mb_S → Prop} {σ : mb_S} {st : List Value} {ls : mb_L} {x z : Int32} : mb_Rn d 90 692 ls (.int z :: .int x :: st) σ Q = mb_Rn d 90 693 ls (.int (x - z) :: st) σ Q := rn_step rfl (fun _ _ => rfl)
set_option maxRecDepth 20000 in
theorem sL_law_693 {d : Nat} {Q : mb_O → mb_S → Prop} {σ : mb_S} {st : List Value} {ls : mb_L} {x z : Int32} : mb_Rn d 90 693 ls (.int z :: .int x :: st) σ Q = if z < x then mb_Rn d 90 710 ls st σ Q else mb_Rn d 90 696 ls st σ Q := rn_ifb rfl (fun _ _ => rfl) decide_eq_true_iff
set_option maxRecDepth 20000 in
theorem sL_law_696 {d : Nat} {Q : mb_O → mb_S → Prop} {σ : mb_S} {st : List Value} {l0 l1 l2 l3 l4 l5 l6 l7 l8 l9 l10 l11 l12 l13 l14 l15 l16 l18 l19 : Option Value} {x : Int32} : mb_Rn d 90 696 [l0, l1, l2, l3, l4, l5, l6, l7, l8, l9, l10, l11, l12, l13, l14, l15, l16, some (.int x), l18, l19] st σ Q = mb_Rn d 90 698 [l0, l1, l2, l3, l4, l5, l6, l7, l8, l9, l10, l11, l12, l13, l14, l15, l16, some (.int x), l18, l19] (.int x :: st) σ Q := rn_step rfl (fun _ _ => rfl)
set_option maxRecDepth 20000 in
theorem sL_law_698 {d : Nat} {Q : mb_O → mb_S → Prop} {σ : mb_S} {st : List Value} {l0 l1 l2 l3 l5 l6 l7 l8 l9 l10 l11 l12 l13 l14 l15 l16 l17 l18 l19 : Option Value} {a : Nat} : mb_Rn d 90 698 [l0, l1, l2, l3, some (.ref a), l5, l6, l7, l8, l9, l10, l11, l12, l13, l14, l15, l16, l17, l18, l19] st σ Q = mb_Rn d 90 700 [l0, l1, l2, l3, some (.ref a), l5, l6, l7, l8, l9, l10, l11, l12, l13, l14, l15, l16, l17, l18, l19] (.ref a :: st) σ Q := rn_step rfl (fun _ _ => rfl)
set_option maxRecDepth 20000 in
theorem sL_law_698n {d : Nat} {Q : mb_O → mb_S → Prop} {σ : mb_S} {st : List Value} {l0 l1 l2 l3 l5 l6 l7 l8 l9 l10 l11 l12 l13 l14 l15 l16 l17 l18 l19 : Option Value} : mb_Rn d 90 698 [l0, l1, l2, l3, some (.null), l5, l6, l7, l8, l9, l10, l11, l12, l13, l14, l15, l16, l17, l18, l19] st σ Q = mb_Rn d 90 700 [l0, l1, l2, l3, some (.null), l5, l6, l7, l8, l9, l10, l11, l12, l13, l14, l15, l16, l17, l18, l19] (.null :: st) σ Q := rn_step rfl (fun _ _ => rfl)
set_option maxRecDepth 20000 in
theorem sL_law_700 {d : Nat} {Q : mb_O → mb_S → Prop} {σ : mb_S} {st : List Value} {l0 l1 l2 l3 l4 l5 l6 l7 l8 l9 l10 l11 l12 l13 l14 l16 l17 l18 l19 : Option Value} {x : Int32} : mb_Rn d 90 700 [l0, l1, l2, l3, l4, l5, l6, l7, l8, l9, l10, l11, l12, l13, l14, some (.int x), l16, l17, l18, l19] st σ Q = mb_Rn d 90 702 [l0, l1, l2, l3, l4, l5, l6, l7, l8, l9, l10, l11, l12, l13, l14, some (.int x), l16, l17, l18, l19] (.int x :: st) σ Q := rn_step rfl (fun _ _ => rfl)
set_option maxRecDepth 20000 in
theorem sL_law_702 {d : Nat} {Q : mb_O → mb_S → Prop} {σ : mb_S} {st : List Value} {ls : mb_L} {a : Nat} {j : Int32} : mb_Rn d 90 702 ls (.int j :: .ref a :: st) σ Q = mb_gi σ a j False (fun kd _ f => if kd = 0 ∨ kd = 9 then mb_Rn d 90 703 ls (.int (f j.toNatClampNeg) :: st) σ Q else False) := rn_iald rfl
set_option maxRecDepth 20000 in
theorem sL_law_703 {d : Nat} {Q : mb_O → mb_S → Prop} {σ : mb_S} {st : List Value} {ls : mb_L} {x z : Int32} : mb_Rn d 90 703 ls (.int z :: .int x :: st) σ Q = if z ≤ x then mb_Rn d 90 710 ls st σ Q else mb_Rn d 90 706 ls st σ Q := rn_ifb rfl (fun _ _ => rfl) decide_eq_true_iff
set_option maxRecDepth 20000 in
theorem sL_law_706 {d : Nat} {Q : mb_O → mb_S → Prop} {σ : mb_S} {st : List Value} {ls : mb_L} : mb_Rn d 90 706 ls st σ Q = mb_Rn d 90 707 ls (.int 1 :: st) σ Q := rn_step rfl (fun _ _ => rfl)
set_option maxRecDepth 20000 in
theorem sL_law_707 {d : Nat} {Q : mb_O → mb_S → Prop} {σ : mb_S} {st : List Value} {ls : mb_L} : mb_Rn d 90 707 ls st σ Q = mb_Rn d 90 711 ls st σ Q := rn_step rfl (fun _ _ => rfl)
set_option maxRecDepth 20000 in
theorem sL_law_710 {d : Nat} {Q : mb_O → mb_S → Prop} {σ : mb_S} {st : List Value} {ls : mb_L} : mb_Rn d 90 710 ls st σ Q = mb_Rn d 90 711 ls (.int 0 :: st) σ Q := rn_step rfl (fun _ _ => rfl)
set_option maxRecDepth 20000 in
theorem sL_law_711 {d : Nat} {Q : mb_O → mb_S → Prop} {σ : mb_S} {st : List Value} {l0 l1 l2 l3 l4 l5 l6 l7 l8 l9 l10 l11 l12 l13 l14 l15 l16 l17 l18 l19 : Option Value} {x : Int32} : mb_Rn d 90 711 [l0, l1, l2, l3, l4, l5, l6, l7, l8, l9, l10, l11, l12, l13, l14, l15, l16, l17, l18, l19] (.int x :: st) σ Q = mb_Rn d 90 713 [l0, l1, l2, l3, l4, l5, l6, l7, l8, l9, l10, l11, l12, l13, l14, l15, l16, l17, l18, some (.int x)] st σ Q := rn_step rfl (fun _ _ => rfl)
set_option maxRecDepth 20000 in
theorem sL_law_713 {d : Nat} {Q : mb_O → mb_S → Prop} {σ : mb_S} {st : List Value} {l0 l1 l2 l3 l4 l5 l6 l7 l8 l9 l10 l11 l12 l13 l14 l15 l16 l17 l19 : Option Value} {x : Int32} : mb_Rn d 90 713 [l0, l1, l2, l3, l4, l5, l6, l7, l8, l9, l10, l11, l12, l13, l14, l15, l16, l17, some (.int x), l19] st σ Q = mb_Rn d 90 715 [l0, l1, l2, l3, l4, l5, l6, l7, l8, l9, l10, l11, l12, l13, l14, l15, l16, l17, some (.int x), l19] (.int x :: st) σ Q := rn_step rfl (fun _ _ => rfl)
set_option maxRecDepth 20000 in
theorem sL_law_715 {d : Nat} {Q : mb_O → mb_S → Prop} {σ : mb_S} {st : List Value} {l0 l1 l2 l3 l4 l5 l6 l7 l8 l9 l10 l11 l12 l13 l14 l15 l16 l17 l18 : Option Value} {x : Int32} : mb_Rn d 90 715 [l0, l1, l2, l3, l4, l5, l6, l7, l8, l9, l10, l11, l12, l13, l14, l15, l16, l17, l18, some (.int x)] st σ Q = mb_Rn d 90 717 [l0, l1, l2, l3, l4, l5, l6, l7, l8, l9, l10, l11, l12, l13, l14, l15, l16, l17, l18, some (.int x)] (.int x :: st) σ Q := rn_step rfl (fun _ _ => rfl)
set_option maxRecDepth 20000 in
theorem sL_law_717 {d : Nat} {Q : mb_O → mb_S → Prop} {σ : mb_S} {st : List Value} {ls : mb_L} {x : Int32} : mb_Rn d 90 717 ls (.int x :: st) σ Q = if x = 0 then mb_Rn d 90 731 ls st σ Q else mb_Rn d 90 720 ls st σ Q := rn_ifb rfl (fun _ _ => rfl) beq_iff_eq
set_option maxRecDepth 20000 in
theorem sL_law_720 {d : Nat} {Q : mb_O → mb_S → Prop} {σ : mb_S} {st : List Value} {l0 l1 l2 l3 l5 l6 l7 l8 l9 l10 l11 l12 l13 l14 l15 l16 l17 l18 l19 : Option Value} {a : Nat} : mb_Rn d 90 720 [l0, l1, l2, l3, some (.ref a), l5, l6, l7, l8, l9, l10, l11, l12, l13, l14, l15, l16, l17, l18, l19] st σ Q = mb_Rn d 90 722 [l0, l1, l2, l3, some (.ref a), l5, l6, l7, l8, l9, l10, l11, l12, l13, l14, l15, l16, l17, l18, l19] (.ref a :: st) σ Q := rn_step rfl (fun _ _ => rfl)
set_option maxRecDepth 20000 in
theorem sL_law_720n {d : Nat} {Q : mb_O → mb_S → Prop} {σ : mb_S} {st : List Value} {l0 l1 l2 l3 l5 l6 l7 l8 l9 l10 l11 l12 l13 l14 l15 l16 l17 l18 l19 : Option Value} : mb_Rn d 90 720 [l0, l1, l2, l3, some (.null), l5, l6, l7, l8, l9, l10, l11, l12, l13, l14, l15, l16, l17, l18, l19] st σ Q = mb_Rn d 90 722 [l0, l1, l2, l3, some (.null), l5, l6, l7, l8, l9, l10, l11, l12, l13, l14, l15, l16, l17, l18, l19] (.null :: st) σ Q := rn_step rfl (fun _ _ => rfl)
set_option maxRecDepth 20000 in
theorem sL_law_722 {d : Nat} {Q : mb_O → mb_S → Prop} {σ : mb_S} {st : List Value} {l0 l1 l2 l3 l4 l5 l6 l7 l8 l9 l10 l11 l12 l13 l14 l16 l17 l18 l19 : Option Value} {x : Int32} : mb_Rn d 90 722 [l0, l1, l2, l3, l4, l5, l6, l7, l8, l9, l10, l11, l12, l13, l14, some (.int x), l16, l17, l18, l19] st σ Q = mb_Rn d 90 724 [l0, l1, l2, l3, l4, l5, l6, l7, l8, l9, l10, l11, l12, l13, l14, some (.int x), l16, l17, l18, l19] (.int x :: st) σ Q := rn_step rfl (fun _ _ => rfl)
set_option maxRecDepth 20000 in
theorem sL_law_724 {d : Nat} {Q : mb_O → mb_S → Prop} {σ : mb_S} {st : List Value} {ls : mb_L} {a : Nat} {j : Int32} : mb_Rn d 90 724 ls (.int j :: .ref a :: st) σ Q = mb_gi σ a j False (fun kd _ f => if kd = 0 ∨ kd = 9 then mb_Rn d 90 725 ls (.int (f j.toNatClampNeg) :: st) σ Q else False) := rn_iald rfl
set_option maxRecDepth 20000 in
theorem sL_law_725 {d : Nat} {Q : mb_O → mb_S → Prop} {σ : mb_S} {st : List Value} {l0 l1 l2 l3 l4 l5 l6 l7 l8 l9 l10 l11 l12 l13 l14 l15 l16 l18 l19 : Option Value} {x : Int32} : mb_Rn d 90 725 [l0, l1, l2, l3, l4, l5, l6, l7, l8, l9, l10, l11, l12, l13, l14, l15, l16, some (.int x), l18, l19] st σ Q = mb_Rn d 90 727 [l0, l1, l2, l3, l4, l5, l6, l7, l8, l9, l10, l11, l12, l13, l14, l15, l16, some (.int x), l18, l19] (.int x :: st) σ Q := rn_step rfl (fun _ _ => rfl)
set_option maxRecDepth 20000 in
theorem sL_law_727 {d : Nat} {Q : mb_O → mb_S → Prop} {σ : mb_S} {st : List Value} {ls : mb_L} {x z : Int32} : mb_Rn d 90 727 ls (.int z :: .int x :: st) σ Q = mb_Rn d 90 728 ls (.int (x - z) :: st) σ Q := rn_step rfl (fun _ _ => rfl)
set_option maxRecDepth 20000 in
theorem sL_law_728 {d : Nat} {Q : mb_O → mb_S → Prop} {σ : mb_S} {st : List Value} {ls : mb_L} : mb_Rn d 90 728 ls st σ Q = mb_Rn d 90 733 ls st σ Q := rn_step rfl (fun _ _ => rfl)
set_option maxRecDepth 20000 in
theorem sL_law_731 {d : Nat} {Q : mb_O → mb_S → Prop} {σ : mb_S} {st : List Value} {ls : mb_L} : mb_Rn d 90 731 ls st σ Q = mb_Rn d 90 733 ls (.int (-1000013) :: st) σ Q := rn_step rfl (fun _ _ => rfl)
set_option maxRecDepth 20000 in
theorem sL_law_733 {d : Nat} {Q : mb_O → mb_S → Prop} {σ : mb_S} {st : List Value} {ls : mb_L} {x z : Int32} : mb_Rn d 90 733 ls (.int z :: .int x :: st) σ Q = if x = z then mb_Rn d 90 736 ls st σ Q else mb_Rn d 90 740 ls st σ Q := rn_ifn rfl (fun _ _ => rfl) bne_iff_ne
set_option maxRecDepth 20000 in
theorem sL_law_736 {d : Nat} {Q : mb_O → mb_S → Prop} {σ : mb_S} {st : List Value} {ls : mb_L} : mb_Rn d 90 736 ls st σ Q = mb_Rn d 90 737 ls (.int 1 :: st) σ Q := rn_step rfl (fun _ _ => rfl)
set_option maxRecDepth 20000 in
theorem sL_law_737 {d : Nat} {Q : mb_O → mb_S → Prop} {σ : mb_S} {st : List Value} {ls : mb_L} : mb_Rn d 90 737 ls st σ Q = mb_Rn d 90 741 ls st σ Q := rn_step rfl (fun _ _ => rfl)
set_option maxRecDepth 20000 in
theorem sL_law_740 {d : Nat} {Q : mb_O → mb_S → Prop} {σ : mb_S} {st : List Value} {ls : mb_L} : mb_Rn d 90 740 ls st σ Q = mb_Rn d 90 741 ls (.int 0 :: st) σ Q := rn_step rfl (fun _ _ => rfl)
set_option maxRecDepth 20000 in
theorem sL_law_741 {d : Nat} {Q : mb_O → mb_S → Prop} {σ : mb_S} {st : List Value} {l0 l1 l2 l3 l4 l5 l6 l7 l8 l9 l10 l11 l12 l13 l14 l15 l16 l17 l18 l19 : Option Value} {x : Int32} : mb_Rn d 90 741 [l0, l1, l2, l3, l4, l5, l6, l7, l8, l9, l10, l11, l12, l13, l14, l15, l16, l17, l18, l19] (.int x :: st) σ Q = mb_Rn d 90 743 [l0, l1, l2, l3, l4, l5, l6, l7, l8, some (.int x), l10, l11, l12, l13, l14, l15, l16, l17, l18, l19] st σ Q := rn_step rfl (fun _ _ => rfl)
set_option maxRecDepth 20000 in
theorem sL_law_743 {d : Nat} {Q : mb_O → mb_S → Prop} {σ : mb_S} {st : List Value} {l0 l1 l2 l3 l5 l6 l7 l8 l9 l10 l11 l12 l13 l14 l15 l16 l17 l18 l19 : Option Value} {a : Nat} : mb_Rn d 90 743 [l0, l1, l2, l3, some (.ref a), l5, l6, l7, l8, l9, l10, l11, l12, l13, l14, l15, l16, l17, l18, l19] st σ Q = mb_Rn d 90 745 [l0, l1, l2, l3, some (.ref a), l5, l6, l7, l8, l9, l10, l11, l12, l13, l14, l15, l16, l17, l18, l19] (.ref a :: st) σ Q := rn_step rfl (fun _ _ => rfl)
set_option maxRecDepth 20000 in
theorem sL_law_743n {d : Nat} {Q : mb_O → mb_S → Prop} {σ : mb_S} {st : List Value} {l0 l1 l2 l3 l5 l6 l7 l8 l9 l10 l11 l12 l13 l14 l15 l16 l17 l18 l19 : Option Value} : mb_Rn d 90 743 [l0, l1, l2, l3, some (.null), l5, l6, l7, l8, l9, l10, l11, l12, l13, l14, l15, l16, l17, l18, l19] st σ Q = mb_Rn d 90 745 [l0, l1, l2, l3, some (.null), l5, l6, l7, l8, l9, l10, l11, l12, l13, l14, l15, l16, l17, l18, l19] (.null :: st) σ Q := rn_step rfl (fun _ _ => rfl)
set_option maxRecDepth 20000 in
theorem sL_law_745 {d : Nat} {Q : mb_O → mb_S → Prop} {σ : mb_S} {st : List Value} {l0 l1 l2 l3 l4 l5 l6 l7 l8 l9 l10 l11 l12 l13 l14 l16 l17 l18 l19 : Option Value} {x : Int32} : mb_Rn d 90 745 [l0, l1, l2, l3, l4, l5, l6, l7, l8, l9, l10, l11, l12, l13, l14, some (.int x), l16, l17, l18, l19] st σ Q = mb_Rn d 90 747 [l0, l1, l2, l3, l4, l5, l6, l7, l8, l9, l10, l11, l12, l13, l14, some (.int x), l16, l17, l18, l19] (.int x :: st) σ Q := rn_step rfl (fun _ _ => rfl)
set_option maxRecDepth 20000 in
theorem sL_law_747 {d : Nat} {Q : mb_O → mb_S → Prop} {σ : mb_S} {st : List Value} {ls : mb_L} {a : Nat} {x : Int32} : mb_Rn d 90 747 ls (.int x :: .ref a :: st) σ Q = mb_Rn d 90 748 ls (.int x :: .ref a :: .int x :: .ref a :: st) σ Q := rn_step rfl (fun _ _ => rfl)
set_option maxRecDepth 20000 in
theorem sL_law_748 {d : Nat} {Q : mb_O → mb_S → Prop} {σ : mb_S} {st : List Value} {ls : mb_L} {a : Nat} {j : Int32} : mb_Rn d 90 748 ls (.int j :: .ref a :: st) σ Q = mb_gi σ a j False (fun kd _ f => if kd = 0 ∨ kd = 9 then mb_Rn d 90 749 ls (.int (f j.toNatClampNeg) :: st) σ Q else False) := rn_iald rfl
set_option maxRecDepth 20000 in
theorem sL_law_749 {d : Nat} {Q : mb_O → mb_S → Prop} {σ : mb_S} {st : List Value} {l0 l1 l2 l3 l4 l5 l6 l7 l8 l9 l10 l11 l12 l13 l14 l15 l16 l17 l18 : Option Value} {x : Int32} : mb_Rn d 90 749 [l0, l1, l2, l3, l4, l5, l6, l7, l8, l9, l10, l11, l12, l13, l14, l15, l16, l17, l18, some (.int x)] st σ Q = mb_Rn d 90 751 [l0, l1, l2, l3, l4, l5, l6, l7, l8, l9, l10, l11, l12, l13, l14, l15, l16, l17, l18, some (.int x)] (.int x :: st) σ Q := rn_step rfl (fun _ _ => rfl)
set_option maxRecDepth 20000 in
theorem sL_law_751 {d : Nat} {Q : mb_O → mb_S → Prop} {σ : mb_S} {st : List Value} {ls : mb_L} {x : Int32} : mb_Rn d 90 751 ls (.int x :: st) σ Q = if x = 0 then mb_Rn d 90 759 ls st σ Q else mb_Rn d 90 754 ls st σ Q := rn_ifb rfl (fun _ _ => rfl) beq_iff_eq
set_option maxRecDepth 20000 in
theorem sL_law_754 {d : Nat} {Q : mb_O → mb_S → Prop} {σ : mb_S} {st : List Value} {l0 l1 l2 l3 l4 l5 l6 l7 l8 l9 l10 l11 l12 l13 l14 l15 l16 l18 l19 : Option Value} {x : Int32} : mb_Rn d 90 754 [l0, l1, l2, l3, l4, l5, l6, l7, l8, l9, l10, l11, l12, l13, l14, l15, l16, some (.int x), l18, l19] st σ Q = mb_Rn d 90 756 [l0, l1, l2, l3, l4, l5, l6, l7, l8, l9, l10, l11, l12, l13, l14, l15, l16, some (.int x), l18, l19] (.int x :: st) σ Q := rn_step rfl (fun _ _ => rfl)
set_option maxRecDepth 20000 in
theorem sL_law_756 {d : Nat} {Q : mb_O → mb_S → Prop} {σ : mb_S} {st : List Value} {ls : mb_L} : mb_Rn d 90 756 ls st σ Q = mb_Rn d 90 760 ls st σ Q := rn_step rfl (fun _ _ => rfl)
set_option maxRecDepth 20000 in
theorem sL_law_759 {d : Nat} {Q : mb_O → mb_S → Prop} {σ : mb_S} {st : List Value} {ls : mb_L} : mb_Rn d 90 759 ls st σ Q = mb_Rn d 90 760 ls (.int 0 :: st) σ Q := rn_step rfl (fun _ _ => rfl)
set_option maxRecDepth 20000 in
theorem sL_law_760 {d : Nat} {Q : mb_O → mb_S → Prop} {σ : mb_S} {st : List Value} {ls : mb_L} {x z : Int32} : mb_Rn d 90 760 ls (.int z :: .int x :: st) σ Q = mb_Rn d 90 761 ls (.int (x - z) :: st) σ Q := rn_step rfl (fun _ _ => rfl)
set_option maxRecDepth 20000 in
theorem sL_law_761 {d : Nat} {Q : mb_O → mb_S → Prop} {σ : mb_S} {st : List Value} {ls : mb_L} {a : Nat} {j x : Int32} : mb_Rn d 90 761 ls (.int x :: .int j :: .ref a :: st) σ Q = mb_gi σ a j False (fun kd n f => if kd = 0 then mb_Rn d 90 762 ls st (mb_up σ a (.inl (0, n, .inl (upd f j.toNatClampNeg x)))) Q else False) := rn_iast rfl
set_option maxRecDepth 20000 in
theorem sL_law_762 {d : Nat} {Q : mb_O → mb_S → Prop} {σ : mb_S} {st : List Value} {ls : mb_L} : mb_Rn d 90 762 ls st σ Q = mb_Rn d 90 1268 ls st σ Q := rn_step rfl (fun _ _ => rfl)
set_option maxRecDepth 20000 in
theorem sL_law_765 {d : Nat} {Q : mb_O → mb_S → Prop} {σ : mb_S} {st : List Value} {l0 l1 l2 l3 l4 l5 l6 l7 l8 l9 l10 l11 l12 l14 l15 l16 l17 l18 l19 : Option Value} {x : Int32} : mb_Rn d 90 765 [l0, l1, l2, l3, l4, l5, l6, l7, l8, l9, l10, l11, l12, some (.int x), l14, l15, l16, l17, l18, l19] st σ Q = mb_Rn d 90 767 [l0, l1, l2, l3, l4, l5, l6, l7, l8, l9, l10, l11, l12, some (.int x), l14, l15, l16, l17, l18, l19] (.int x :: st) σ Q := rn_step rfl (fun _ _ => rfl)
set_option maxRecDepth 20000 in
theorem sL_law_767 {d : Nat} {Q : mb_O → mb_S → Prop} {σ : mb_S} {st : List Value} {ls : mb_L} : mb_Rn d 90 767 ls st σ Q = mb_Rn d 90 769 ls (.int 22 :: st) σ Q := rn_step rfl (fun _ _ => rfl)
set_option maxRecDepth 20000 in
theorem sL_law_769 {d : Nat} {Q : mb_O → mb_S → Prop} {σ : mb_S} {st : List Value} {ls : mb_L} {x z : Int32} : mb_Rn d 90 769 ls (.int z :: .int x :: st) σ Q = if z ≤ x then mb_Rn d 90 818 ls st σ Q else mb_Rn d 90 772 ls st σ Q := rn_ifb rfl (fun _ _ => rfl) decide_eq_true_iff
set_option maxRecDepth 20000 in
theorem sL_law_772 {d : Nat} {Q : mb_O → mb_S → Prop} {σ : mb_S} {st : List Value} {l0 l1 l2 l3 l4 l5 l6 l8 l9 l10 l11 l12 l13 l14 l15 l16 l17 l18 l19 : Option Value} {x : Int32} : mb_Rn d 90 772 [l0, l1, l2, l3, l4, l5, l6, some (.int x), l8, l9, l10, l11, l12, l13, l14, l15, l16, l17, l18, l19] st σ Q = mb_Rn d 90 774 [l0, l1, l2, l3, l4, l5, l6, some (.int x), l8, l9, l10, l11, l12, l13, l14, l15, l16, l17, l18, l19] (.int x :: st) σ Q := rn_step rfl (fun _ _ => rfl)
set_option maxRecDepth 20000 in
theorem sL_law_774 {d : Nat} {Q : mb_O → mb_S → Prop} {σ : mb_S} {st : List Value} {ls : mb_L} : mb_Rn d 90 774 ls st σ Q = mb_Rn d 90 776 ls (.int 40 :: st) σ Q := rn_step rfl (fun _ _ => rfl)
set_option maxRecDepth 20000 in
theorem sL_law_776 {d : Nat} {Q : mb_O → mb_S → Prop} {σ : mb_S} {st : List Value} {ls : mb_L} {x z : Int32} : mb_Rn d 90 776 ls (.int z :: .int x :: st) σ Q = if z ≤ x then mb_Rn d 90 818 ls st σ Q else mb_Rn d 90 779 ls st σ Q := rn_ifb rfl (fun _ _ => rfl) decide_eq_true_iff
set_option maxRecDepth 20000 in
theorem sL_law_779 {d : Nat} {Q : mb_O → mb_S → Prop} {σ : mb_S} {st : List Value} {l0 l2 l3 l4 l5 l6 l7 l8 l9 l10 l11 l12 l13 l14 l15 l16 l17 l18 l19 : Option Value} {a : Nat} : mb_Rn d 90 779 [l0, some (.ref a), l2, l3, l4, l5, l6, l7, l8, l9, l10, l11, l12, l13, l14, l15, l16, l17, l18, l19] st σ Q = mb_Rn d 90 780 [l0, some (.ref a), l2, l3, l4, l5, l6, l7, l8, l9, l10, l11, l12, l13, l14, l15, l16, l17, l18, l19] (.ref a :: st) σ Q := rn_step rfl (fun _ _ => rfl)
set_option maxRecDepth 20000 in
theorem sL_law_779n {d : Nat} {Q : mb_O → mb_S → Prop} {σ : mb_S} {st : List Value} {l0 l2 l3 l4 l5 l6 l7 l8 l9 l10 l11 l12 l13 l14 l15 l16 l17 l18 l19 : Option Value} : mb_Rn d 90 779 [l0, some (.null), l2, l3, l4, l5, l6, l7, l8, l9, l10, l11, l12, l13, l14, l15, l16, l17, l18, l19] st σ Q = mb_Rn d 90 780 [l0, some (.null), l2, l3, l4, l5, l6, l7, l8, l9, l10, l11, l12, l13, l14, l15, l16, l17, l18, l19] (.null :: st) σ Q := rn_step rfl (fun _ _ => rfl)
set_option maxRecDepth 20000 in
theorem sL_law_780 {d : Nat} {Q : mb_O → mb_S → Prop} {σ : mb_S} {st : List Value} {ls : mb_L} : mb_Rn d 90 780 ls st σ Q = mb_Rn d 90 782 ls (.int 6 :: st) σ Q := rn_step rfl (fun _ _ => rfl)
set_option maxRecDepth 20000 in
theorem sL_law_782 {d : Nat} {Q : mb_O → mb_S → Prop} {σ : mb_S} {st : List Value} {l0 l1 l2 l3 l4 l5 l6 l7 l8 l9 l10 l11 l12 l13 l14 l16 l17 l18 l19 : Option Value} {x : Int32} : mb_Rn d 90 782 [l0, l1, l2, l3, l4, l5, l6, l7, l8, l9, l10, l11, l12, l13, l14, some (.int x), l16, l17, l18, l19] st σ Q = mb_Rn d 90 784 [l0, l1, l2, l3, l4, l5, l6, l7, l8, l9, l10, l11, l12, l13, l14, some (.int x), l16, l17, l18, l19] (.int x :: st) σ Q := rn_step rfl (fun _ _ => rfl)
set_option maxRecDepth 20000 in
theorem sL_law_784 {d : Nat} {Q : mb_O → mb_S → Prop} {σ : mb_S} {st : List Value} {l0 l1 l2 l3 l4 l5 l6 l7 l8 l9 l10 l11 l13 l14 l15 l16 l17 l18 l19 : Option Value} {x : Int32} : mb_Rn d 90 784 [l0, l1, l2, l3, l4, l5, l6, l7, l8, l9, l10, l11, some (.int x), l13, l14, l15, l16, l17, l18, l19] st σ Q = mb_Rn d 90 786 [l0, l1, l2, l3, l4, l5, l6, l7, l8, l9, l10, l11, some (.int x), l13, l14, l15, l16, l17, l18, l19] (.int x :: st) σ Q := rn_step rfl (fun _ _ => rfl)
set_option maxRecDepth 20000 in
theorem sL_law_786 {d : Nat} {Q : mb_O → mb_S → Prop} {σ : mb_S} {st : List Value} {ls : mb_L} : mb_Rn d 90 786 ls st σ Q = mb_Rn d 90 787 ls (.int 2 :: st) σ Q := rn_step rfl (fun _ _ => rfl)
set_option maxRecDepth 20000 in
theorem sL_law_787 {d : Nat} {Q : mb_O → mb_S → Prop} {σ : mb_S} {st : List Value} {ls : mb_L} {x z : Int32} : mb_Rn d 90 787 ls (.int z :: .int x :: st) σ Q = mb_Rn d 90 788 ls (.int (x >>> (z &&& 31)) :: st) σ Q := rn_step rfl (fun _ _ => rfl)
set_option maxRecDepth 20000 in
theorem sL_law_788 {d : Nat} {Q : mb_O → mb_S → Prop} {σ : mb_S} {st : List Value} {l0 l1 l2 l3 l5 l6 l7 l8 l9 l10 l11 l12 l13 l14 l15 l16 l17 l18 l19 : Option Value} {a : Nat} : mb_Rn d 90 788 [l0, l1, l2, l3, some (.ref a), l5, l6, l7, l8, l9, l10, l11, l12, l13, l14, l15, l16, l17, l18, l19] st σ Q = mb_Rn d 90 790 [l0, l1, l2, l3, some (.ref a), l5, l6, l7, l8, l9, l10, l11, l12, l13, l14, l15, l16, l17, l18, l19] (.ref a :: st) σ Q := rn_step rfl (fun _ _ => rfl)
set_option maxRecDepth 20000 in
theorem sL_law_788n {d : Nat} {Q : mb_O → mb_S → Prop} {σ : mb_S} {st : List Value} {l0 l1 l2 l3 l5 l6 l7 l8 l9 l10 l11 l12 l13 l14 l15 l16 l17 l18 l19 : Option Value} : mb_Rn d 90 788 [l0, l1, l2, l3, some (.null), l5, l6, l7, l8, l9, l10, l11, l12, l13, l14, l15, l16, l17, l18, l19] st σ Q = mb_Rn d 90 790 [l0, l1, l2, l3, some (.null), l5, l6, l7, l8, l9, l10, l11, l12, l13, l14, l15, l16, l17, l18, l19] (.null :: st) σ Q := rn_step rfl (fun _ _ => rfl)
set_option maxRecDepth 20000 in
theorem sL_law_790 {d : Nat} {Q : mb_O → mb_S → Prop} {σ : mb_S} {st : List Value} {l0 l1 l2 l3 l4 l5 l6 l7 l8 l9 l10 l11 l12 l13 l14 l16 l17 l18 l19 : Option Value} {x : Int32} : mb_Rn d 90 790 [l0, l1, l2, l3, l4, l5, l6, l7, l8, l9, l10, l11, l12, l13, l14, some (.int x), l16, l17, l18, l19] st σ Q = mb_Rn d 90 792 [l0, l1, l2, l3, l4, l5, l6, l7, l8, l9, l10, l11, l12, l13, l14, some (.int x), l16, l17, l18, l19] (.int x :: st) σ Q := rn_step rfl (fun _ _ => rfl)
set_option maxRecDepth 20000 in
theorem sL_law_792 {d : Nat} {Q : mb_O → mb_S → Prop} {σ : mb_S} {st : List Value} {ls : mb_L} {a : Nat} {j : Int32} : mb_Rn d 90 792 ls (.int j :: .ref a :: st) σ Q = mb_gi σ a j False (fun kd _ f => if kd = 0 ∨ kd = 9 then mb_Rn d 90 793 ls (.int (f j.toNatClampNeg) :: st) σ Q else False) := rn_iald rfl
set_option maxRecDepth 20000 in
theorem sL_law_793 {d : Nat} {Q : mb_O → mb_S → Prop} {σ : mb_S} {st : List Value} {ls : mb_L} {x z : Int32} : mb_Rn d 90 793 ls (.int z :: .int x :: st) σ Q = if z = 0 then False else mb_Rn d 90 794 ls (.int (x % z) :: st) σ Q := rn_ite (f := fun _ => none) rfl (fun _ _ => rfl) ok_none rfl
set_option maxRecDepth 20000 in
theorem sL_law_794 {d : Nat} {Q : mb_O → mb_S → Prop} {σ : mb_S} {st : List Value} {ls : mb_L} : mb_Rn d 90 794 ls st σ Q = mb_Rn d 90 795 ls (.int 0 :: st) σ Q := rn_step rfl (fun _ _ => rfl)
set_option maxRecDepth 20000 in
theorem sL_law_795 {d : Nat} {Q : mb_O → mb_S → Prop} {σ : mb_S} {st : List Value} {ls : mb_L} : mb_Rn d 90 795 ls st σ Q = mb_Rn d 90 796 ls (.int 0 :: st) σ Q := rn_step rfl (fun _ _ => rfl)
set_option maxRecDepth 20000 in
theorem sL_law_796 {d : Nat} {Q : mb_O → mb_S → Prop} {σ : mb_S} {st : List Value} {ls : mb_L} : mb_Rn d 90 796 ls st σ Q = mb_Rn d 90 797 ls (.int 0 :: st) σ Q := rn_step rfl (fun _ _ => rfl)
set_option maxRecDepth 20000 in
theorem sL_law_797 {d : Nat} {Q : mb_O → mb_S → Prop} {σ : mb_S} {st : List Value} {ls : mb_L} {p0 : Nat} {p1 : Int32} {p2 : Int32} {p3 : Int32} {p4 : Int32} {p5 : Int32} {p6 : Int32} (hd : 1 ≤ d) (h4 : st.length ≤ 4) : mb_Rn d 90 797 ls (.int p6 :: .int p5 :: .int p4 :: .int p3 :: .int p2 :: .int p1 :: .ref p0 :: st) σ Q = mb_Ex (d - 1) 86 [.ref p0, .int p1, .int p2, .int p3, .int p4, .int p5, .int p6] σ (mb_qk d 90 800 ls st Q) := rn_calls mb_good rfl hd rfl rfl ⟨rfl, rfl⟩ h4 ⟨Nat.le_of_ble_eq_true rfl, rfl⟩
set_option maxRecDepth 20000 in
theorem sL_law_800 {d : Nat} {Q : mb_O → mb_S → Prop} {σ : mb_S} {st : List Value} {l0 l1 l2 l3 l4 l5 l6 l8 l9 l10 l11 l12 l13 l14 l15 l16 l17 l18 l19 : Option Value} {x : Int32} : mb_Rn d 90 800 [l0, l1, l2, l3, l4, l5, l6, some (.int x), l8, l9, l10, l11, l12, l13, l14, l15, l16, l17, l18, l19] st σ Q = mb_Rn d 90 802 [l0, l1, l2, l3, l4, l5, l6, some (.int x), l8, l9, l10, l11, l12, l13, l14, l15, l16, l17, l18, l19] (.int x :: st) σ Q := rn_step rfl (fun _ _ => rfl)
set_option maxRecDepth 20000 in
theorem sL_law_802 {d : Nat} {Q : mb_O → mb_S → Prop} {σ : mb_S} {st : List Value} {ls : mb_L} {x z : Int32} : mb_Rn d 90 802 ls (.int z :: .int x :: st) σ Q = if x = z then mb_Rn d 90 805 ls st σ Q else mb_Rn d 90 809 ls st σ Q := rn_ifn rfl (fun _ _ => rfl) bne_iff_ne
set_option maxRecDepth 20000 in
theorem sL_law_805 {d : Nat} {Q : mb_O → mb_S → Prop} {σ : mb_S} {st : List Value} {ls : mb_L} : mb_Rn d 90 805 ls st σ Q = mb_Rn d 90 806 ls (.int 1 :: st) σ Q := rn_step rfl (fun _ _ => rfl)
set_option maxRecDepth 20000 in
theorem sL_law_806 {d : Nat} {Q : mb_O → mb_S → Prop} {σ : mb_S} {st : List Value} {ls : mb_L} : mb_Rn d 90 806 ls st σ Q = mb_Rn d 90 810 ls st σ Q := rn_step rfl (fun _ _ => rfl)
set_option maxRecDepth 20000 in
theorem sL_law_809 {d : Nat} {Q : mb_O → mb_S → Prop} {σ : mb_S} {st : List Value} {ls : mb_L} : mb_Rn d 90 809 ls st σ Q = mb_Rn d 90 810 ls (.int 0 :: st) σ Q := rn_step rfl (fun _ _ => rfl)
set_option maxRecDepth 20000 in
theorem sL_law_810 {d : Nat} {Q : mb_O → mb_S → Prop} {σ : mb_S} {st : List Value} {l0 l1 l2 l3 l4 l5 l6 l7 l8 l9 l10 l11 l12 l13 l14 l15 l16 l17 l18 l19 : Option Value} {x : Int32} : mb_Rn d 90 810 [l0, l1, l2, l3, l4, l5, l6, l7, l8, l9, l10, l11, l12, l13, l14, l15, l16, l17, l18, l19] (.int x :: st) σ Q = mb_Rn d 90 812 [l0, l1, l2, l3, l4, l5, l6, l7, l8, some (.int x), l10, l11, l12, l13, l14, l15, l16, l17, l18, l19] st σ Q := rn_step rfl (fun _ _ => rfl)
set_option maxRecDepth 20000 in
theorem sL_law_812 {d : Nat} {Q : mb_O → mb_S → Prop} {σ : mb_S} {st : List Value} {l0 l1 l2 l3 l4 l5 l6 l8 l9 l10 l11 l12 l13 l14 l15 l16 l17 l18 l19 : Option Value} {x : Int32} : mb_Rn d 90 812 [l0, l1, l2, l3, l4, l5, l6, some (.int x), l8, l9, l10, l11, l12, l13, l14, l15, l16, l17, l18, l19] st σ Q = mb_Rn d 90 815 [l0, l1, l2, l3, l4, l5, l6, some (.int (x + 1)), l8, l9, l10, l11, l12, l13, l14, l15, l16, l17, l18, l19] st σ Q := rn_step rfl (fun _ _ => rfl)
set_option maxRecDepth 20000 in
theorem sL_law_815 {d : Nat} {Q : mb_O → mb_S → Prop} {σ : mb_S} {st : List Value} {ls : mb_L} : mb_Rn d 90 815 ls st σ Q = mb_Rn d 90 1268 ls st σ Q := rn_step rfl (fun _ _ => rfl)
set_option maxRecDepth 20000 in
theorem sL_law_818 {d : Nat} {Q : mb_O → mb_S → Prop} {σ : mb_S} {st : List Value} {l0 l1 l2 l3 l4 l5 l6 l7 l8 l9 l10 l11 l12 l14 l15 l16 l17 l18 l19 : Option Value} {x : Int32} : mb_Rn d 90 818 [l0, l1, l2, l3, l4, l5, l6, l7, l8, l9, l10, l11, l12, some (.int x), l14, l15, l16, l17, l18, l19] st σ Q = mb_Rn d 90 820 [l0, l1, l2, l3, l4, l5, l6, l7, l8, l9, l10, l11, l12, some (.int x), l14, l15, l16, l17, l18, l19] (.int x :: st) σ Q := rn_step rfl (fun _ _ => rfl)
set_option maxRecDepth 20000 in
theorem sL_law_820 {d : Nat} {Q : mb_O → mb_S → Prop} {σ : mb_S} {st : List Value} {ls : mb_L} : mb_Rn d 90 820 ls st σ Q = mb_Rn d 90 822 ls (.int 22 :: st) σ Q := rn_step rfl (fun _ _ => rfl)
set_option maxRecDepth 20000 in
theorem sL_law_822 {d : Nat} {Q : mb_O → mb_S → Prop} {σ : mb_S} {st : List Value} {ls : mb_L} {x z : Int32} : mb_Rn d 90 822 ls (.int z :: .int x :: st) σ Q = if x = z then mb_Rn d 90 825 ls st σ Q else mb_Rn d 90 920 ls st σ Q := rn_ifn rfl (fun _ _ => rfl) bne_iff_ne
set_option maxRecDepth 20000 in
theorem sL_law_825 {d : Nat} {Q : mb_O → mb_S → Prop} {σ : mb_S} {st : List Value} {l0 l1 l2 l3 l4 l5 l6 l8 l9 l10 l11 l12 l13 l14 l15 l16 l17 l18 l19 : Option Value} {x : Int32} : mb_Rn d 90 825 [l0, l1, l2, l3, l4, l5, l6, some (.int x), l8, l9, l10, l11, l12, l13, l14, l15, l16, l17, l18, l19] st σ Q = mb_Rn d 90 827 [l0, l1, l2, l3, l4, l5, l6, some (.int x), l8, l9, l10, l11, l12, l13, l14, l15, l16, l17, l18, l19] (.int x :: st) σ Q := rn_step rfl (fun _ _ => rfl)
set_option maxRecDepth 20000 in
theorem sL_law_827 {d : Nat} {Q : mb_O → mb_S → Prop} {σ : mb_S} {st : List Value} {ls : mb_L} {x : Int32} : mb_Rn d 90 827 ls (.int x :: st) σ Q = if x ≤ 0 then mb_Rn d 90 920 ls st σ Q else mb_Rn d 90 830 ls st σ Q := rn_ifb rfl (fun _ _ => rfl) decide_eq_true_iff
set_option maxRecDepth 20000 in
theorem sL_law_830 {d : Nat} {Q : mb_O → mb_S → Prop} {σ : mb_S} {st : List Value} {l0 l2 l3 l4 l5 l6 l7 l8 l9 l10 l11 l12 l13 l14 l15 l16 l17 l18 l19 : Option Value} {a : Nat} : mb_Rn d 90 830 [l0, some (.ref a), l2, l3, l4, l5, l6, l7, l8, l9, l10, l11, l12, l13, l14, l15, l16, l17, l18, l19] st σ Q = mb_Rn d 90 831 [l0, some (.ref a), l2, l3, l4, l5, l6, l7, l8, l9, l10, l11, l12, l13, l14, l15, l16, l17, l18, l19] (.ref a :: st) σ Q := rn_step rfl (fun _ _ => rfl)
set_option maxRecDepth 20000 in
theorem sL_law_830n {d : Nat} {Q : mb_O → mb_S → Prop} {σ : mb_S} {st : List Value} {l0 l2 l3 l4 l5 l6 l7 l8 l9 l10 l11 l12 l13 l14 l15 l16 l17 l18 l19 : Option Value} : mb_Rn d 90 830 [l0, some (.null), l2, l3, l4, l5, l6, l7, l8, l9, l10, l11, l12, l13, l14, l15, l16, l17, l18, l19] st σ Q = mb_Rn d 90 831 [l0, some (.null), l2, l3, l4, l5, l6, l7, l8, l9, l10, l11, l12, l13, l14, l15, l16, l17, l18, l19] (.null :: st) σ Q := rn_step rfl (fun _ _ => rfl)
set_option maxRecDepth 20000 in
theorem sL_law_831 {d : Nat} {Q : mb_O → mb_S → Prop} {σ : mb_S} {st : List Value} {ls : mb_L} : mb_Rn d 90 831 ls st σ Q = mb_Rn d 90 833 ls (.int 6 :: st) σ Q := rn_step rfl (fun _ _ => rfl)
set_option maxRecDepth 20000 in
theorem sL_law_833 {d : Nat} {Q : mb_O → mb_S → Prop} {σ : mb_S} {st : List Value} {ls : mb_L} {p0 : Int32} {b : Nat} (hd : 1 ≤ d) (h4 : st.length ≤ 4) : mb_Rn d 90 833 ls (.int p0 :: .ref b :: st) σ Q = mb_gf σ b 7 False (fun _ => mb_Ex (d - 1) 61 [.ref b, .int p0] σ (mb_qx [] d 90 836 ls st Q)) := rn_callv mb_good rfl hd rfl rfl ⟨rfl, rfl⟩ h4 ⟨Nat.le_of_ble_eq_true rfl, rfl⟩
set_option maxRecDepth 20000 in
theorem sL_law_836 {d : Nat} {Q : mb_O → mb_S → Prop} {σ : mb_S} {st : List Value} {l0 l1 l2 l3 l4 l5 l6 l7 l8 l9 l10 l11 l12 l13 l14 l15 l16 l17 l18 l19 : Option Value} {x : Int32} : mb_Rn d 90 836 [l0, l1, l2, l3, l4, l5, l6, l7, l8, l9, l10, l11, l12, l13, l14, l15, l16, l17, l18, l19] (.int x :: st) σ Q = mb_Rn d 90 838 [l0, l1, l2, l3, l4, l5, l6, l7, l8, l9, l10, l11, l12, l13, l14, l15, some (.int x), l17, l18, l19] st σ Q := rn_step rfl (fun _ _ => rfl)
set_option maxRecDepth 20000 in
theorem sL_law_838 {d : Nat} {Q : mb_O → mb_S → Prop} {σ : mb_S} {st : List Value} {l0 l2 l3 l4 l5 l6 l7 l8 l9 l10 l11 l12 l13 l14 l15 l16 l17 l18 l19 : Option Value} {a : Nat} : mb_Rn d 90 838 [l0, some (.ref a), l2, l3, l4, l5, l6, l7, l8, l9, l10, l11, l12, l13, l14, l15, l16, l17, l18, l19] st σ Q = mb_Rn d 90 839 [l0, some (.ref a), l2, l3, l4, l5, l6, l7, l8, l9, l10, l11, l12, l13, l14, l15, l16, l17, l18, l19] (.ref a :: st) σ Q := rn_step rfl (fun _ _ => rfl)
set_option maxRecDepth 20000 in
theorem sL_law_838n {d : Nat} {Q : mb_O → mb_S → Prop} {σ : mb_S} {st : List Value} {l0 l2 l3 l4 l5 l6 l7 l8 l9 l10 l11 l12 l13 l14 l15 l16 l17 l18 l19 : Option Value} : mb_Rn d 90 838 [l0, some (.null), l2, l3, l4, l5, l6, l7, l8, l9, l10, l11, l12, l13, l14, l15, l16, l17, l18, l19] st σ Q = mb_Rn d 90 839 [l0, some (.null), l2, l3, l4, l5, l6, l7, l8, l9, l10, l11, l12, l13, l14, l15, l16, l17, l18, l19] (.null :: st) σ Q := rn_step rfl (fun _ _ => rfl)
set_option maxRecDepth 20000 in
theorem sL_law_839 {d : Nat} {Q : mb_O → mb_S → Prop} {σ : mb_S} {st : List Value} {ls : mb_L} : mb_Rn d 90 839 ls st σ Q = mb_Rn d 90 841 ls (.int 7 :: st) σ Q := rn_step rfl (fun _ _ => rfl)
set_option maxRecDepth 20000 in
theorem sL_law_841 {d : Nat} {Q : mb_O → mb_S → Prop} {σ : mb_S} {st : List Value} {l0 l1 l2 l3 l4 l5 l6 l7 l8 l9 l10 l11 l13 l14 l15 l16 l17 l18 l19 : Option Value} {x : Int32} : mb_Rn d 90 841 [l0, l1, l2, l3, l4, l5, l6, l7, l8, l9, l10, l11, some (.int x), l13, l14, l15, l16, l17, l18, l19] st σ Q = mb_Rn d 90 843 [l0, l1, l2, l3, l4, l5, l6, l7, l8, l9, l10, l11, some (.int x), l13, l14, l15, l16, l17, l18, l19] (.int x :: st) σ Q := rn_step rfl (fun _ _ => rfl)
set_option maxRecDepth 20000 in
theorem sL_law_843 {d : Nat} {Q : mb_O → mb_S → Prop} {σ : mb_S} {st : List Value} {ls : mb_L} : mb_Rn d 90 843 ls st σ Q = mb_Rn d 90 844 ls (.int 2 :: st) σ Q := rn_step rfl (fun _ _ => rfl)
set_option maxRecDepth 20000 in
theorem sL_law_844 {d : Nat} {Q : mb_O → mb_S → Prop} {σ : mb_S} {st : List Value} {ls : mb_L} {x z : Int32} : mb_Rn d 90 844 ls (.int z :: .int x :: st) σ Q = mb_Rn d 90 845 ls (.int (x >>> (z &&& 31)) :: st) σ Q := rn_step rfl (fun _ _ => rfl)
set_option maxRecDepth 20000 in
theorem sL_law_845 {d : Nat} {Q : mb_O → mb_S → Prop} {σ : mb_S} {st : List Value} {l0 l1 l2 l3 l4 l5 l6 l8 l9 l10 l11 l12 l13 l14 l15 l16 l17 l18 l19 : Option Value} {x : Int32} : mb_Rn d 90 845 [l0, l1, l2, l3, l4, l5, l6, some (.int x), l8, l9, l10, l11, l12, l13, l14, l15, l16, l17, l18, l19] st σ Q = mb_Rn d 90 847 [l0, l1, l2, l3, l4, l5, l6, some (.int x), l8, l9, l10, l11, l12, l13, l14, l15, l16, l17, l18, l19] (.int x :: st) σ Q := rn_step rfl (fun _ _ => rfl)
set_option maxRecDepth 20000 in
theorem sL_law_847 {d : Nat} {Q : mb_O → mb_S → Prop} {σ : mb_S} {st : List Value} {ls : mb_L} {x z : Int32} : mb_Rn d 90 847 ls (.int z :: .int x :: st) σ Q = if z = 0 then False else mb_Rn d 90 848 ls (.int (x % z) :: st) σ Q := rn_ite (f := fun _ => none) rfl (fun _ _ => rfl) ok_none rfl
set_option maxRecDepth 20000 in
theorem sL_law_848 {d : Nat} {Q : mb_O → mb_S → Prop} {σ : mb_S} {st : List Value} {ls : mb_L} : mb_Rn d 90 848 ls st σ Q = mb_Rn d 90 849 ls (.int 0 :: st) σ Q := rn_step rfl (fun _ _ => rfl)
set_option maxRecDepth 20000 in
theorem sL_law_849 {d : Nat} {Q : mb_O → mb_S → Prop} {σ : mb_S} {st : List Value} {ls : mb_L} : mb_Rn d 90 849 ls st σ Q = mb_Rn d 90 850 ls (.int 0 :: st) σ Q := rn_step rfl (fun _ _ => rfl)
set_option maxRecDepth 20000 in
theorem sL_law_850 {d : Nat} {Q : mb_O → mb_S → Prop} {σ : mb_S} {st : List Value} {ls : mb_L} : mb_Rn d 90 850 ls st σ Q = mb_Rn d 90 851 ls (.int 0 :: st) σ Q := rn_step rfl (fun _ _ => rfl)
set_option maxRecDepth 20000 in
theorem sL_law_851 {d : Nat} {Q : mb_O → mb_S → Prop} {σ : mb_S} {st : List Value} {ls : mb_L} : mb_Rn d 90 851 ls st σ Q = mb_Rn d 90 852 ls (.int 0 :: st) σ Q := rn_step rfl (fun _ _ => rfl)
set_option maxRecDepth 20000 in
theorem sL_law_852 {d : Nat} {Q : mb_O → mb_S → Prop} {σ : mb_S} {st : List Value} {ls : mb_L} {p0 : Nat} {p1 : Int32} {p2 : Int32} {p3 : Int32} {p4 : Int32} {p5 : Int32} {p6 : Int32} (hd : 1 ≤ d) (h4 : st.length ≤ 4) : mb_Rn d 90 852 ls (.int p6 :: .int p5 :: .int p4 :: .int p3 :: .int p2 :: .int p1 :: .ref p0 :: st) σ Q = mb_Ex (d - 1) 86 [.ref p0, .int p1, .int p2, .int p3, .int p4, .int p5, .int p6] σ (mb_qk d 90 855 ls st Q) := rn_calls mb_good rfl hd rfl rfl ⟨rfl, rfl⟩ h4 ⟨Nat.le_of_ble_eq_true rfl, rfl⟩
set_option maxRecDepth 20000 in
theorem sL_law_855 {d : Nat} {Q : mb_O → mb_S → Prop} {σ : mb_S} {st : List Value} {l0 l1 l2 l3 l4 l5 l6 l7 l8 l9 l10 l11 l12 l13 l14 l15 l16 l17 l18 l19 : Option Value} {x : Int32} : mb_Rn d 90 855 [l0, l1, l2, l3, l4, l5, l6, l7, l8, l9, l10, l11, l12, l13, l14, l15, l16, l17, l18, l19] (.int x :: st) σ Q = mb_Rn d 90 857 [l0, l1, l2, l3, l4, l5, l6, l7, l8, l9, l10, l11, l12, l13, l14, l15, l16, some (.int x), l18, l19] st σ Q := rn_step rfl (fun _ _ => rfl)
set_option maxRecDepth 20000 in
theorem sL_law_857 {d : Nat} {Q : mb_O → mb_S → Prop} {σ : mb_S} {st : List Value} {l0 l1 l2 l3 l4 l5 l6 l7 l8 l9 l10 l11 l12 l13 l14 l15 l16 l18 l19 : Option Value} {x : Int32} : mb_Rn d 90 857 [l0, l1, l2, l3, l4, l5, l6, l7, l8, l9, l10, l11, l12, l13, l14, l15, l16, some (.int x), l18, l19] st σ Q = mb_Rn d 90 859 [l0, l1, l2, l3, l4, l5, l6, l7, l8, l9, l10, l11, l12, l13, l14, l15, l16, some (.int x), l18, l19] (.int x :: st) σ Q := rn_step rfl (fun _ _ => rfl)
set_option maxRecDepth 20000 in
theorem sL_law_859 {d : Nat} {Q : mb_O → mb_S → Prop} {σ : mb_S} {st : List Value} {ls : mb_L} {x : Int32} : mb_Rn d 90 859 ls (.int x :: st) σ Q = if x < 0 then mb_Rn d 90 892 ls st σ Q else mb_Rn d 90 862 ls st σ Q := rn_ifb rfl (fun _ _ => rfl) decide_eq_true_iff
set_option maxRecDepth 20000 in
theorem sL_law_862 {d : Nat} {Q : mb_O → mb_S → Prop} {σ : mb_S} {st : List Value} {l0 l2 l3 l4 l5 l6 l7 l8 l9 l10 l11 l12 l13 l14 l15 l16 l17 l18 l19 : Option Value} {a : Nat} : mb_Rn d 90 862 [l0, some (.ref a), l2, l3, l4, l5, l6, l7, l8, l9, l10, l11, l12, l13, l14, l15, l16, l17, l18, l19] st σ Q = mb_Rn d 90 863 [l0, some (.ref a), l2, l3, l4, l5, l6, l7, l8, l9, l10, l11, l12, l13, l14, l15, l16, l17, l18, l19] (.ref a :: st) σ Q := rn_step rfl (fun _ _ => rfl)
set_option maxRecDepth 20000 in
theorem sL_law_862n {d : Nat} {Q : mb_O → mb_S → Prop} {σ : mb_S} {st : List Value} {l0 l2 l3 l4 l5 l6 l7 l8 l9 l10 l11 l12 l13 l14 l15 l16 l17 l18 l19 : Option Value} : mb_Rn d 90 862 [l0, some (.null), l2, l3, l4, l5, l6, l7, l8, l9, l10, l11, l12, l13, l14, l15, l16, l17, l18, l19] st σ Q = mb_Rn d 90 863 [l0, some (.null), l2, l3, l4, l5, l6, l7, l8, l9, l10, l11, l12, l13, l14, l15, l16, l17, l18, l19] (.null :: st) σ Q := rn_step rfl (fun _ _ => rfl)
set_option maxRecDepth 20000 in
theorem sL_law_863 {d : Nat} {Q : mb_O → mb_S → Prop} {σ : mb_S} {st : List Value} {ls : mb_L} : mb_Rn d 90 863 ls st σ Q = mb_Rn d 90 865 ls (.int 6 :: st) σ Q := rn_step rfl (fun _ _ => rfl)
set_option maxRecDepth 20000 in
theorem sL_law_865 {d : Nat} {Q : mb_O → mb_S → Prop} {σ : mb_S} {st : List Value} {ls : mb_L} {p0 : Int32} {b : Nat} (hd : 1 ≤ d) (h4 : st.length ≤ 4) : mb_Rn d 90 865 ls (.int p0 :: .ref b :: st) σ Q = mb_gf σ b 7 False (fun _ => mb_Ex (d - 1) 61 [.ref b, .int p0] σ (mb_qx [] d 90 868 ls st Q)) := rn_callv mb_good rfl hd rfl rfl ⟨rfl, rfl⟩ h4 ⟨Nat.le_of_ble_eq_true rfl, rfl⟩
set_option maxRecDepth 20000 in
theorem sL_law_868 {d : Nat} {Q : mb_O → mb_S → Prop} {σ : mb_S} {st : List Value} {l0 l1 l2 l3 l4 l5 l6 l7 l8 l9 l10 l11 l12 l13 l14 l15 l17 l18 l19 : Option Value} {x : Int32} : mb_Rn d 90 868 [l0, l1, l2, l3, l4, l5, l6, l7, l8, l9, l10, l11, l12, l13, l14, l15, some (.int x), l17, l18, l19] st σ Q = mb_Rn d 90 870 [l0, l1, l2, l3, l4, l5, l6, l7, l8, l9, l10, l11, l12, l13, l14, l15, some (.int x), l17, l18, l19] (.int x :: st) σ Q := rn_step rfl (fun _ _ => rfl)
set_option maxRecDepth 20000 in
theorem sL_law_870 {d : Nat} {Q : mb_O → mb_S → Prop} {σ : mb_S} {st : List Value} {ls : mb_L} : mb_Rn d 90 870 ls st σ Q = mb_Rn d 90 871 ls (.int 1 :: st) σ Q := rn_step rfl (fun _ _ => rfl)
set_option maxRecDepth 20000 in
theorem sL_law_871 {d : Nat} {Q : mb_O → mb_S → Prop} {σ : mb_S} {st : List Value} {ls : mb_L} {x z : Int32} : mb_Rn d 90 871 ls (.int z :: .int x :: st) σ Q = mb_Rn d 90 872 ls (.int (x - z) :: st) σ Q := rn_step rfl (fun _ _ => rfl)
set_option maxRecDepth 20000 in
theorem sL_law_872 {d : Nat} {Q : mb_O → mb_S → Prop} {σ : mb_S} {st : List Value} {ls : mb_L} {x z : Int32} : mb_Rn d 90 872 ls (.int z :: .int x :: st) σ Q = if x = z then mb_Rn d 90 875 ls st σ Q else mb_Rn d 90 888 ls st σ Q := rn_ifn rfl (fun _ _ => rfl) bne_iff_ne
set_option maxRecDepth 20000 in
theorem sL_law_875 {d : Nat} {Q : mb_O → mb_S → Prop} {σ : mb_S} {st : List Value} {l0 l1 l2 l3 l4 l5 l6 l7 l8 l9 l10 l11 l12 l13 l14 l15 l16 l18 l19 : Option Value} {x : Int32} : mb_Rn d 90 875 [l0, l1, l2, l3, l4, l5, l6, l7, l8, l9, l10, l11, l12, l13, l14, l15, l16, some (.int x), l18, l19] st σ Q = mb_Rn d 90 877 [l0, l1, l2, l3, l4, l5, l6, l7, l8, l9, l10, l11, l12, l13, l14, l15, l16, some (.int x), l18, l19] (.int x :: st) σ Q := rn_step rfl (fun _ _ => rfl)
set_option maxRecDepth 20000 in
theorem sL_law_877 {d : Nat} {Q : mb_O → mb_S → Prop} {σ : mb_S} {st : List Value} {l0 l1 l2 l3 l4 l5 l6 l7 l8 l9 l10 l11 l12 l13 l14 l15 l17 l18 l19 : Option Value} {x : Int32} : mb_Rn d 90 877 [l0, l1, l2, l3, l4, l5, l6, l7, l8, l9, l10, l11, l12, l13, l14, l15, some (.int x), l17, l18, l19] st σ Q = mb_Rn d 90 879 [l0, l1, l2, l3, l4, l5, l6, l7, l8, l9, l10, l11, l12, l13, l14, l15, some (.int x), l17, l18, l19] (.int x :: st) σ Q := rn_step rfl (fun _ _ => rfl)
set_option maxRecDepth 20000 in
theorem sL_law_879 {d : Nat} {Q : mb_O → mb_S → Prop} {σ : mb_S} {st : List Value} {ls : mb_L} : mb_Rn d 90 879 ls st σ Q = mb_Rn d 90 880 ls (.int 1 :: st) σ Q := rn_step rfl (fun _ _ => rfl)
set_option maxRecDepth 20000 in
theorem sL_law_880 {d : Nat} {Q : mb_O → mb_S → Prop} {σ : mb_S} {st : List Value} {ls : mb_L} {x z : Int32} : mb_Rn d 90 880 ls (.int z :: .int x :: st) σ Q = mb_Rn d 90 881 ls (.int (x - z) :: st) σ Q := rn_step rfl (fun _ _ => rfl)
set_option maxRecDepth 20000 in
theorem sL_law_881 {d : Nat} {Q : mb_O → mb_S → Prop} {σ : mb_S} {st : List Value} {ls : mb_L} {x z : Int32} : mb_Rn d 90 881 ls (.int z :: .int x :: st) σ Q = if z < x then mb_Rn d 90 888 ls st σ Q else mb_Rn d 90 884 ls st σ Q := rn_ifb rfl (fun _ _ => rfl) decide_eq_true_iff
set_option maxRecDepth 20000 in
theorem sL_law_884 {d : Nat} {Q : mb_O → mb_S → Prop} {σ : mb_S} {st : List Value} {ls : mb_L} : mb_Rn d 90 884 ls st σ Q = mb_Rn d 90 885 ls (.int 1 :: st) σ Q := rn_step rfl (fun _ _ => rfl)
set_option maxRecDepth 20000 in
theorem sL_law_885 {d : Nat} {Q : mb_O → mb_S → Prop} {σ : mb_S} {st : List Value} {ls : mb_L} : mb_Rn d 90 885 ls st σ Q = mb_Rn d 90 915 ls st σ Q := rn_step rfl (fun _ _ => rfl)
set_option maxRecDepth 20000 in
theorem sL_law_888 {d : Nat} {Q : mb_O → mb_S → Prop} {σ : mb_S} {st : List Value} {ls : mb_L} : mb_Rn d 90 888 ls st σ Q = mb_Rn d 90 889 ls (.int 0 :: st) σ Q := rn_step rfl (fun _ _ => rfl)
set_option maxRecDepth 20000 in
theorem sL_law_889 {d : Nat} {Q : mb_O → mb_S → Prop} {σ : mb_S} {st : List Value} {ls : mb_L} : mb_Rn d 90 889 ls st σ Q = mb_Rn d 90 915 ls st σ Q := rn_step rfl (fun _ _ => rfl)
set_option maxRecDepth 20000 in
theorem sL_law_892 {d : Nat} {Q : mb_O → mb_S → Prop} {σ : mb_S} {st : List Value} {l0 l1 l2 l3 l4 l5 l6 l7 l8 l9 l10 l11 l12 l13 l14 l15 l16 l18 l19 : Option Value} {x : Int32} : mb_Rn d 90 892 [l0, l1, l2, l3, l4, l5, l6, l7, l8, l9, l10, l11, l12, l13, l14, l15, l16, some (.int x), l18, l19] st σ Q = mb_Rn d 90 894 [l0, l1, l2, l3, l4, l5, l6, l7, l8, l9, l10, l11, l12, l13, l14, l15, l16, some (.int x), l18, l19] (.int x :: st) σ Q := rn_step rfl (fun _ _ => rfl)
set_option maxRecDepth 20000 in
theorem sL_law_894 {d : Nat} {Q : mb_O → mb_S → Prop} {σ : mb_S} {st : List Value} {ls : mb_L} : mb_Rn d 90 894 ls st σ Q = mb_Rn d 90 896 ls (.int (-1000013) :: st) σ Q := rn_step rfl (fun _ _ => rfl)
set_option maxRecDepth 20000 in
theorem sL_law_896 {d : Nat} {Q : mb_O → mb_S → Prop} {σ : mb_S} {st : List Value} {ls : mb_L} {x z : Int32} : mb_Rn d 90 896 ls (.int z :: .int x :: st) σ Q = if x = z then mb_Rn d 90 899 ls st σ Q else mb_Rn d 90 914 ls st σ Q := rn_ifn rfl (fun _ _ => rfl) bne_iff_ne
set_option maxRecDepth 20000 in
theorem sL_law_899 {d : Nat} {Q : mb_O → mb_S → Prop} {σ : mb_S} {st : List Value} {l0 l2 l3 l4 l5 l6 l7 l8 l9 l10 l11 l12 l13 l14 l15 l16 l17 l18 l19 : Option Value} {a : Nat} : mb_Rn d 90 899 [l0, some (.ref a), l2, l3, l4, l5, l6, l7, l8, l9, l10, l11, l12, l13, l14, l15, l16, l17, l18, l19] st σ Q = mb_Rn d 90 900 [l0, some (.ref a), l2, l3, l4, l5, l6, l7, l8, l9, l10, l11, l12, l13, l14, l15, l16, l17, l18, l19] (.ref a :: st) σ Q := rn_step rfl (fun _ _ => rfl)
set_option maxRecDepth 20000 in
theorem sL_law_899n {d : Nat} {Q : mb_O → mb_S → Prop} {σ : mb_S} {st : List Value} {l0 l2 l3 l4 l5 l6 l7 l8 l9 l10 l11 l12 l13 l14 l15 l16 l17 l18 l19 : Option Value} : mb_Rn d 90 899 [l0, some (.null), l2, l3, l4, l5, l6, l7, l8, l9, l10, l11, l12, l13, l14, l15, l16, l17, l18, l19] st σ Q = mb_Rn d 90 900 [l0, some (.null), l2, l3, l4, l5, l6, l7, l8, l9, l10, l11, l12, l13, l14, l15, l16, l17, l18, l19] (.null :: st) σ Q := rn_step rfl (fun _ _ => rfl)
set_option maxRecDepth 20000 in
theorem sL_law_900 {d : Nat} {Q : mb_O → mb_S → Prop} {σ : mb_S} {st : List Value} {ls : mb_L} : mb_Rn d 90 900 ls st σ Q = mb_Rn d 90 902 ls (.int 6 :: st) σ Q := rn_step rfl (fun _ _ => rfl)
set_option maxRecDepth 20000 in
theorem sL_law_902 {d : Nat} {Q : mb_O → mb_S → Prop} {σ : mb_S} {st : List Value} {ls : mb_L} {p0 : Int32} {b : Nat} (hd : 1 ≤ d) (h4 : st.length ≤ 4) : mb_Rn d 90 902 ls (.int p0 :: .ref b :: st) σ Q = mb_gf σ b 7 False (fun _ => mb_Ex (d - 1) 61 [.ref b, .int p0] σ (mb_qx [] d 90 905 ls st Q)) := rn_callv mb_good rfl hd rfl rfl ⟨rfl, rfl⟩ h4 ⟨Nat.le_of_ble_eq_true rfl, rfl⟩
set_option maxRecDepth 20000 in
theorem sL_law_905 {d : Nat} {Q : mb_O → mb_S → Prop} {σ : mb_S} {st : List Value} {l0 l1 l2 l3 l4 l5 l6 l7 l8 l9 l10 l11 l12 l13 l14 l15 l17 l18 l19 : Option Value} {x : Int32} : mb_Rn d 90 905 [l0, l1, l2, l3, l4, l5, l6, l7, l8, l9, l10, l11, l12, l13, l14, l15, some (.int x), l17, l18, l19] st σ Q = mb_Rn d 90 907 [l0, l1, l2, l3, l4, l5, l6, l7, l8, l9, l10, l11, l12, l13, l14, l15, some (.int x), l17, l18, l19] (.int x :: st) σ Q := rn_step rfl (fun _ _ => rfl)
set_option maxRecDepth 20000 in
theorem sL_law_907 {d : Nat} {Q : mb_O → mb_S → Prop} {σ : mb_S} {st : List Value} {ls : mb_L} {x z : Int32} : mb_Rn d 90 907 ls (.int z :: .int x :: st) σ Q = if x = z then mb_Rn d 90 910 ls st σ Q else mb_Rn d 90 914 ls st σ Q := rn_ifn rfl (fun _ _ => rfl) bne_iff_ne
set_option maxRecDepth 20000 in
theorem sL_law_910 {d : Nat} {Q : mb_O → mb_S → Prop} {σ : mb_S} {st : List Value} {ls : mb_L} : mb_Rn d 90 910 ls st σ Q = mb_Rn d 90 911 ls (.int 1 :: st) σ Q := rn_step rfl (fun _ _ => rfl)
set_option maxRecDepth 20000 in
theorem sL_law_911 {d : Nat} {Q : mb_O → mb_S → Prop} {σ : mb_S} {st : List Value} {ls : mb_L} : mb_Rn d 90 911 ls st σ Q = mb_Rn d 90 915 ls st σ Q := rn_step rfl (fun _ _ => rfl)
set_option maxRecDepth 20000 in
theorem sL_law_914 {d : Nat} {Q : mb_O → mb_S → Prop} {σ : mb_S} {st : List Value} {ls : mb_L} : mb_Rn d 90 914 ls st σ Q = mb_Rn d 90 915 ls (.int 0 :: st) σ Q := rn_step rfl (fun _ _ => rfl)
set_option maxRecDepth 20000 in
theorem sL_law_915 {d : Nat} {Q : mb_O → mb_S → Prop} {σ : mb_S} {st : List Value} {l0 l1 l2 l3 l4 l5 l6 l7 l8 l9 l10 l11 l12 l13 l14 l15 l16 l17 l18 l19 : Option Value} {x : Int32} : mb_Rn d 90 915 [l0, l1, l2, l3, l4, l5, l6, l7, l8, l9, l10, l11, l12, l13, l14, l15, l16, l17, l18, l19] (.int x :: st) σ Q = mb_Rn d 90 917 [l0, l1, l2, l3, l4, l5, l6, l7, l8, some (.int x), l10, l11, l12, l13, l14, l15, l16, l17, l18, l19] st σ Q := rn_step rfl (fun _ _ => rfl)
set_option maxRecDepth 20000 in
theorem sL_law_917 {d : Nat} {Q : mb_O → mb_S → Prop} {σ : mb_S} {st : List Value} {ls : mb_L} : mb_Rn d 90 917 ls st σ Q = mb_Rn d 90 1268 ls st σ Q := rn_step rfl (fun _ _ => rfl)
set_option maxRecDepth 20000 in
theorem sL_law_920 {d : Nat} {Q : mb_O → mb_S → Prop} {σ : mb_S} {st : List Value} {l0 l1 l2 l3 l4 l5 l6 l7 l8 l9 l10 l11 l12 l14 l15 l16 l17 l18 l19 : Option Value} {x : Int32} : mb_Rn d 90 920 [l0, l1, l2, l3, l4, l5, l6, l7, l8, l9, l10, l11, l12, some (.int x), l14, l15, l16, l17, l18, l19] st σ Q = mb_Rn d 90 922 [l0, l1, l2, l3, l4, l5, l6, l7, l8, l9, l10, l11, l12, some (.int x), l14, l15, l16, l17, l18, l19] (.int x :: st) σ Q := rn_step rfl (fun _ _ => rfl)
set_option maxRecDepth 20000 in
theorem sL_law_922 {d : Nat} {Q : mb_O → mb_S → Prop} {σ : mb_S} {st : List Value} {ls : mb_L} : mb_Rn d 90 922 ls st σ Q = mb_Rn d 90 924 ls (.int 25 :: st) σ Q := rn_step rfl (fun _ _ => rfl)
set_option maxRecDepth 20000 in
theorem sL_law_924 {d : Nat} {Q : mb_O → mb_S → Prop} {σ : mb_S} {st : List Value} {ls : mb_L} {x z : Int32} : mb_Rn d 90 924 ls (.int z :: .int x :: st) σ Q = if z ≤ x then mb_Rn d 90 1036 ls st σ Q else mb_Rn d 90 927 ls st σ Q := rn_ifb rfl (fun _ _ => rfl) decide_eq_true_iff
set_option maxRecDepth 20000 in
theorem sL_law_927 {d : Nat} {Q : mb_O → mb_S → Prop} {σ : mb_S} {st : List Value} {l0 l1 l2 l3 l4 l5 l6 l7 l8 l9 l10 l11 l13 l14 l15 l16 l17 l18 l19 : Option Value} {x : Int32} : mb_Rn d 90 927 [l0, l1, l2, l3, l4, l5, l6, l7, l8, l9, l10, l11, some (.int x), l13, l14, l15, l16, l17, l18, l19] st σ Q = mb_Rn d 90 929 [l0, l1, l2, l3, l4, l5, l6, l7, l8, l9, l10, l11, some (.int x), l13, l14, l15, l16, l17, l18, l19] (.int x :: st) σ Q := rn_step rfl (fun _ _ => rfl)
set_option maxRecDepth 20000 in
theorem sL_law_929 {d : Nat} {Q : mb_O → mb_S → Prop} {σ : mb_S} {st : List Value} {ls : mb_L} : mb_Rn d 90 929 ls st σ Q = mb_Rn d 90 930 ls (.int 2 :: st) σ Q := rn_step rfl (fun _ _ => rfl)
set_option maxRecDepth 20000 in
theorem sL_law_930 {d : Nat} {Q : mb_O → mb_S → Prop} {σ : mb_S} {st : List Value} {ls : mb_L} {x z : Int32} : mb_Rn d 90 930 ls (.int z :: .int x :: st) σ Q = mb_Rn d 90 931 ls (.int (x >>> (z &&& 31)) :: st) σ Q := rn_step rfl (fun _ _ => rfl)
set_option maxRecDepth 20000 in
theorem sL_law_931 {d : Nat} {Q : mb_O → mb_S → Prop} {σ : mb_S} {st : List Value} {l0 l1 l2 l3 l5 l6 l7 l8 l9 l10 l11 l12 l13 l14 l15 l16 l17 l18 l19 : Option Value} {a : Nat} : mb_Rn d 90 931 [l0, l1, l2, l3, some (.ref a), l5, l6, l7, l8, l9, l10, l11, l12, l13, l14, l15, l16, l17, l18, l19] st σ Q = mb_Rn d 90 933 [l0, l1, l2, l3, some (.ref a), l5, l6, l7, l8, l9, l10, l11, l12, l13, l14, l15, l16, l17, l18, l19] (.ref a :: st) σ Q := rn_step rfl (fun _ _ => rfl)
set_option maxRecDepth 20000 in
theorem sL_law_931n {d : Nat} {Q : mb_O → mb_S → Prop} {σ : mb_S} {st : List Value} {l0 l1 l2 l3 l5 l6 l7 l8 l9 l10 l11 l12 l13 l14 l15 l16 l17 l18 l19 : Option Value} : mb_Rn d 90 931 [l0, l1, l2, l3, some (.null), l5, l6, l7, l8, l9, l10, l11, l12, l13, l14, l15, l16, l17, l18, l19] st σ Q = mb_Rn d 90 933 [l0, l1, l2, l3, some (.null), l5, l6, l7, l8, l9, l10, l11, l12, l13, l14, l15, l16, l17, l18, l19] (.null :: st) σ Q := rn_step rfl (fun _ _ => rfl)
set_option maxRecDepth 20000 in
theorem sL_law_933 {d : Nat} {Q : mb_O → mb_S → Prop} {σ : mb_S} {st : List Value} {l0 l1 l2 l3 l4 l5 l6 l7 l8 l9 l10 l11 l12 l13 l14 l16 l17 l18 l19 : Option Value} {x : Int32} : mb_Rn d 90 933 [l0, l1, l2, l3, l4, l5, l6, l7, l8, l9, l10, l11, l12, l13, l14, some (.int x), l16, l17, l18, l19] st σ Q = mb_Rn d 90 935 [l0, l1, l2, l3, l4, l5, l6, l7, l8, l9, l10, l11, l12, l13, l14, some (.int x), l16, l17, l18, l19] (.int x :: st) σ Q := rn_step rfl (fun _ _ => rfl)
set_option maxRecDepth 20000 in
theorem sL_law_935 {d : Nat} {Q : mb_O → mb_S → Prop} {σ : mb_S} {st : List Value} {ls : mb_L} {a : Nat} {j : Int32} : mb_Rn d 90 935 ls (.int j :: .ref a :: st) σ Q = mb_gi σ a j False (fun kd _ f => if kd = 0 ∨ kd = 9 then mb_Rn d 90 936 ls (.int (f j.toNatClampNeg) :: st) σ Q else False) := rn_iald rfl
set_option maxRecDepth 20000 in
theorem sL_law_936 {d : Nat} {Q : mb_O → mb_S → Prop} {σ : mb_S} {st : List Value} {ls : mb_L} {x z : Int32} : mb_Rn d 90 936 ls (.int z :: .int x :: st) σ Q = if z = 0 then False else mb_Rn d 90 937 ls (.int (x % z) :: st) σ Q := rn_ite (f := fun _ => none) rfl (fun _ _ => rfl) ok_none rfl
set_option maxRecDepth 20000 in
theorem sL_law_937 {d : Nat} {Q : mb_O → mb_S → Prop} {σ : mb_S} {st : List Value} {l0 l1 l2 l3 l4 l5 l6 l7 l8 l9 l10 l11 l12 l13 l14 l15 l16 l17 l18 l19 : Option Value} {x : Int32} : mb_Rn d 90 937 [l0, l1, l2, l3, l4, l5, l6, l7, l8, l9, l10, l11, l12, l13, l14, l15, l16, l17, l18, l19] (.int x :: st) σ Q = mb_Rn d 90 939 [l0, l1, l2, l3, l4, l5, l6, l7, l8, l9, l10, l11, l12, l13, l14, l15, some (.int x), l17, l18, l19] st σ Q := rn_step rfl (fun _ _ => rfl)
set_option maxRecDepth 20000 in
theorem sL_law_939 {d : Nat} {Q : mb_O → mb_S → Prop} {σ : mb_S} {st : List Value} {l0 l2 l3 l4 l5 l6 l7 l8 l9 l10 l11 l12 l13 l14 l15 l16 l17 l18 l19 : Option Value} {a : Nat} : mb_Rn d 90 939 [l0, some (.ref a), l2, l3, l4, l5, l6, l7, l8, l9, l10, l11, l12, l13, l14, l15, l16, l17, l18, l19] st σ Q = mb_Rn d 90 940 [l0, some (.ref a), l2, l3, l4, l5, l6, l7, l8, l9, l10, l11, l12, l13, l14, l15, l16, l17, l18, l19] (.ref a :: st) σ Q := rn_step rfl (fun _ _ => rfl)
set_option maxRecDepth 20000 in
theorem sL_law_939n {d : Nat} {Q : mb_O → mb_S → Prop} {σ : mb_S} {st : List Value} {l0 l2 l3 l4 l5 l6 l7 l8 l9 l10 l11 l12 l13 l14 l15 l16 l17 l18 l19 : Option Value} : mb_Rn d 90 939 [l0, some (.null), l2, l3, l4, l5, l6, l7, l8, l9, l10, l11, l12, l13, l14, l15, l16, l17, l18, l19] st σ Q = mb_Rn d 90 940 [l0, some (.null), l2, l3, l4, l5, l6, l7, l8, l9, l10, l11, l12, l13, l14, l15, l16, l17, l18, l19] (.null :: st) σ Q := rn_step rfl (fun _ _ => rfl)
set_option maxRecDepth 20000 in
theorem sL_law_940 {d : Nat} {Q : mb_O → mb_S → Prop} {σ : mb_S} {st : List Value} {l0 l1 l2 l3 l4 l5 l6 l7 l8 l9 l10 l11 l12 l13 l14 l16 l17 l18 l19 : Option Value} {x : Int32} : mb_Rn d 90 940 [l0, l1, l2, l3, l4, l5, l6, l7, l8, l9, l10, l11, l12, l13, l14, some (.int x), l16, l17, l18, l19] st σ Q = mb_Rn d 90 942 [l0, l1, l2, l3, l4, l5, l6, l7, l8, l9, l10, l11, l12, l13, l14, some (.int x), l16, l17, l18, l19] (.int x :: st) σ Q := rn_step rfl (fun _ _ => rfl)
set_option maxRecDepth 20000 in
theorem sL_law_942 {d : Nat} {Q : mb_O → mb_S → Prop} {σ : mb_S} {st : List Value} {l0 l1 l2 l3 l4 l5 l6 l7 l8 l9 l10 l11 l12 l13 l14 l15 l17 l18 l19 : Option Value} {x : Int32} : mb_Rn d 90 942 [l0, l1, l2, l3, l4, l5, l6, l7, l8, l9, l10, l11, l12, l13, l14, l15, some (.int x), l17, l18, l19] st σ Q = mb_Rn d 90 944 [l0, l1, l2, l3, l4, l5, l6, l7, l8, l9, l10, l11, l12, l13, l14, l15, some (.int x), l17, l18, l19] (.int x :: st) σ Q := rn_step rfl (fun _ _ => rfl)
set_option maxRecDepth 20000 in
theorem sL_law_944 {d : Nat} {Q : mb_O → mb_S → Prop} {σ : mb_S} {st : List Value} {ls : mb_L} : mb_Rn d 90 944 ls st σ Q = mb_Rn d 90 945 ls (.int 5 :: st) σ Q := rn_step rfl (fun _ _ => rfl)
set_option maxRecDepth 20000 in
theorem sL_law_945 {d : Nat} {Q : mb_O → mb_S → Prop} {σ : mb_S} {st : List Value} {ls : mb_L} {p0 : Int32} {p1 : Int32} {p2 : Int32} {b : Nat} (hd : 1 ≤ d) (h4 : st.length ≤ 4) : mb_Rn d 90 945 ls (.int p2 :: .int p1 :: .int p0 :: .ref b :: st) σ Q = mb_gf σ b 7 False (fun _ => mb_Ex (d - 1) 59 [.ref b, .int p0, .int p1, .int p2] σ (mb_qx [] d 90 948 ls st Q)) := rn_callv mb_good rfl hd rfl rfl ⟨rfl, rfl⟩ h4 ⟨Nat.le_of_ble_eq_true rfl, rfl⟩
set_option maxRecDepth 20000 in
theorem sL_law_948 {d : Nat} {Q : mb_O → mb_S → Prop} {σ : mb_S} {st : List Value} {l0 l1 l2 l3 l4 l5 l6 l7 l8 l9 l10 l11 l12 l13 l14 l15 l16 l17 l18 l19 : Option Value} {x : Int32} : mb_Rn d 90 948 [l0, l1, l2, l3, l4, l5, l6, l7, l8, l9, l10, l11, l12, l13, l14, l15, l16, l17, l18, l19] (.int x :: st) σ Q = mb_Rn d 90 950 [l0, l1, l2, l3, l4, l5, l6, l7, l8, l9, l10, l11, l12, l13, l14, l15, l16, some (.int x), l18, l19] st σ Q := rn_step rfl (fun _ _ => rfl)
set_option maxRecDepth 20000 in
theorem sL_law_950 {d : Nat} {Q : mb_O → mb_S → Prop} {σ : mb_S} {st : List Value} {l0 l2 l3 l4 l5 l6 l7 l8 l9 l10 l11 l12 l13 l14 l15 l16 l17 l18 l19 : Option Value} {a : Nat} : mb_Rn d 90 950 [l0, some (.ref a), l2, l3, l4, l5, l6, l7, l8, l9, l10, l11, l12, l13, l14, l15, l16, l17, l18, l19] st σ Q = mb_Rn d 90 951 [l0, some (.ref a), l2, l3, l4, l5, l6, l7, l8, l9, l10, l11, l12, l13, l14, l15, l16, l17, l18, l19] (.ref a :: st) σ Q := rn_step rfl (fun _ _ => rfl)
set_option maxRecDepth 20000 in
theorem sL_law_950n {d : Nat} {Q : mb_O → mb_S → Prop} {σ : mb_S} {st : List Value} {l0 l2 l3 l4 l5 l6 l7 l8 l9 l10 l11 l12 l13 l14 l15 l16 l17 l18 l19 : Option Value} : mb_Rn d 90 950 [l0, some (.null), l2, l3, l4, l5, l6, l7, l8, l9, l10, l11, l12, l13, l14, l15, l16, l17, l18, l19] st σ Q = mb_Rn d 90 951 [l0, some (.null), l2, l3, l4, l5, l6, l7, l8, l9, l10, l11, l12, l13, l14, l15, l16, l17, l18, l19] (.null :: st) σ Q := rn_step rfl (fun _ _ => rfl)
set_option maxRecDepth 20000 in
theorem sL_law_951 {d : Nat} {Q : mb_O → mb_S → Prop} {σ : mb_S} {st : List Value} {ls : mb_L} : mb_Rn d 90 951 ls st σ Q = mb_Rn d 90 952 ls (.int 5 :: st) σ Q := rn_step rfl (fun _ _ => rfl)
set_option maxRecDepth 20000 in
theorem sL_law_952 {d : Nat} {Q : mb_O → mb_S → Prop} {σ : mb_S} {st : List Value} {ls : mb_L} {p0 : Int32} {b : Nat} (hd : 1 ≤ d) (h4 : st.length ≤ 4) : mb_Rn d 90 952 ls (.int p0 :: .ref b :: st) σ Q = mb_gf σ b 7 False (fun _ => mb_Ex (d - 1) 61 [.ref b, .int p0] σ (mb_qx [] d 90 955 ls st Q)) := rn_callv mb_good rfl hd rfl rfl ⟨rfl, rfl⟩ h4 ⟨Nat.le_of_ble_eq_true rfl, rfl⟩
set_option maxRecDepth 20000 in
theorem sL_law_955 {d : Nat} {Q : mb_O → mb_S → Prop} {σ : mb_S} {st : List Value} {l0 l1 l2 l3 l4 l5 l6 l7 l8 l9 l10 l11 l12 l13 l14 l15 l16 l17 l18 l19 : Option Value} {x : Int32} : mb_Rn d 90 955 [l0, l1, l2, l3, l4, l5, l6, l7, l8, l9, l10, l11, l12, l13, l14, l15, l16, l17, l18, l19] (.int x :: st) σ Q = mb_Rn d 90 957 [l0, l1, l2, l3, l4, l5, l6, l7, l8, l9, l10, l11, l12, l13, l14, l15, l16, l17, some (.int x), l19] st σ Q := rn_step rfl (fun _ _ => rfl)
set_option maxRecDepth 20000 in
theorem sL_law_957 {d : Nat} {Q : mb_O → mb_S → Prop} {σ : mb_S} {st : List Value} {l0 l2 l3 l4 l5 l6 l7 l8 l9 l10 l11 l12 l13 l14 l15 l16 l17 l18 l19 : Option Value} {a : Nat} : mb_Rn d 90 957 [l0, some (.ref a), l2, l3, l4, l5, l6, l7, l8, l9, l10, l11, l12, l13, l14, l15, l16, l17, l18, l19] st σ Q = mb_Rn d 90 958 [l0, some (.ref a), l2, l3, l4, l5, l6, l7, l8, l9, l10, l11, l12, l13, l14, l15, l16, l17, l18, l19] (.ref a :: st) σ Q := rn_step rfl (fun _ _ => rfl)
set_option maxRecDepth 20000 in
theorem sL_law_957n {d : Nat} {Q : mb_O → mb_S → Prop} {σ : mb_S} {st : List Value} {l0 l2 l3 l4 l5 l6 l7 l8 l9 l10 l11 l12 l13 l14 l15 l16 l17 l18 l19 : Option Value} : mb_Rn d 90 957 [l0, some (.null), l2, l3, l4, l5, l6, l7, l8, l9, l10, l11, l12, l13, l14, l15, l16, l17, l18, l19] st σ Q = mb_Rn d 90 958 [l0, some (.null), l2, l3, l4, l5, l6, l7, l8, l9, l10, l11, l12, l13, l14, l15, l16, l17, l18, l19] (.null :: st) σ Q := rn_step rfl (fun _ _ => rfl)
set_option maxRecDepth 20000 in
theorem sL_law_958 {d : Nat} {Q : mb_O → mb_S → Prop} {σ : mb_S} {st : List Value} {l0 l1 l2 l3 l4 l5 l6 l7 l8 l9 l10 l11 l12 l13 l14 l16 l17 l18 l19 : Option Value} {x : Int32} : mb_Rn d 90 958 [l0, l1, l2, l3, l4, l5, l6, l7, l8, l9, l10, l11, l12, l13, l14, some (.int x), l16, l17, l18, l19] st σ Q = mb_Rn d 90 960 [l0, l1, l2, l3, l4, l5, l6, l7, l8, l9, l10, l11, l12, l13, l14, some (.int x), l16, l17, l18, l19] (.int x :: st) σ Q := rn_step rfl (fun _ _ => rfl)
set_option maxRecDepth 20000 in
theorem sL_law_960 {d : Nat} {Q : mb_O → mb_S → Prop} {σ : mb_S} {st : List Value} {l0 l1 l2 l3 l4 l5 l6 l7 l8 l9 l10 l11 l12 l13 l14 l15 l17 l18 l19 : Option Value} {x : Int32} : mb_Rn d 90 960 [l0, l1, l2, l3, l4, l5, l6, l7, l8, l9, l10, l11, l12, l13, l14, l15, some (.int x), l17, l18, l19] st σ Q = mb_Rn d 90 962 [l0, l1, l2, l3, l4, l5, l6, l7, l8, l9, l10, l11, l12, l13, l14, l15, some (.int x), l17, l18, l19] (.int x :: st) σ Q := rn_step rfl (fun _ _ => rfl)
set_option maxRecDepth 20000 in
theorem sL_law_962 {d : Nat} {Q : mb_O → mb_S → Prop} {σ : mb_S} {st : List Value} {ls : mb_L} : mb_Rn d 90 962 ls st σ Q = mb_Rn d 90 963 ls (.int 2 :: st) σ Q := rn_step rfl (fun _ _ => rfl)
set_option maxRecDepth 20000 in
theorem sL_law_963 {d : Nat} {Q : mb_O → mb_S → Prop} {σ : mb_S} {st : List Value} {ls : mb_L} {p0 : Int32} {p1 : Int32} {p2 : Int32} {b : Nat} (hd : 1 ≤ d) (h4 : st.length ≤ 4) : mb_Rn d 90 963 ls (.int p2 :: .int p1 :: .int p0 :: .ref b :: st) σ Q = mb_gf σ b 7 False (fun _ => mb_Ex (d - 1) 59 [.ref b, .int p0, .int p1, .int p2] σ (mb_qx [] d 90 966 ls st Q)) := rn_callv mb_good rfl hd rfl rfl ⟨rfl, rfl⟩ h4 ⟨Nat.le_of_ble_eq_true rfl, rfl⟩
set_option maxRecDepth 20000 in
theorem sL_law_966 {d : Nat} {Q : mb_O → mb_S → Prop} {σ : mb_S} {st : List Value} {l0 l1 l2 l3 l4 l5 l6 l7 l8 l9 l10 l11 l12 l13 l14 l15 l16 l17 l18 l19 : Option Value} {x : Int32} : mb_Rn d 90 966 [l0, l1, l2, l3, l4, l5, l6, l7, l8, l9, l10, l11, l12, l13, l14, l15, l16, l17, l18, l19] (.int x :: st) σ Q = mb_Rn d 90 968 [l0, l1, l2, l3, l4, l5, l6, l7, l8, l9, l10, l11, l12, l13, l14, l15, l16, l17, l18, some (.int x)] st σ Q := rn_step rfl (fun _ _ => rfl)
set_option maxRecDepth 20000 in
theorem sL_law_968 {d : Nat} {Q : mb_O → mb_S → Prop} {σ : mb_S} {st : List Value} {l0 l2 l3 l4 l5 l6 l7 l8 l9 l10 l11 l12 l13 l14 l15 l16 l17 l18 l19 : Option Value} {a : Nat} : mb_Rn d 90 968 [l0, some (.ref a), l2, l3, l4, l5, l6, l7, l8, l9, l10, l11, l12, l13, l14, l15, l16, l17, l18, l19] st σ Q = mb_Rn d 90 969 [l0, some (.ref a), l2, l3, l4, l5, l6, l7, l8, l9, l10, l11, l12, l13, l14, l15, l16, l17, l18, l19] (.ref a :: st) σ Q := rn_step rfl (fun _ _ => rfl)
set_option maxRecDepth 20000 in
theorem sL_law_968n {d : Nat} {Q : mb_O → mb_S → Prop} {σ : mb_S} {st : List Value} {l0 l2 l3 l4 l5 l6 l7 l8 l9 l10 l11 l12 l13 l14 l15 l16 l17 l18 l19 : Option Value} : mb_Rn d 90 968 [l0, some (.null), l2, l3, l4, l5, l6, l7, l8, l9, l10, l11, l12, l13, l14, l15, l16, l17, l18, l19] st σ Q = mb_Rn d 90 969 [l0, some (.null), l2, l3, l4, l5, l6, l7, l8, l9, l10, l11, l12, l13, l14, l15, l16, l17, l18, l19] (.null :: st) σ Q := rn_step rfl (fun _ _ => rfl)
set_option maxRecDepth 20000 in
theorem sL_law_969 {d : Nat} {Q : mb_O → mb_S → Prop} {σ : mb_S} {st : List Value} {ls : mb_L} : mb_Rn d 90 969 ls st σ Q = mb_Rn d 90 971 ls (.int 8 :: st) σ Q := rn_step rfl (fun _ _ => rfl)
set_option maxRecDepth 20000 in
theorem sL_law_971 {d : Nat} {Q : mb_O → mb_S → Prop} {σ : mb_S} {st : List Value} {l0 l1 l2 l3 l4 l5 l6 l7 l8 l9 l10 l11 l12 l13 l14 l16 l17 l18 l19 : Option Value} {x : Int32} : mb_Rn d 90 971 [l0, l1, l2, l3, l4, l5, l6, l7, l8, l9, l10, l11, l12, l13, l14, some (.int x), l16, l17, l18, l19] st σ Q = mb_Rn d 90 973 [l0, l1, l2, l3, l4, l5, l6, l7, l8, l9, l10, l11, l12, l13, l14, some (.int x), l16, l17, l18, l19] (.int x :: st) σ Q := rn_step rfl (fun _ _ => rfl)
set_option maxRecDepth 20000 in
theorem sL_law_973 {d : Nat} {Q : mb_O → mb_S → Prop} {σ : mb_S} {st : List Value} {l0 l1 l2 l3 l4 l5 l6 l7 l8 l9 l10 l11 l12 l13 l14 l15 l17 l18 l19 : Option Value} {x : Int32} : mb_Rn d 90 973 [l0, l1, l2, l3, l4, l5, l6, l7, l8, l9, l10, l11, l12, l13, l14, l15, some (.int x), l17, l18, l19] st σ Q = mb_Rn d 90 975 [l0, l1, l2, l3, l4, l5, l6, l7, l8, l9, l10, l11, l12, l13, l14, l15, some (.int x), l17, l18, l19] (.int x :: st) σ Q := rn_step rfl (fun _ _ => rfl)
set_option maxRecDepth 20000 in
theorem sL_law_975 {d : Nat} {Q : mb_O → mb_S → Prop} {σ : mb_S} {st : List Value} {ls : mb_L} : mb_Rn d 90 975 ls st σ Q = mb_Rn d 90 976 ls (.int 0 :: st) σ Q := rn_step rfl (fun _ _ => rfl)
set_option maxRecDepth 20000 in
theorem sL_law_976 {d : Nat} {Q : mb_O → mb_S → Prop} {σ : mb_S} {st : List Value} {ls : mb_L} : mb_Rn d 90 976 ls st σ Q = mb_Rn d 90 977 ls (.int 0 :: st) σ Q := rn_step rfl (fun _ _ => rfl)
set_option maxRecDepth 20000 in
theorem sL_law_977 {d : Nat} {Q : mb_O → mb_S → Prop} {σ : mb_S} {st : List Value} {ls : mb_L} : mb_Rn d 90 977 ls st σ Q = mb_Rn d 90 978 ls (.int 0 :: st) σ Q := rn_step rfl (fun _ _ => rfl)
set_option maxRecDepth 20000 in
theorem sL_law_978 {d : Nat} {Q : mb_O → mb_S → Prop} {σ : mb_S} {st : List Value} {ls : mb_L} {p0 : Nat} {p1 : Int32} {p2 : Int32} {p3 : Int32} {p4 : Int32} {p5 : Int32} {p6 : Int32} (hd : 1 ≤ d) (h4 : st.length ≤ 4) : mb_Rn d 90 978 ls (.int p6 :: .int p5 :: .int p4 :: .int p3 :: .int p2 :: .int p1 :: .ref p0 :: st) σ Q = mb_Ex (d - 1) 86 [.ref p0, .int p1, .int p2, .int p3, .int p4, .int p5, .int p6] σ (mb_qk d 90 981 ls st Q) := rn_calls mb_good rfl hd rfl rfl ⟨rfl, rfl⟩ h4 ⟨Nat.le_of_ble_eq_true rfl, rfl⟩
set_option maxRecDepth 20000 in
theorem sL_law_981 {d : Nat} {Q : mb_O → mb_S → Prop} {σ : mb_S} {st : List Value} {l0 l1 l2 l3 l4 l5 l6 l7 l8 l9 l10 l11 l12 l13 l14 l15 l16 l17 l18 : Option Value} {x : Int32} : mb_Rn d 90 981 [l0, l1, l2, l3, l4, l5, l6, l7, l8, l9, l10, l11, l12, l13, l14, l15, l16, l17, l18, some (.int x)] st σ Q = mb_Rn d 90 983 [l0, l1, l2, l3, l4, l5, l6, l7, l8, l9, l10, l11, l12, l13, l14, l15, l16, l17, l18, some (.int x)] (.int x :: st) σ Q := rn_step rfl (fun _ _ => rfl)
set_option maxRecDepth 20000 in
theorem sL_law_983 {d : Nat} {Q : mb_O → mb_S → Prop} {σ : mb_S} {st : List Value} {ls : mb_L} {x z : Int32} : mb_Rn d 90 983 ls (.int z :: .int x :: st) σ Q = if x = z then mb_Rn d 90 986 ls st σ Q else mb_Rn d 90 1030 ls st σ Q := rn_ifn rfl (fun _ _ => rfl) bne_iff_ne
set_option maxRecDepth 20000 in
theorem sL_law_986 {d : Nat} {Q : mb_O → mb_S → Prop} {σ : mb_S} {st : List Value} {l0 l2 l3 l4 l5 l6 l7 l8 l9 l10 l11 l12 l13 l14 l15 l16 l17 l18 l19 : Option Value} {a : Nat} : mb_Rn d 90 986 [l0, some (.ref a), l2, l3, l4, l5, l6, l7, l8, l9, l10, l11, l12, l13, l14, l15, l16, l17, l18, l19] st σ Q = mb_Rn d 90 987 [l0, some (.ref a), l2, l3, l4, l5, l6, l7, l8, l9, l10, l11, l12, l13, l14, l15, l16, l17, l18, l19] (.ref a :: st) σ Q := rn_step rfl (fun _ _ => rfl)
set_option maxRecDepth 20000 in
theorem sL_law_986n {d : Nat} {Q : mb_O → mb_S → Prop} {σ : mb_S} {st : List Value} {l0 l2 l3 l4 l5 l6 l7 l8 l9 l10 l11 l12 l13 l14 l15 l16 l17 l18 l19 : Option Value} : mb_Rn d 90 986 [l0, some (.null), l2, l3, l4, l5, l6, l7, l8, l9, l10, l11, l12, l13, l14, l15, l16, l17, l18, l19] st σ Q = mb_Rn d 90 987 [l0, some (.null), l2, l3, l4, l5, l6, l7, l8, l9, l10, l11, l12, l13, l14, l15, l16, l17, l18, l19] (.null :: st) σ Q := rn_step rfl (fun _ _ => rfl)
set_option maxRecDepth 20000 in
theorem sL_law_987 {d : Nat} {Q : mb_O → mb_S → Prop} {σ : mb_S} {st : List Value} {l0 l1 l2 l3 l4 l5 l6 l7 l8 l9 l10 l11 l12 l13 l14 l16 l17 l18 l19 : Option Value} {x : Int32} : mb_Rn d 90 987 [l0, l1, l2, l3, l4, l5, l6, l7, l8, l9, l10, l11, l12, l13, l14, some (.int x), l16, l17, l18, l19] st σ Q = mb_Rn d 90 989 [l0, l1, l2, l3, l4, l5, l6, l7, l8, l9, l10, l11, l12, l13, l14, some (.int x), l16, l17, l18, l19] (.int x :: st) σ Q := rn_step rfl (fun _ _ => rfl)
set_option maxRecDepth 20000 in
theorem sL_law_989 {d : Nat} {Q : mb_O → mb_S → Prop} {σ : mb_S} {st : List Value} {l0 l1 l2 l3 l4 l5 l6 l7 l8 l9 l10 l11 l12 l13 l14 l15 l17 l18 l19 : Option Value} {x : Int32} : mb_Rn d 90 989 [l0, l1, l2, l3, l4, l5, l6, l7, l8, l9, l10, l11, l12, l13, l14, l15, some (.int x), l17, l18, l19] st σ Q = mb_Rn d 90 991 [l0, l1, l2, l3, l4, l5, l6, l7, l8, l9, l10, l11, l12, l13, l14, l15, some (.int x), l17, l18, l19] (.int x :: st) σ Q := rn_step rfl (fun _ _ => rfl)
set_option maxRecDepth 20000 in
theorem sL_law_991 {d : Nat} {Q : mb_O → mb_S → Prop} {σ : mb_S} {st : List Value} {ls : mb_L} : mb_Rn d 90 991 ls st σ Q = mb_Rn d 90 992 ls (.int 2 :: st) σ Q := rn_step rfl (fun _ _ => rfl)
set_option maxRecDepth 20000 in
theorem sL_law_992 {d : Nat} {Q : mb_O → mb_S → Prop} {σ : mb_S} {st : List Value} {ls : mb_L} {p0 : Int32} {p1 : Int32} {p2 : Int32} {b : Nat} (hd : 1 ≤ d) (h4 : st.length ≤ 4) : mb_Rn d 90 992 ls (.int p2 :: .int p1 :: .int p0 :: .ref b :: st) σ Q = mb_gf σ b 7 False (fun _ => mb_Ex (d - 1) 59 [.ref b, .int p0, .int p1, .int p2] σ (mb_qx [] d 90 995 ls st Q)) := rn_callv mb_good rfl hd rfl rfl ⟨rfl, rfl⟩ h4 ⟨Nat.le_of_ble_eq_true rfl, rfl⟩
set_option maxRecDepth 20000 in
theorem sL_law_995 {d : Nat} {Q : mb_O → mb_S → Prop} {σ : mb_S} {st : List Value} {ls : mb_L} {x : Int32} : mb_Rn d 90 995 ls (.int x :: st) σ Q = if x = 0 then mb_Rn d 90 998 ls st σ Q else mb_Rn d 90 1030 ls st σ Q := rn_ifn rfl (fun _ _ => rfl) bne_iff_ne
set_option maxRecDepth 20000 in
theorem sL_law_998 {d : Nat} {Q : mb_O → mb_S → Prop} {σ : mb_S} {st : List Value} {l0 l2 l3 l4 l5 l6 l7 l8 l9 l10 l11 l12 l13 l14 l15 l16 l17 l18 l19 : Option Value} {a : Nat} : mb_Rn d 90 998 [l0, some (.ref a), l2, l3, l4, l5, l6, l7, l8, l9, l10, l11, l12, l13, l14, l15, l16, l17, l18, l19] st σ Q = mb_Rn d 90 999 [l0, some (.ref a), l2, l3, l4, l5, l6, l7, l8, l9, l10, l11, l12, l13, l14, l15, l16, l17, l18, l19] (.ref a :: st) σ Q := rn_step rfl (fun _ _ => rfl)
set_option maxRecDepth 20000 in
theorem sL_law_998n {d : Nat} {Q : mb_O → mb_S → Prop} {σ : mb_S} {st : List Value} {l0 l2 l3 l4 l5 l6 l7 l8 l9 l10 l11 l12 l13 l14 l15 l16 l17 l18 l19 : Option Value} : mb_Rn d 90 998 [l0, some (.null), l2, l3, l4, l5, l6, l7, l8, l9, l10, l11, l12, l13, l14, l15, l16, l17, l18, l19] st σ Q = mb_Rn d 90 999 [l0, some (.null), l2, l3, l4, l5, l6, l7, l8, l9, l10, l11, l12, l13, l14, l15, l16, l17, l18, l19] (.null :: st) σ Q := rn_step rfl (fun _ _ => rfl)
set_option maxRecDepth 20000 in
theorem sL_law_999 {d : Nat} {Q : mb_O → mb_S → Prop} {σ : mb_S} {st : List Value} {l0 l1 l2 l3 l4 l5 l6 l7 l8 l9 l10 l11 l12 l13 l14 l16 l17 l18 l19 : Option Value} {x : Int32} : mb_Rn d 90 999 [l0, l1, l2, l3, l4, l5, l6, l7, l8, l9, l10, l11, l12, l13, l14, some (.int x), l16, l17, l18, l19] st σ Q = mb_Rn d 90 1001 [l0, l1, l2, l3, l4, l5, l6, l7, l8, l9, l10, l11, l12, l13, l14, some (.int x), l16, l17, l18, l19] (.int x :: st) σ Q := rn_step rfl (fun _ _ => rfl)
set_option maxRecDepth 20000 in
theorem sL_law_1001 {d : Nat} {Q : mb_O → mb_S → Prop} {σ : mb_S} {st : List Value} {l0 l1 l2 l3 l4 l5 l6 l7 l8 l9 l10 l11 l12 l13 l14 l15 l17 l18 l19 : Option Value} {x : Int32} : mb_Rn d 90 1001 [l0, l1, l2, l3, l4, l5, l6, l7, l8, l9, l10, l11, l12, l13, l14, l15, some (.int x), l17, l18, l19] st σ Q = mb_Rn d 90 1003 [l0, l1, l2, l3, l4, l5, l6, l7, l8, l9, l10, l11, l12, l13, l14, l15, some (.int x), l17, l18, l19] (.int x :: st) σ Q := rn_step rfl (fun _ _ => rfl)
set_option maxRecDepth 20000 in
theorem sL_law_1003 {d : Nat} {Q : mb_O → mb_S → Prop} {σ : mb_S} {st : List Value} {ls : mb_L} : mb_Rn d 90 1003 ls st σ Q = mb_Rn d 90 1004 ls (.int 5 :: st) σ Q := rn_step rfl (fun _ _ => rfl)
set_option maxRecDepth 20000 in
theorem sL_law_1004 {d : Nat} {Q : mb_O → mb_S → Prop} {σ : mb_S} {st : List Value} {ls : mb_L} {p0 : Int32} {p1 : Int32} {p2 : Int32} {b : Nat} (hd : 1 ≤ d) (h4 : st.length ≤ 4) : mb_Rn d 90 1004 ls (.int p2 :: .int p1 :: .int p0 :: .ref b :: st) σ Q = mb_gf σ b 7 False (fun _ => mb_Ex (d - 1) 59 [.ref b, .int p0, .int p1, .int p2] σ (mb_qx [] d 90 1007 ls st Q)) := rn_callv mb_good rfl hd rfl rfl ⟨rfl, rfl⟩ h4 ⟨Nat.le_of_ble_eq_true rfl, rfl⟩
set_option maxRecDepth 20000 in
theorem sL_law_1007 {d : Nat} {Q : mb_O → mb_S → Prop} {σ : mb_S} {st : List Value} {l0 l1 l2 l3 l4 l5 l6 l7 l8 l9 l10 l11 l12 l13 l14 l15 l16 l18 l19 : Option Value} {x : Int32} : mb_Rn d 90 1007 [l0, l1, l2, l3, l4, l5, l6, l7, l8, l9, l10, l11, l12, l13, l14, l15, l16, some (.int x), l18, l19] st σ Q = mb_Rn d 90 1009 [l0, l1, l2, l3, l4, l5, l6, l7, l8, l9, l10, l11, l12, l13, l14, l15, l16, some (.int x), l18, l19] (.int x :: st) σ Q := rn_step rfl (fun _ _ => rfl)
set_option maxRecDepth 20000 in
theorem sL_law_1009 {d : Nat} {Q : mb_O → mb_S → Prop} {σ : mb_S} {st : List Value} {ls : mb_L} : mb_Rn d 90 1009 ls st σ Q = mb_Rn d 90 1010 ls (.int 1 :: st) σ Q := rn_step rfl (fun _ _ => rfl)
set_option maxRecDepth 20000 in
theorem sL_law_1010 {d : Nat} {Q : mb_O → mb_S → Prop} {σ : mb_S} {st : List Value} {ls : mb_L} {x z : Int32} : mb_Rn d 90 1010 ls (.int z :: .int x :: st) σ Q = mb_Rn d 90 1011 ls (.int (x + z) :: st) σ Q := rn_step rfl (fun _ _ => rfl)
set_option maxRecDepth 20000 in
theorem sL_law_1011 {d : Nat} {Q : mb_O → mb_S → Prop} {σ : mb_S} {st : List Value} {ls : mb_L} {x z : Int32} : mb_Rn d 90 1011 ls (.int z :: .int x :: st) σ Q = if x = z then mb_Rn d 90 1014 ls st σ Q else mb_Rn d 90 1030 ls st σ Q := rn_ifn rfl (fun _ _ => rfl) bne_iff_ne
set_option maxRecDepth 20000 in
theorem sL_law_1014 {d : Nat} {Q : mb_O → mb_S → Prop} {σ : mb_S} {st : List Value} {l0 l2 l3 l4 l5 l6 l7 l8 l9 l10 l11 l12 l13 l14 l15 l16 l17 l18 l19 : Option Value} {a : Nat} : mb_Rn d 90 1014 [l0, some (.ref a), l2, l3, l4, l5, l6, l7, l8, l9, l10, l11, l12, l13, l14, l15, l16, l17, l18, l19] st σ Q = mb_Rn d 90 1015 [l0, some (.ref a), l2, l3, l4, l5, l6, l7, l8, l9, l10, l11, l12, l13, l14, l15, l16, l17, l18, l19] (.ref a :: st) σ Q := rn_step rfl (fun _ _ => rfl)
set_option maxRecDepth 20000 in
theorem sL_law_1014n {d : Nat} {Q : mb_O → mb_S → Prop} {σ : mb_S} {st : List Value} {l0 l2 l3 l4 l5 l6 l7 l8 l9 l10 l11 l12 l13 l14 l15 l16 l17 l18 l19 : Option Value} : mb_Rn d 90 1014 [l0, some (.null), l2, l3, l4, l5, l6, l7, l8, l9, l10, l11, l12, l13, l14, l15, l16, l17, l18, l19] st σ Q = mb_Rn d 90 1015 [l0, some (.null), l2, l3, l4, l5, l6, l7, l8, l9, l10, l11, l12, l13, l14, l15, l16, l17, l18, l19] (.null :: st) σ Q := rn_step rfl (fun _ _ => rfl)
set_option maxRecDepth 20000 in
theorem sL_law_1015 {d : Nat} {Q : mb_O → mb_S → Prop} {σ : mb_S} {st : List Value} {ls : mb_L} : mb_Rn d 90 1015 ls st σ Q = mb_Rn d 90 1016 ls (.int 5 :: st) σ Q := rn_step rfl (fun _ _ => rfl)
set_option maxRecDepth 20000 in
theorem sL_law_1016 {d : Nat} {Q : mb_O → mb_S → Prop} {σ : mb_S} {st : List Value} {ls : mb_L} {p0 : Int32} {b : Nat} (hd : 1 ≤ d) (h4 : st.length ≤ 4) : mb_Rn d 90 1016 ls (.int p0 :: .ref b :: st) σ Q = mb_gf σ b 7 False (fun _ => mb_Ex (d - 1) 61 [.ref b, .int p0] σ (mb_qx [] d 90 1019 ls st Q)) := rn_callv mb_good rfl hd rfl rfl ⟨rfl, rfl⟩ h4 ⟨Nat.le_of_ble_eq_true rfl, rfl⟩
set_option maxRecDepth 20000 in
theorem sL_law_1019 {d : Nat} {Q : mb_O → mb_S → Prop} {σ : mb_S} {st : List Value} {l0 l1 l2 l3 l4 l5 l6 l7 l8 l9 l10 l11 l12 l13 l14 l15 l16 l17 l19 : Option Value} {x : Int32} : mb_Rn d 90 1019 [l0, l1, l2, l3, l4, l5, l6, l7, l8, l9, l10, l11, l12, l13, l14, l15, l16, l17, some (.int x), l19] st σ Q = mb_Rn d 90 1021 [l0, l1, l2, l3, l4, l5, l6, l7, l8, l9, l10, l11, l12, l13, l14, l15, l16, l17, some (.int x), l19] (.int x :: st) σ Q := rn_step rfl (fun _ _ => rfl)
set_option maxRecDepth 20000 in
theorem sL_law_1021 {d : Nat} {Q : mb_O → mb_S → Prop} {σ : mb_S} {st : List Value} {ls : mb_L} : mb_Rn d 90 1021 ls st σ Q = mb_Rn d 90 1022 ls (.int 1 :: st) σ Q := rn_step rfl (fun _ _ => rfl)
set_option maxRecDepth 20000 in
theorem sL_law_1022 {d : Nat} {Q : mb_O → mb_S → Prop} {σ : mb_S} {st : List Value} {ls : mb_L} {x z : Int32} : mb_Rn d 90 1022 ls (.int z :: .int x :: st) σ Q = mb_Rn d 90 1023 ls (.int (x + z) :: st) σ Q := rn_step rfl (fun _ _ => rfl)
set_option maxRecDepth 20000 in
theorem sL_law_1023 {d : Nat} {Q : mb_O → mb_S → Prop} {σ : mb_S} {st : List Value} {ls : mb_L} {x z : Int32} : mb_Rn d 90 1023 ls (.int z :: .int x :: st) σ Q = if x = z then mb_Rn d 90 1026 ls st σ Q else mb_Rn d 90 1030 ls st σ Q := rn_ifn rfl (fun _ _ => rfl) bne_iff_ne
set_option maxRecDepth 20000 in
theorem sL_law_1026 {d : Nat} {Q : mb_O → mb_S → Prop} {σ : mb_S} {st : List Value} {ls : mb_L} : mb_Rn d 90 1026 ls st σ Q = mb_Rn d 90 1027 ls (.int 1 :: st) σ Q := rn_step rfl (fun _ _ => rfl)
set_option maxRecDepth 20000 in
theorem sL_law_1027 {d : Nat} {Q : mb_O → mb_S → Prop} {σ : mb_S} {st : List Value} {ls : mb_L} : mb_Rn d 90 1027 ls st σ Q = mb_Rn d 90 1031 ls st σ Q := rn_step rfl (fun _ _ => rfl)
set_option maxRecDepth 20000 in
theorem sL_law_1030 {d : Nat} {Q : mb_O → mb_S → Prop} {σ : mb_S} {st : List Value} {ls : mb_L} : mb_Rn d 90 1030 ls st σ Q = mb_Rn d 90 1031 ls (.int 0 :: st) σ Q := rn_step rfl (fun _ _ => rfl)
set_option maxRecDepth 20000 in
theorem sL_law_1031 {d : Nat} {Q : mb_O → mb_S → Prop} {σ : mb_S} {st : List Value} {l0 l1 l2 l3 l4 l5 l6 l7 l8 l9 l10 l11 l12 l13 l14 l15 l16 l17 l18 l19 : Option Value} {x : Int32} : mb_Rn d 90 1031 [l0, l1, l2, l3, l4, l5, l6, l7, l8, l9, l10, l11, l12, l13, l14, l15, l16, l17, l18, l19] (.int x :: st) σ Q = mb_Rn d 90 1033 [l0, l1, l2, l3, l4, l5, l6, l7, l8, some (.int x), l10, l11, l12, l13, l14, l15, l16, l17, l18, l19] st σ Q := rn_step rfl (fun _ _ => rfl)
set_option maxRecDepth 20000 in
theorem sL_law_1033 {d : Nat} {Q : mb_O → mb_S → Prop} {σ : mb_S} {st : List Value} {ls : mb_L} : mb_Rn d 90 1033 ls st σ Q = mb_Rn d 90 1268 ls st σ Q := rn_step rfl (fun _ _ => rfl)
set_option maxRecDepth 20000 in
theorem sL_law_1036 {d : Nat} {Q : mb_O → mb_S → Prop} {σ : mb_S} {st : List Value} {l0 l1 l2 l3 l4 l5 l6 l7 l9 l10 l11 l12 l13 l14 l15 l16 l17 l18 l19 : Option Value} {x : Int32} : mb_Rn d 90 1036 [l0, l1, l2, l3, l4, l5, l6, l7, some (.int x), l9, l10, l11, l12, l13, l14, l15, l16, l17, l18, l19] st σ Q = mb_Rn d 90 1038 [l0, l1, l2, l3, l4, l5, l6, l7, some (.int x), l9, l10, l11, l12, l13, l14, l15, l16, l17, l18, l19] (.int x :: st) σ Q := rn_step rfl (fun _ _ => rfl)
set_option maxRecDepth 20000 in
theorem sL_law_1038 {d : Nat} {Q : mb_O → mb_S → Prop} {σ : mb_S} {st : List Value} {ls : mb_L} : mb_Rn d 90 1038 ls st σ Q = mb_Rn d 90 1040 ls (.int 30 :: st) σ Q := rn_step rfl (fun _ _ => rfl)
set_option maxRecDepth 20000 in
theorem sL_law_1040 {d : Nat} {Q : mb_O → mb_S → Prop} {σ : mb_S} {st : List Value} {ls : mb_L} {x z : Int32} : mb_Rn d 90 1040 ls (.int z :: .int x :: st) σ Q = if z ≤ x then mb_Rn d 90 1268 ls st σ Q else mb_Rn d 90 1043 ls st σ Q := rn_ifb rfl (fun _ _ => rfl) decide_eq_true_iff
set_option maxRecDepth 20000 in
theorem sL_law_1043 {d : Nat} {Q : mb_O → mb_S → Prop} {σ : mb_S} {st : List Value} {l0 l1 l2 l3 l4 l5 l6 l7 l9 l10 l11 l12 l13 l14 l15 l16 l17 l18 l19 : Option Value} {x : Int32} : mb_Rn d 90 1043 [l0, l1, l2, l3, l4, l5, l6, l7, some (.int x), l9, l10, l11, l12, l13, l14, l15, l16, l17, l18, l19] st σ Q = mb_Rn d 90 1046 [l0, l1, l2, l3, l4, l5, l6, l7, some (.int (x + 1)), l9, l10, l11, l12, l13, l14, l15, l16, l17, l18, l19] st σ Q := rn_step rfl (fun _ _ => rfl)
set_option maxRecDepth 20000 in
theorem sL_law_1046 {d : Nat} {Q : mb_O → mb_S → Prop} {σ : mb_S} {st : List Value} {l0 l2 l3 l4 l5 l6 l7 l8 l9 l10 l11 l12 l13 l14 l15 l16 l17 l18 l19 : Option Value} {a : Nat} : mb_Rn d 90 1046 [l0, some (.ref a), l2, l3, l4, l5, l6, l7, l8, l9, l10, l11, l12, l13, l14, l15, l16, l17, l18, l19] st σ Q = mb_Rn d 90 1047 [l0, some (.ref a), l2, l3, l4, l5, l6, l7, l8, l9, l10, l11, l12, l13, l14, l15, l16, l17, l18, l19] (.ref a :: st) σ Q := rn_step rfl (fun _ _ => rfl)
set_option maxRecDepth 20000 in
theorem sL_law_1046n {d : Nat} {Q : mb_O → mb_S → Prop} {σ : mb_S} {st : List Value} {l0 l2 l3 l4 l5 l6 l7 l8 l9 l10 l11 l12 l13 l14 l15 l16 l17 l18 l19 : Option Value} : mb_Rn d 90 1046 [l0, some (.null), l2, l3, l4, l5, l6, l7, l8, l9, l10, l11, l12, l13, l14, l15, l16, l17, l18, l19] st σ Q = mb_Rn d 90 1047 [l0, some (.null), l2, l3, l4, l5, l6, l7, l8, l9, l10, l11, l12, l13, l14, l15, l16, l17, l18, l19] (.null :: st) σ Q := rn_step rfl (fun _ _ => rfl)
set_option maxRecDepth 20000 in
theorem sL_law_1047 {d : Nat} {Q : mb_O → mb_S → Prop} {σ : mb_S} {st : List Value} {l0 l1 l2 l3 l4 l5 l6 l7 l8 l9 l10 l11 l12 l13 l14 l16 l17 l18 l19 : Option Value} {x : Int32} : mb_Rn d 90 1047 [l0, l1, l2, l3, l4, l5, l6, l7, l8, l9, l10, l11, l12, l13, l14, some (.int x), l16, l17, l18, l19] st σ Q = mb_Rn d 90 1049 [l0, l1, l2, l3, l4, l5, l6, l7, l8, l9, l10, l11, l12, l13, l14, some (.int x), l16, l17, l18, l19] (.int x :: st) σ Q := rn_step rfl (fun _ _ => rfl)
set_option maxRecDepth 20000 in
theorem sL_law_1049 {d : Nat} {Q : mb_O → mb_S → Prop} {σ : mb_S} {st : List Value} {l0 l1 l2 l3 l5 l6 l7 l8 l9 l10 l11 l12 l13 l14 l15 l16 l17 l18 l19 : Option Value} {a : Nat} : mb_Rn d 90 1049 [l0, l1, l2, l3, some (.ref a), l5, l6, l7, l8, l9, l10, l11, l12, l13, l14, l15, l16, l17, l18, l19] st σ Q = mb_Rn d 90 1051 [l0, l1, l2, l3, some (.ref a), l5, l6, l7, l8, l9, l10, l11, l12, l13, l14, l15, l16, l17, l18, l19] (.ref a :: st) σ Q := rn_step rfl (fun _ _ => rfl)
set_option maxRecDepth 20000 in
theorem sL_law_1049n {d : Nat} {Q : mb_O → mb_S → Prop} {σ : mb_S} {st : List Value} {l0 l1 l2 l3 l5 l6 l7 l8 l9 l10 l11 l12 l13 l14 l15 l16 l17 l18 l19 : Option Value} : mb_Rn d 90 1049 [l0, l1, l2, l3, some (.null), l5, l6, l7, l8, l9, l10, l11, l12, l13, l14, l15, l16, l17, l18, l19] st σ Q = mb_Rn d 90 1051 [l0, l1, l2, l3, some (.null), l5, l6, l7, l8, l9, l10, l11, l12, l13, l14, l15, l16, l17, l18, l19] (.null :: st) σ Q := rn_step rfl (fun _ _ => rfl)
set_option maxRecDepth 20000 in
theorem sL_law_1051 {d : Nat} {Q : mb_O → mb_S → Prop} {σ : mb_S} {st : List Value} {l0 l1 l2 l3 l4 l5 l6 l7 l8 l9 l10 l11 l12 l13 l14 l16 l17 l18 l19 : Option Value} {x : Int32} : mb_Rn d 90 1051 [l0, l1, l2, l3, l4, l5, l6, l7, l8, l9, l10, l11, l12, l13, l14, some (.int x), l16, l17, l18, l19] st σ Q = mb_Rn d 90 1053 [l0, l1, l2, l3, l4, l5, l6, l7, l8, l9, l10, l11, l12, l13, l14, some (.int x), l16, l17, l18, l19] (.int x :: st) σ Q := rn_step rfl (fun _ _ => rfl)
set_option maxRecDepth 20000 in
theorem sL_law_1053 {d : Nat} {Q : mb_O → mb_S → Prop} {σ : mb_S} {st : List Value} {ls : mb_L} {a : Nat} {j : Int32} : mb_Rn d 90 1053 ls (.int j :: .ref a :: st) σ Q = mb_gi σ a j False (fun kd _ f => if kd = 0 ∨ kd = 9 then mb_Rn d 90 1054 ls (.int (f j.toNatClampNeg) :: st) σ Q else False) := rn_iald rfl
set_option maxRecDepth 20000 in
theorem sL_law_1054 {d : Nat} {Q : mb_O → mb_S → Prop} {σ : mb_S} {st : List Value} {l0 l1 l2 l3 l4 l5 l6 l8 l9 l10 l11 l12 l13 l14 l15 l16 l17 l18 l19 : Option Value} {x : Int32} : mb_Rn d 90 1054 [l0, l1, l2, l3, l4, l5, l6, some (.int x), l8, l9, l10, l11, l12, l13, l14, l15, l16, l17, l18, l19] st σ Q = mb_Rn d 90 1056 [l0, l1, l2, l3, l4, l5, l6, some (.int x), l8, l9, l10, l11, l12, l13, l14, l15, l16, l17, l18, l19] (.int x :: st) σ Q := rn_step rfl (fun _ _ => rfl)
set_option maxRecDepth 20000 in
theorem sL_law_1056 {d : Nat} {Q : mb_O → mb_S → Prop} {σ : mb_S} {st : List Value} {ls : mb_L} {p0 : Nat} {p1 : Int32} {p2 : Int32} {p3 : Int32} (hd : 1 ≤ d) (h4 : st.length ≤ 4) : mb_Rn d 90 1056 ls (.int p3 :: .int p2 :: .int p1 :: .ref p0 :: st) σ Q = mb_Ex (d - 1) 89 [.ref p0, .int p1, .int p2, .int p3] σ (mb_qk d 90 1059 ls st Q) := rn_calls mb_good rfl hd rfl rfl ⟨rfl, rfl⟩ h4 ⟨Nat.le_of_ble_eq_true rfl, rfl⟩
set_option maxRecDepth 20000 in
theorem sL_law_1059 {d : Nat} {Q : mb_O → mb_S → Prop} {σ : mb_S} {st : List Value} {l0 l1 l2 l3 l4 l5 l6 l7 l8 l9 l10 l11 l12 l13 l14 l15 l16 l17 l18 l19 : Option Value} {x : Int32} : mb_Rn d 90 1059 [l0, l1, l2, l3, l4, l5, l6, l7, l8, l9, l10, l11, l12, l13, l14, l15, l16, l17, l18, l19] (.int x :: st) σ Q = mb_Rn d 90 1061 [l0, l1, l2, l3, l4, l5, l6, l7, l8, some (.int x), l10, l11, l12, l13, l14, l15, l16, l17, l18, l19] st σ Q := rn_step rfl (fun _ _ => rfl)
set_option maxRecDepth 20000 in
theorem sL_law_1061 {d : Nat} {Q : mb_O → mb_S → Prop} {σ : mb_S} {st : List Value} {l0 l1 l2 l3 l4 l5 l6 l7 l8 l10 l11 l12 l13 l14 l15 l16 l17 l18 l19 : Option Value} {x : Int32} : mb_Rn d 90 1061 [l0, l1, l2, l3, l4, l5, l6, l7, l8, some (.int x), l10, l11, l12, l13, l14, l15, l16, l17, l18, l19] st σ Q = mb_Rn d 90 1063 [l0, l1, l2, l3, l4, l5, l6, l7, l8, some (.int x), l10, l11, l12, l13, l14, l15, l16, l17, l18, l19] (.int x :: st) σ Q := rn_step rfl (fun _ _ => rfl)
set_option maxRecDepth 20000 in
theorem sL_law_1063 {d : Nat} {Q : mb_O → mb_S → Prop} {σ : mb_S} {st : List Value} {ls : mb_L} {x : Int32} : mb_Rn d 90 1063 ls (.int x :: st) σ Q = if x = 0 then mb_Rn d 90 1162 ls st σ Q else mb_Rn d 90 1066 ls st σ Q := rn_ifb rfl (fun _ _ => rfl) beq_iff_eq
set_option maxRecDepth 20000 in
theorem sL_law_1066 {d : Nat} {Q : mb_O → mb_S → Prop} {σ : mb_S} {st : List Value} {l0 l1 l2 l3 l4 l5 l6 l7 l8 l9 l10 l11 l13 l14 l15 l16 l17 l18 l19 : Option Value} {x : Int32} : mb_Rn d 90 1066 [l0, l1, l2, l3, l4, l5, l6, l7, l8, l9, l10, l11, some (.int x), l13, l14, l15, l16, l17, l18, l19] st σ Q = mb_Rn d 90 1068 [l0, l1, l2, l3, l4, l5, l6, l7, l8, l9, l10, l11, some (.int x), l13, l14, l15, l16, l17, l18, l19] (.int x :: st) σ Q := rn_step rfl (fun _ _ => rfl)
set_option maxRecDepth 20000 in
theorem sL_law_1068 {d : Nat} {Q : mb_O → mb_S → Prop} {σ : mb_S} {st : List Value} {ls : mb_L} : mb_Rn d 90 1068 ls st σ Q = mb_Rn d 90 1069 ls (.int 3 :: st) σ Q := rn_step rfl (fun _ _ => rfl)
set_option maxRecDepth 20000 in
theorem sL_law_1069 {d : Nat} {Q : mb_O → mb_S → Prop} {σ : mb_S} {st : List Value} {ls : mb_L} {x z : Int32} : mb_Rn d 90 1069 ls (.int z :: .int x :: st) σ Q = mb_Rn d 90 1070 ls (.int (x &&& z) :: st) σ Q := rn_step rfl (fun _ _ => rfl)
set_option maxRecDepth 20000 in
theorem sL_law_1070 {d : Nat} {Q : mb_O → mb_S → Prop} {σ : mb_S} {st : List Value} {ls : mb_L} {x : Int32} : mb_Rn d 90 1070 ls (.int x :: st) σ Q = if x ≤ 0 then mb_Rn d 90 1162 ls st σ Q else mb_Rn d 90 1073 ls st σ Q := rn_ifb rfl (fun _ _ => rfl) decide_eq_true_iff
set_option maxRecDepth 20000 in
theorem sL_law_1073 {d : Nat} {Q : mb_O → mb_S → Prop} {σ : mb_S} {st : List Value} {l0 l2 l3 l4 l5 l6 l7 l8 l9 l10 l11 l12 l13 l14 l15 l16 l17 l18 l19 : Option Value} {a : Nat} : mb_Rn d 90 1073 [l0, some (.ref a), l2, l3, l4, l5, l6, l7, l8, l9, l10, l11, l12, l13, l14, l15, l16, l17, l18, l19] st σ Q = mb_Rn d 90 1074 [l0, some (.ref a), l2, l3, l4, l5, l6, l7, l8, l9, l10, l11, l12, l13, l14, l15, l16, l17, l18, l19] (.ref a :: st) σ Q := rn_step rfl (fun _ _ => rfl)
set_option maxRecDepth 20000 in
theorem sL_law_1073n {d : Nat} {Q : mb_O → mb_S → Prop} {σ : mb_S} {st : List Value} {l0 l2 l3 l4 l5 l6 l7 l8 l9 l10 l11 l12 l13 l14 l15 l16 l17 l18 l19 : Option Value} : mb_Rn d 90 1073 [l0, some (.null), l2, l3, l4, l5, l6, l7, l8, l9, l10, l11, l12, l13, l14, l15, l16, l17, l18, l19] st σ Q = mb_Rn d 90 1074 [l0, some (.null), l2, l3, l4, l5, l6, l7, l8, l9, l10, l11, l12, l13, l14, l15, l16, l17, l18, l19] (.null :: st) σ Q := rn_step rfl (fun _ _ => rfl)
set_option maxRecDepth 20000 in
theorem sL_law_1074 {d : Nat} {Q : mb_O → mb_S → Prop} {σ : mb_S} {st : List Value} {ls : mb_L} : mb_Rn d 90 1074 ls st σ Q = mb_Rn d 90 1075 ls (.int 5 :: st) σ Q := rn_step rfl (fun _ _ => rfl)
set_option maxRecDepth 20000 in
theorem sL_law_1075 {d : Nat} {Q : mb_O → mb_S → Prop} {σ : mb_S} {st : List Value} {ls : mb_L} {p0 : Int32} {b : Nat} (hd : 1 ≤ d) (h4 : st.length ≤ 4) : mb_Rn d 90 1075 ls (.int p0 :: .ref b :: st) σ Q = mb_gf σ b 7 False (fun _ => mb_Ex (d - 1) 61 [.ref b, .int p0] σ (mb_qx [] d 90 1078 ls st Q)) := rn_callv mb_good rfl hd rfl rfl ⟨rfl, rfl⟩ h4 ⟨Nat.le_of_ble_eq_true rfl, rfl⟩
set_option maxRecDepth 20000 in
theorem sL_law_1078 {d : Nat} {Q : mb_O → mb_S → Prop} {σ : mb_S} {st : List Value} {l0 l1 l2 l3 l4 l5 l6 l7 l8 l9 l10 l11 l12 l13 l14 l15 l16 l17 l18 l19 : Option Value} {x : Int32} : mb_Rn d 90 1078 [l0, l1, l2, l3, l4, l5, l6, l7, l8, l9, l10, l11, l12, l13, l14, l15, l16, l17, l18, l19] (.int x :: st) σ Q = mb_Rn d 90 1080 [l0, l1, l2, l3, l4, l5, l6, l7, l8, l9, l10, l11, l12, l13, l14, l15, some (.int x), l17, l18, l19] st σ Q := rn_step rfl (fun _ _ => rfl)
set_option maxRecDepth 20000 in
theorem sL_law_1080 {d : Nat} {Q : mb_O → mb_S → Prop} {σ : mb_S} {st : List Value} {l0 l2 l3 l4 l5 l6 l7 l8 l9 l10 l11 l12 l13 l14 l15 l16 l17 l18 l19 : Option Value} {a : Nat} : mb_Rn d 90 1080 [l0, some (.ref a), l2, l3, l4, l5, l6, l7, l8, l9, l10, l11, l12, l13, l14, l15, l16, l17, l18, l19] st σ Q = mb_Rn d 90 1081 [l0, some (.ref a), l2, l3, l4, l5, l6, l7, l8, l9, l10, l11, l12, l13, l14, l15, l16, l17, l18, l19] (.ref a :: st) σ Q := rn_step rfl (fun _ _ => rfl)
set_option maxRecDepth 20000 in
theorem sL_law_1080n {d : Nat} {Q : mb_O → mb_S → Prop} {σ : mb_S} {st : List Value} {l0 l2 l3 l4 l5 l6 l7 l8 l9 l10 l11 l12 l13 l14 l15 l16 l17 l18 l19 : Option Value} : mb_Rn d 90 1080 [l0, some (.null), l2, l3, l4, l5, l6, l7, l8, l9, l10, l11, l12, l13, l14, l15, l16, l17, l18, l19] st σ Q = mb_Rn d 90 1081 [l0, some (.null), l2, l3, l4, l5, l6, l7, l8, l9, l10, l11, l12, l13, l14, l15, l16, l17, l18, l19] (.null :: st) σ Q := rn_step rfl (fun _ _ => rfl)
set_option maxRecDepth 20000 in
theorem sL_law_1081 {d : Nat} {Q : mb_O → mb_S → Prop} {σ : mb_S} {st : List Value} {l0 l1 l2 l3 l4 l5 l6 l7 l8 l9 l10 l11 l12 l13 l14 l16 l17 l18 l19 : Option Value} {x : Int32} : mb_Rn d 90 1081 [l0, l1, l2, l3, l4, l5, l6, l7, l8, l9, l10, l11, l12, l13, l14, some (.int x), l16, l17, l18, l19] st σ Q = mb_Rn d 90 1083 [l0, l1, l2, l3, l4, l5, l6, l7, l8, l9, l10, l11, l12, l13, l14, some (.int x), l16, l17, l18, l19] (.int x :: st) σ Q := rn_step rfl (fun _ _ => rfl)
set_option maxRecDepth 20000 in
theorem sL_law_1083 {d : Nat} {Q : mb_O → mb_S → Prop} {σ : mb_S} {st : List Value} {ls : mb_L} {p0 : Int32} {b : Nat} (hd : 1 ≤ d) (h4 : st.length ≤ 4) : mb_Rn d 90 1083 ls (.int p0 :: .ref b :: st) σ Q = mb_gf σ b 7 False (fun _ => mb_Ex (d - 1) 57 [.ref b, .int p0] σ (mb_qx [] d 90 1086 ls st Q)) := rn_callv mb_good rfl hd rfl rfl ⟨rfl, rfl⟩ h4 ⟨Nat.le_of_ble_eq_true rfl, rfl⟩
set_option maxRecDepth 20000 in
theorem sL_law_1086 {d : Nat} {Q : mb_O → mb_S → Prop} {σ : mb_S} {st : List Value} {l0 l1 l2 l3 l4 l5 l6 l7 l8 l9 l10 l11 l12 l13 l14 l15 l16 l17 l18 l19 : Option Value} {x : Int32} : mb_Rn d 90 1086 [l0, l1, l2, l3, l4, l5, l6, l7, l8, l9, l10, l11, l12, l13, l14, l15, l16, l17, l18, l19] (.int x :: st) σ Q = mb_Rn d 90 1088 [l0, l1, l2, l3, l4, l5, l6, l7, l8, l9, l10, l11, l12, l13, l14, l15, l16, some (.int x), l18, l19] st σ Q := rn_step rfl (fun _ _ => rfl)
set_option maxRecDepth 20000 in
theorem sL_law_1088 {d : Nat} {Q : mb_O → mb_S → Prop} {σ : mb_S} {st : List Value} {l0 l2 l3 l4 l5 l6 l7 l8 l9 l10 l11 l12 l13 l14 l15 l16 l17 l18 l19 : Option Value} {a : Nat} : mb_Rn d 90 1088 [l0, some (.ref a), l2, l3, l4, l5, l6, l7, l8, l9, l10, l11, l12, l13, l14, l15, l16, l17, l18, l19] st σ Q = mb_Rn d 90 1089 [l0, some (.ref a), l2, l3, l4, l5, l6, l7, l8, l9, l10, l11, l12, l13, l14, l15, l16, l17, l18, l19] (.ref a :: st) σ Q := rn_step rfl (fun _ _ => rfl)
set_option maxRecDepth 20000 in
theorem sL_law_1088n {d : Nat} {Q : mb_O → mb_S → Prop} {σ : mb_S} {st : List Value} {l0 l2 l3 l4 l5 l6 l7 l8 l9 l10 l11 l12 l13 l14 l15 l16 l17 l18 l19 : Option Value} : mb_Rn d 90 1088 [l0, some (.null), l2, l3, l4, l5, l6, l7, l8, l9, l10, l11, l12, l13, l14, l15, l16, l17, l18, l19] st σ Q = mb_Rn d 90 1089 [l0, some (.null), l2, l3, l4, l5, l6, l7, l8, l9, l10, l11, l12, l13, l14, l15, l16, l17, l18, l19] (.null :: st) σ Q := rn_step rfl (fun _ _ => rfl)
set_option maxRecDepth 20000 in
theorem sL_law_1089 {d : Nat} {Q : mb_O → mb_S → Prop} {σ : mb_S} {st : List Value} {l0 l1 l2 l3 l4 l5 l6 l7 l8 l9 l10 l11 l12 l13 l14 l16 l17 l18 l19 : Option Value} {x : Int32} : mb_Rn d 90 1089 [l0, l1, l2, l3, l4, l5, l6, l7, l8, l9, l10, l11, l12, l13, l14, some (.int x), l16, l17, l18, l19] st σ Q = mb_Rn d 90 1091 [l0, l1, l2, l3, l4, l5, l6, l7, l8, l9, l10, l11, l12, l13, l14, some (.int x), l16, l17, l18, l19] (.int x :: st) σ Q := rn_step rfl (fun _ _ => rfl)
set_option maxRecDepth 20000 in
theorem sL_law_1091 {d : Nat} {Q : mb_O → mb_S → Prop} {σ : mb_S} {st : List Value} {ls : mb_L} {p0 : Int32} {b : Nat} (hd : 1 ≤ d) (h4 : st.length ≤ 4) : mb_Rn d 90 1091 ls (.int p0 :: .ref b :: st) σ Q = mb_gf σ b 7 False (fun _ => mb_Ex (d - 1) 55 [.ref b, .int p0] σ (mb_qx [] d 90 1094 ls st Q)) := rn_callv mb_good rfl hd rfl rfl ⟨rfl, rfl⟩ h4 ⟨Nat.le_of_ble_eq_true rfl, rfl⟩
set_option maxRecDepth 20000 in
theorem sL_law_1094 {d : Nat} {Q : mb_O → mb_S → Prop} {σ : mb_S} {st : List Value} {l0 l1 l2 l3 l4 l5 l6 l7 l8 l9 l10 l11 l12 l13 l14 l15 l16 l18 l19 : Option Value} {x : Int32} : mb_Rn d 90 1094 [l0, l1, l2, l3, l4, l5, l6, l7, l8, l9, l10, l11, l12, l13, l14, l15, l16, some (.int x), l18, l19] st σ Q = mb_Rn d 90 1096 [l0, l1, l2, l3, l4, l5, l6, l7, l8, l9, l10, l11, l12, l13, l14, l15, l16, some (.int x), l18, l19] (.int x :: st) σ Q := rn_step rfl (fun _ _ => rfl)
set_option maxRecDepth 20000 in
theorem sL_law_1096 {d : Nat} {Q : mb_O → mb_S → Prop} {σ : mb_S} {st : List Value} {ls : mb_L} {x z : Int32} : mb_Rn d 90 1096 ls (.int z :: .int x :: st) σ Q = if x = z then mb_Rn d 90 1099 ls st σ Q else mb_Rn d 90 1159 ls st σ Q := rn_ifn rfl (fun _ _ => rfl) bne_iff_ne
set_option maxRecDepth 20000 in
theorem sL_law_1099 {d : Nat} {Q : mb_O → mb_S → Prop} {σ : mb_S} {st : List Value} {l0 l2 l3 l4 l5 l6 l7 l8 l9 l10 l11 l12 l13 l14 l15 l16 l17 l18 l19 : Option Value} {a : Nat} : mb_Rn d 90 1099 [l0, some (.ref a), l2, l3, l4, l5, l6, l7, l8, l9, l10, l11, l12, l13, l14, l15, l16, l17, l18, l19] st σ Q = mb_Rn d 90 1100 [l0, some (.ref a), l2, l3, l4, l5, l6, l7, l8, l9, l10, l11, l12, l13, l14, l15, l16, l17, l18, l19] (.ref a :: st) σ Q := rn_step rfl (fun _ _ => rfl)
set_option maxRecDepth 20000 in
theorem sL_law_1099n {d : Nat} {Q : mb_O → mb_S → Prop} {σ : mb_S} {st : List Value} {l0 l2 l3 l4 l5 l6 l7 l8 l9 l10 l11 l12 l13 l14 l15 l16 l17 l18 l19 : Option Value} : mb_Rn d 90 1099 [l0, some (.null), l2, l3, l4, l5, l6, l7, l8, l9, l10, l11, l12, l13, l14, l15, l16, l17, l18, l19] st σ Q = mb_Rn d 90 1100 [l0, some (.null), l2, l3, l4, l5, l6, l7, l8, l9, l10, l11, l12, l13, l14, l15, l16, l17, l18, l19] (.null :: st) σ Q := rn_step rfl (fun _ _ => rfl)
set_option maxRecDepth 20000 in
theorem sL_law_1100 {d : Nat} {Q : mb_O → mb_S → Prop} {σ : mb_S} {st : List Value} {l0 l1 l2 l3 l4 l5 l6 l7 l8 l9 l10 l11 l12 l13 l14 l16 l17 l18 l19 : Option Value} {x : Int32} : mb_Rn d 90 1100 [l0, l1, l2, l3, l4, l5, l6, l7, l8, l9, l10, l11, l12, l13, l14, some (.int x), l16, l17, l18, l19] st σ Q = mb_Rn d 90 1102 [l0, l1, l2, l3, l4, l5, l6, l7, l8, l9, l10, l11, l12, l13, l14, some (.int x), l16, l17, l18, l19] (.int x :: st) σ Q := rn_step rfl (fun _ _ => rfl)
set_option maxRecDepth 20000 in
theorem sL_law_1102 {d : Nat} {Q : mb_O → mb_S → Prop} {σ : mb_S} {st : List Value} {ls : mb_L} {p0 : Int32} {b : Nat} (hd : 1 ≤ d) (h4 : st.length ≤ 4) : mb_Rn d 90 1102 ls (.int p0 :: .ref b :: st) σ Q = mb_gf σ b 7 False (fun _ => mb_Ex (d - 1) 57 [.ref b, .int p0] σ (mb_qx [] d 90 1105 ls st Q)) := rn_callv mb_good rfl hd rfl rfl ⟨rfl, rfl⟩ h4 ⟨Nat.le_of_ble_eq_true rfl, rfl⟩
set_option maxRecDepth 20000 in
theorem sL_law_1105 {d : Nat} {Q : mb_O → mb_S → Prop} {σ : mb_S} {st : List Value} {ls : mb_L} {x : Int32} : mb_Rn d 90 1105 ls (.int x :: st) σ Q = if x = 0 then mb_Rn d 90 1108 ls st σ Q else mb_Rn d 90 1159 ls st σ Q := rn_ifn rfl (fun _ _ => rfl) bne_iff_ne
set_option maxRecDepth 20000 in
theorem sL_law_1108 {d : Nat} {Q : mb_O → mb_S → Prop} {σ : mb_S} {st : List Value} {l0 l2 l3 l4 l5 l6 l7 l8 l9 l10 l11 l12 l13 l14 l15 l16 l17 l18 l19 : Option Value} {a : Nat} : mb_Rn d 90 1108 [l0, some (.ref a), l2, l3, l4, l5, l6, l7, l8, l9, l10, l11, l12, l13, l14, l15, l16, l17, l18, l19] st σ Q = mb_Rn d 90 1109 [l0, some (.ref a), l2, l3, l4, l5, l6, l7, l8, l9, l10, l11, l12, l13, l14, l15, l16, l17, l18, l19] (.ref a :: st) σ Q := rn_step rfl (fun _ _ => rfl)
set_option maxRecDepth 20000 in
theorem sL_law_1108n {d : Nat} {Q : mb_O → mb_S → Prop} {σ : mb_S} {st : List Value} {l0 l2 l3 l4 l5 l6 l7 l8 l9 l10 l11 l12 l13 l14 l15 l16 l17 l18 l19 : Option Value} : mb_Rn d 90 1108 [l0, some (.null), l2, l3, l4, l5, l6, l7, l8, l9, l10, l11, l12, l13, l14, l15, l16, l17, l18, l19] st σ Q = mb_Rn d 90 1109 [l0, some (.null), l2, l3, l4, l5, l6, l7, l8, l9, l10, l11, l12, l13, l14, l15, l16, l17, l18, l19] (.null :: st) σ Q := rn_step rfl (fun _ _ => rfl)
set_option maxRecDepth 20000 in
theorem sL_law_1109 {d : Nat} {Q : mb_O → mb_S → Prop} {σ : mb_S} {st : List Value} {l0 l1 l2 l3 l4 l5 l6 l7 l8 l9 l10 l11 l12 l13 l14 l16 l17 l18 l19 : Option Value} {x : Int32} : mb_Rn d 90 1109 [l0, l1, l2, l3, l4, l5, l6, l7, l8, l9, l10, l11, l12, l13, l14, some (.int x), l16, l17, l18, l19] st σ Q = mb_Rn d 90 1111 [l0, l1, l2, l3, l4, l5, l6, l7, l8, l9, l10, l11, l12, l13, l14, some (.int x), l16, l17, l18, l19] (.int x :: st) σ Q := rn_step rfl (fun _ _ => rfl)
set_option maxRecDepth 20000 in
theorem sL_law_1111 {d : Nat} {Q : mb_O → mb_S → Prop} {σ : mb_S} {st : List Value} {ls : mb_L} {p0 : Int32} {b : Nat} (hd : 1 ≤ d) (h4 : st.length ≤ 4) : mb_Rn d 90 1111 ls (.int p0 :: .ref b :: st) σ Q = mb_gf σ b 7 False (fun _ => mb_Ex (d - 1) 58 [.ref b, .int p0] σ (mb_qx [] d 90 1114 ls st Q)) := rn_callv mb_good rfl hd rfl rfl ⟨rfl, rfl⟩ h4 ⟨Nat.le_of_ble_eq_true rfl, rfl⟩
set_option maxRecDepth 20000 in
theorem sL_law_1114 {d : Nat} {Q : mb_O → mb_S → Prop} {σ : mb_S} {st : List Value} {ls : mb_L} {x : Int32} : mb_Rn d 90 1114 ls (.int x :: st) σ Q = if x = 0 then mb_Rn d 90 1117 ls st σ Q else mb_Rn d 90 1159 ls st σ Q := rn_ifn rfl (fun _ _ => rfl) bne_iff_ne
set_option maxRecDepth 20000 in
theorem sL_law_1117 {d : Nat} {Q : mb_O → mb_S → Prop} {σ : mb_S} {st : List Value} {l0 l2 l3 l4 l5 l6 l7 l8 l9 l10 l11 l12 l13 l14 l15 l16 l17 l18 l19 : Option Value} {a : Nat} : mb_Rn d 90 1117 [l0, some (.ref a), l2, l3, l4, l5, l6, l7, l8, l9, l10, l11, l12, l13, l14, l15, l16, l17, l18, l19] st σ Q = mb_Rn d 90 1118 [l0, some (.ref a), l2, l3, l4, l5, l6, l7, l8, l9, l10, l11, l12, l13, l14, l15, l16, l17, l18, l19] (.ref a :: st) σ Q := rn_step rfl (fun _ _ => rfl)
set_option maxRecDepth 20000 in
theorem sL_law_1117n {d : Nat} {Q : mb_O → mb_S → Prop} {σ : mb_S} {st : List Value} {l0 l2 l3 l4 l5 l6 l7 l8 l9 l10 l11 l12 l13 l14 l15 l16 l17 l18 l19 : Option Value} : mb_Rn d 90 1117 [l0, some (.null), l2, l3, l4, l5, l6, l7, l8, l9, l10, l11, l12, l13, l14, l15, l16, l17, l18, l19] st σ Q = mb_Rn d 90 1118 [l0, some (.null), l2, l3, l4, l5, l6, l7, l8, l9, l10, l11, l12, l13, l14, l15, l16, l17, l18, l19] (.null :: st) σ Q := rn_step rfl (fun _ _ => rfl)
set_option maxRecDepth 20000 in
theorem sL_law_1118 {d : Nat} {Q : mb_O → mb_S → Prop} {σ : mb_S} {st : List Value} {l0 l1 l2 l3 l4 l5 l6 l7 l8 l9 l10 l11 l12 l13 l14 l16 l17 l18 l19 : Option Value} {x : Int32} : mb_Rn d 90 1118 [l0, l1, l2, l3, l4, l5, l6, l7, l8, l9, l10, l11, l12, l13, l14, some (.int x), l16, l17, l18, l19] st σ Q = mb_Rn d 90 1120 [l0, l1, l2, l3, l4, l5, l6, l7, l8, l9, l10, l11, l12, l13, l14, some (.int x), l16, l17, l18, l19] (.int x :: st) σ Q := rn_step rfl (fun _ _ => rfl)
set_option maxRecDepth 20000 in
theorem sL_law_1120 {d : Nat} {Q : mb_O → mb_S → Prop} {σ : mb_S} {st : List Value} {ls : mb_L} {p0 : Int32} {b : Nat} (hd : 1 ≤ d) (h4 : st.length ≤ 4) : mb_Rn d 90 1120 ls (.int p0 :: .ref b :: st) σ Q = mb_gf σ b 7 False (fun _ => mb_Ex (d - 1) 55 [.ref b, .int p0] σ (mb_qx [] d 90 1123 ls st Q)) := rn_callv mb_good rfl hd rfl rfl ⟨rfl, rfl⟩ h4 ⟨Nat.le_of_ble_eq_true rfl, rfl⟩
set_option maxRecDepth 20000 in
theorem sL_law_1123 {d : Nat} {Q : mb_O → mb_S → Prop} {σ : mb_S} {st : List Value} {ls : mb_L} {x : Int32} : mb_Rn d 90 1123 ls (.int x :: st) σ Q = if x = 0 then mb_Rn d 90 1126 ls st σ Q else mb_Rn d 90 1159 ls st σ Q := rn_ifn rfl (fun _ _ => rfl) bne_iff_ne
set_option maxRecDepth 20000 in
theorem sL_law_1126 {d : Nat} {Q : mb_O → mb_S → Prop} {σ : mb_S} {st : List Value} {l0 l2 l3 l4 l5 l6 l7 l8 l9 l10 l11 l12 l13 l14 l15 l16 l17 l18 l19 : Option Value} {a : Nat} : mb_Rn d 90 1126 [l0, some (.ref a), l2, l3, l4, l5, l6, l7, l8, l9, l10, l11, l12, l13, l14, l15, l16, l17, l18, l19] st σ Q = mb_Rn d 90 1127 [l0, some (.ref a), l2, l3, l4, l5, l6, l7, l8, l9, l10, l11, l12, l13, l14, l15, l16, l17, l18, l19] (.ref a :: st) σ Q := rn_step rfl (fun _ _ => rfl)
set_option maxRecDepth 20000 in
theorem sL_law_1126n {d : Nat} {Q : mb_O → mb_S → Prop} {σ : mb_S} {st : List Value} {l0 l2 l3 l4 l5 l6 l7 l8 l9 l10 l11 l12 l13 l14 l15 l16 l17 l18 l19 : Option Value} : mb_Rn d 90 1126 [l0, some (.null), l2, l3, l4, l5, l6, l7, l8, l9, l10, l11, l12, l13, l14, l15, l16, l17, l18, l19] st σ Q = mb_Rn d 90 1127 [l0, some (.null), l2, l3, l4, l5, l6, l7, l8, l9, l10, l11, l12, l13, l14, l15, l16, l17, l18, l19] (.null :: st) σ Q := rn_step rfl (fun _ _ => rfl)
set_option maxRecDepth 20000 in
theorem sL_law_1127 {d : Nat} {Q : mb_O → mb_S → Prop} {σ : mb_S} {st : List Value} {ls : mb_L} : mb_Rn d 90 1127 ls st σ Q = mb_Rn d 90 1128 ls (.int 5 :: st) σ Q := rn_step rfl (fun _ _ => rfl)
set_option maxRecDepth 20000 in
theorem sL_law_1128 {d : Nat} {Q : mb_O → mb_S → Prop} {σ : mb_S} {st : List Value} {ls : mb_L} {p0 : Int32} {b : Nat} (hd : 1 ≤ d) (h4 : st.length ≤ 4) : mb_Rn d 90 1128 ls (.int p0 :: .ref b :: st) σ Q = mb_gf σ b 7 False (fun _ => mb_Ex (d - 1) 61 [.ref b, .int p0] σ (mb_qx [] d 90 1131 ls st Q)) := rn_callv mb_good rfl hd rfl rfl ⟨rfl, rfl⟩ h4 ⟨Nat.le_of_ble_eq_true rfl, rfl⟩
set_option maxRecDepth 20000 in
theorem sL_law_1131 {d : Nat} {Q : mb_O → mb_S → Prop} {σ : mb_S} {st : List Value} {l0 l1 l2 l3 l4 l5 l6 l7 l8 l9 l10 l11 l12 l13 l14 l15 l17 l18 l19 : Option Value} {x : Int32} : mb_Rn d 90 1131 [l0, l1, l2, l3, l4, l5, l6, l7, l8, l9, l10, l11, l12, l13, l14, l15, some (.int x), l17, l18, l19] st σ Q = mb_Rn d 90 1133 [l0, l1, l2, l3, l4, l5, l6, l7, l8, l9, l10, l11, l12, l13, l14, l15, some (.int x), l17, l18, l19] (.int x :: st) σ Q := rn_step rfl (fun _ _ => rfl)
set_option maxRecDepth 20000 in
theorem sL_law_1133 {d : Nat} {Q : mb_O → mb_S → Prop} {σ : mb_S} {st : List Value} {l0 l1 l2 l3 l4 l5 l6 l7 l8 l9 l10 l11 l12 l13 l14 l15 l16 l18 l19 : Option Value} {x : Int32} : mb_Rn d 90 1133 [l0, l1, l2, l3, l4, l5, l6, l7, l8, l9, l10, l11, l12, l13, l14, l15, l16, some (.int x), l18, l19] st σ Q = mb_Rn d 90 1135 [l0, l1, l2, l3, l4, l5, l6, l7, l8, l9, l10, l11, l12, l13, l14, l15, l16, some (.int x), l18, l19] (.int x :: st) σ Q := rn_step rfl (fun _ _ => rfl)
set_option maxRecDepth 20000 in
theorem sL_law_1135 {d : Nat} {Q : mb_O → mb_S → Prop} {σ : mb_S} {st : List Value} {ls : mb_L} {x z : Int32} : mb_Rn d 90 1135 ls (.int z :: .int x :: st) σ Q = mb_Rn d 90 1136 ls (.int (x + z) :: st) σ Q := rn_step rfl (fun _ _ => rfl)
set_option maxRecDepth 20000 in
theorem sL_law_1136 {d : Nat} {Q : mb_O → mb_S → Prop} {σ : mb_S} {st : List Value} {ls : mb_L} {x z : Int32} : mb_Rn d 90 1136 ls (.int z :: .int x :: st) σ Q = if x = z then mb_Rn d 90 1139 ls st σ Q else mb_Rn d 90 1159 ls st σ Q := rn_ifn rfl (fun _ _ => rfl) bne_iff_ne
set_option maxRecDepth 20000 in
theorem sL_law_1139 {d : Nat} {Q : mb_O → mb_S → Prop} {σ : mb_S} {st : List Value} {l0 l2 l3 l4 l5 l6 l7 l8 l9 l10 l11 l12 l13 l14 l15 l16 l17 l18 l19 : Option Value} {a : Nat} : mb_Rn d 90 1139 [l0, some (.ref a), l2, l3, l4, l5, l6, l7, l8, l9, l10, l11, l12, l13, l14, l15, l16, l17, l18, l19] st σ Q = mb_Rn d 90 1140 [l0, some (.ref a), l2, l3, l4, l5, l6, l7, l8, l9, l10, l11, l12, l13, l14, l15, l16, l17, l18, l19] (.ref a :: st) σ Q := rn_step rfl (fun _ _ => rfl)
set_option maxRecDepth 20000 in
theorem sL_law_1139n {d : Nat} {Q : mb_O → mb_S → Prop} {σ : mb_S} {st : List Value} {l0 l2 l3 l4 l5 l6 l7 l8 l9 l10 l11 l12 l13 l14 l15 l16 l17 l18 l19 : Option Value} : mb_Rn d 90 1139 [l0, some (.null), l2, l3, l4, l5, l6, l7, l8, l9, l10, l11, l12, l13, l14, l15, l16, l17, l18, l19] st σ Q = mb_Rn d 90 1140 [l0, some (.null), l2, l3, l4, l5, l6, l7, l8, l9, l10, l11, l12, l13, l14, l15, l16, l17, l18, l19] (.null :: st) σ Q := rn_step rfl (fun _ _ => rfl)
set_option maxRecDepth 20000 in
theorem sL_law_1140 {d : Nat} {Q : mb_O → mb_S → Prop} {σ : mb_S} {st : List Value} {l0 l1 l2 l3 l4 l5 l6 l7 l8 l9 l10 l11 l12 l13 l14 l16 l17 l18 l19 : Option Value} {x : Int32} : mb_Rn d 90 1140 [l0, l1, l2, l3, l4, l5, l6, l7, l8, l9, l10, l11, l12, l13, l14, some (.int x), l16, l17, l18, l19] st σ Q = mb_Rn d 90 1142 [l0, l1, l2, l3, l4, l5, l6, l7, l8, l9, l10, l11, l12, l13, l14, some (.int x), l16, l17, l18, l19] (.int x :: st) σ Q := rn_step rfl (fun _ _ => rfl)
set_option maxRecDepth 20000 in
theorem sL_law_1142 {d : Nat} {Q : mb_O → mb_S → Prop} {σ : mb_S} {st : List Value} {l0 l1 l2 l3 l5 l6 l7 l8 l9 l10 l11 l12 l13 l14 l15 l16 l17 l18 l19 : Option Value} {a : Nat} : mb_Rn d 90 1142 [l0, l1, l2, l3, some (.ref a), l5, l6, l7, l8, l9, l10, l11, l12, l13, l14, l15, l16, l17, l18, l19] st σ Q = mb_Rn d 90 1144 [l0, l1, l2, l3, some (.ref a), l5, l6, l7, l8, l9, l10, l11, l12, l13, l14, l15, l16, l17, l18, l19] (.ref a :: st) σ Q := rn_step rfl (fun _ _ => rfl)
set_option maxRecDepth 20000 in
theorem sL_law_1142n {d : Nat} {Q : mb_O → mb_S → Prop} {σ : mb_S} {st : List Value} {l0 l1 l2 l3 l5 l6 l7 l8 l9 l10 l11 l12 l13 l14 l15 l16 l17 l18 l19 : Option Value} : mb_Rn d 90 1142 [l0, l1, l2, l3, some (.null), l5, l6, l7, l8, l9, l10, l11, l12, l13, l14, l15, l16, l17, l18, l19] st σ Q = mb_Rn d 90 1144 [l0, l1, l2, l3, some (.null), l5, l6, l7, l8, l9, l10, l11, l12, l13, l14, l15, l16, l17, l18, l19] (.null :: st) σ Q := rn_step rfl (fun _ _ => rfl)
set_option maxRecDepth 20000 in
theorem sL_law_1144 {d : Nat} {Q : mb_O → mb_S → Prop} {σ : mb_S} {st : List Value} {l0 l1 l2 l3 l4 l5 l6 l7 l8 l9 l10 l11 l12 l13 l14 l16 l17 l18 l19 : Option Value} {x : Int32} : mb_Rn d 90 1144 [l0, l1, l2, l3, l4, l5, l6, l7, l8, l9, l10, l11, l12, l13, l14, some (.int x), l16, l17, l18, l19] st σ Q = mb_Rn d 90 1146 [l0, l1, l2, l3, l4, l5, l6, l7, l8, l9, l10, l11, l12, l13, l14, some (.int x), l16, l17, l18, l19] (.int x :: st) σ Q := rn_step rfl (fun _ _ => rfl)
set_option maxRecDepth 20000 in
theorem sL_law_1146 {d : Nat} {Q : mb_O → mb_S → Prop} {σ : mb_S} {st : List Value} {ls : mb_L} {a : Nat} {j : Int32} : mb_Rn d 90 1146 ls (.int j :: .ref a :: st) σ Q = mb_gi σ a j False (fun kd _ f => if kd = 0 ∨ kd = 9 then mb_Rn d 90 1147 ls (.int (f j.toNatClampNeg) :: st) σ Q else False) := rn_iald rfl
set_option maxRecDepth 20000 in
theorem sL_law_1147 {d : Nat} {Q : mb_O → mb_S → Prop} {σ : mb_S} {st : List Value} {l0 l1 l2 l3 l4 l5 l6 l8 l9 l10 l11 l12 l13 l14 l15 l16 l17 l18 l19 : Option Value} {x : Int32} : mb_Rn d 90 1147 [l0, l1, l2, l3, l4, l5, l6, some (.int x), l8, l9, l10, l11, l12, l13, l14, l15, l16, l17, l18, l19] st σ Q = mb_Rn d 90 1149 [l0, l1, l2, l3, l4, l5, l6, some (.int x), l8, l9, l10, l11, l12, l13, l14, l15, l16, l17, l18, l19] (.int x :: st) σ Q := rn_step rfl (fun _ _ => rfl)
set_option maxRecDepth 20000 in
theorem sL_law_1149 {d : Nat} {Q : mb_O → mb_S → Prop} {σ : mb_S} {st : List Value} {ls : mb_L} {p0 : Nat} {p1 : Int32} {p2 : Int32} {p3 : Int32} (hd : 1 ≤ d) (h4 : st.length ≤ 4) : mb_Rn d 90 1149 ls (.int p3 :: .int p2 :: .int p1 :: .ref p0 :: st) σ Q = mb_Ex (d - 1) 89 [.ref p0, .int p1, .int p2, .int p3] σ (mb_qk d 90 1152 ls st Q) := rn_calls mb_good rfl hd rfl rfl ⟨rfl, rfl⟩ h4 ⟨Nat.le_of_ble_eq_true rfl, rfl⟩
set_option maxRecDepth 20000 in
theorem sL_law_1152 {d : Nat} {Q : mb_O → mb_S → Prop} {σ : mb_S} {st : List Value} {ls : mb_L} {x : Int32} : mb_Rn d 90 1152 ls (.int x :: st) σ Q = if x = 0 then mb_Rn d 90 1159 ls st σ Q else mb_Rn d 90 1155 ls st σ Q := rn_ifb rfl (fun _ _ => rfl) beq_iff_eq
set_option maxRecDepth 20000 in
theorem sL_law_1155 {d : Nat} {Q : mb_O → mb_S → Prop} {σ : mb_S} {st : List Value} {ls : mb_L} : mb_Rn d 90 1155 ls st σ Q = mb_Rn d 90 1156 ls (.int 1 :: st) σ Q := rn_step rfl (fun _ _ => rfl)
set_option maxRecDepth 20000 in
theorem sL_law_1156 {d : Nat} {Q : mb_O → mb_S → Prop} {σ : mb_S} {st : List Value} {ls : mb_L} : mb_Rn d 90 1156 ls st σ Q = mb_Rn d 90 1160 ls st σ Q := rn_step rfl (fun _ _ => rfl)
set_option maxRecDepth 20000 in
theorem sL_law_1159 {d : Nat} {Q : mb_O → mb_S → Prop} {σ : mb_S} {st : List Value} {ls : mb_L} : mb_Rn d 90 1159 ls st σ Q = mb_Rn d 90 1160 ls (.int 0 :: st) σ Q := rn_step rfl (fun _ _ => rfl)
set_option maxRecDepth 20000 in
theorem sL_law_1160 {d : Nat} {Q : mb_O → mb_S → Prop} {σ : mb_S} {st : List Value} {l0 l1 l2 l3 l4 l5 l6 l7 l8 l9 l10 l11 l12 l13 l14 l15 l16 l17 l18 l19 : Option Value} {x : Int32} : mb_Rn d 90 1160 [l0, l1, l2, l3, l4, l5, l6, l7, l8, l9, l10, l11, l12, l13, l14, l15, l16, l17, l18, l19] (.int x :: st) σ Q = mb_Rn d 90 1162 [l0, l1, l2, l3, l4, l5, l6, l7, l8, some (.int x), l10, l11, l12, l13, l14, l15, l16, l17, l18, l19] st σ Q := rn_step rfl (fun _ _ => rfl)
set_option maxRecDepth 20000 in
theorem sL_law_1162 {d : Nat} {Q : mb_O → mb_S → Prop} {σ : mb_S} {st : List Value} {l0 l1 l2 l3 l4 l6 l7 l8 l9 l10 l11 l12 l13 l14 l15 l16 l17 l18 l19 : Option Value} {a : Nat} : mb_Rn d 90 1162 [l0, l1, l2, l3, l4, some (.ref a), l6, l7, l8, l9, l10, l11, l12, l13, l14, l15, l16, l17, l18, l19] st σ Q = mb_Rn d 90 1164 [l0, l1, l2, l3, l4, some (.ref a), l6, l7, l8, l9, l10, l11, l12, l13, l14, l15, l16, l17, l18, l19] (.ref a :: st) σ Q := rn_step rfl (fun _ _ => rfl)
set_option maxRecDepth 20000 in
theorem sL_law_1162n {d : Nat} {Q : mb_O → mb_S → Prop} {σ : mb_S} {st : List Value} {l0 l1 l2 l3 l4 l6 l7 l8 l9 l10 l11 l12 l13 l14 l15 l16 l17 l18 l19 : Option Value} : mb_Rn d 90 1162 [l0, l1, l2, l3, l4, some (.null), l6, l7, l8, l9, l10, l11, l12, l13, l14, l15, l16, l17, l18, l19] st σ Q = mb_Rn d 90 1164 [l0, l1, l2, l3, l4, some (.null), l6, l7, l8, l9, l10, l11, l12, l13, l14, l15, l16, l17, l18, l19] (.null :: st) σ Q := rn_step rfl (fun _ _ => rfl)
set_option maxRecDepth 20000 in
theorem sL_law_1164 {d : Nat} {Q : mb_O → mb_S → Prop} {σ : mb_S} {st : List Value} {l0 l1 l2 l3 l4 l5 l6 l7 l8 l9 l10 l11 l12 l13 l15 l16 l17 l18 l19 : Option Value} {x : Int32} : mb_Rn d 90 1164 [l0, l1, l2, l3, l4, l5, l6, l7, l8, l9, l10, l11, l12, l13, some (.int x), l15, l16, l17, l18, l19] st σ Q = mb_Rn d 90 1166 [l0, l1, l2, l3, l4, l5, l6, l7, l8, l9, l10, l11, l12, l13, some (.int x), l15, l16, l17, l18, l19] (.int x :: st) σ Q := rn_step rfl (fun _ _ => rfl)
set_option maxRecDepth 20000 in
theorem sL_law_1166 {d : Nat} {Q : mb_O → mb_S → Prop} {σ : mb_S} {st : List Value} {ls : mb_L} {a : Nat} {j : Int32} : mb_Rn d 90 1166 ls (.int j :: .ref a :: st) σ Q = mb_gi σ a j False (fun kd _ f => if kd = 0 ∨ kd = 9 then mb_Rn d 90 1167 ls (.int (f j.toNatClampNeg) :: st) σ Q else False) := rn_iald rfl
set_option maxRecDepth 20000 in
theorem sL_law_1167 {d : Nat} {Q : mb_O → mb_S → Prop} {σ : mb_S} {st : List Value} {ls : mb_L} {x : Int32} : mb_Rn d 90 1167 ls (.int x :: st) σ Q = if x = 0 then mb_Rn d 90 1170 ls st σ Q else mb_Rn d 90 1174 ls st σ Q := rn_ifn rfl (fun _ _ => rfl) bne_iff_ne
set_option maxRecDepth 20000 in
theorem sL_law_1170 {d : Nat} {Q : mb_O → mb_S → Prop} {σ : mb_S} {st : List Value} {ls : mb_L} : mb_Rn d 90 1170 ls st σ Q = mb_Rn d 90 1171 ls (.int (-1) :: st) σ Q := rn_step rfl (fun _ _ => rfl)
set_option maxRecDepth 20000 in
theorem sL_law_1171 {d : Nat} {Q : mb_O → mb_S → Prop} {σ : mb_S} {st : List Value} {ls : mb_L} : mb_Rn d 90 1171 ls st σ Q = mb_Rn d 90 1184 ls st σ Q := rn_step rfl (fun _ _ => rfl)
set_option maxRecDepth 20000 in
theorem sL_law_1174 {d : Nat} {Q : mb_O → mb_S → Prop} {σ : mb_S} {st : List Value} {l0 l1 l2 l3 l4 l5 l6 l7 l8 l9 l10 l11 l13 l14 l15 l16 l17 l18 l19 : Option Value} {x : Int32} : mb_Rn d 90 1174 [l0, l1, l2, l3, l4, l5, l6, l7, l8, l9, l10, l11, some (.int x), l13, l14, l15, l16, l17, l18, l19] st σ Q = mb_Rn d 90 1176 [l0, l1, l2, l3, l4, l5, l6, l7, l8, l9, l10, l11, some (.int x), l13, l14, l15, l16, l17, l18, l19] (.int x :: st) σ Q := rn_step rfl (fun _ _ => rfl)
set_option maxRecDepth 20000 in
theorem sL_law_1176 {d : Nat} {Q : mb_O → mb_S → Prop} {σ : mb_S} {st : List Value} {ls : mb_L} : mb_Rn d 90 1176 ls st σ Q = mb_Rn d 90 1177 ls (.int 3 :: st) σ Q := rn_step rfl (fun _ _ => rfl)
set_option maxRecDepth 20000 in
theorem sL_law_1177 {d : Nat} {Q : mb_O → mb_S → Prop} {σ : mb_S} {st : List Value} {ls : mb_L} {x z : Int32} : mb_Rn d 90 1177 ls (.int z :: .int x :: st) σ Q = mb_Rn d 90 1178 ls (.int (x >>> (z &&& 31)) :: st) σ Q := rn_step rfl (fun _ _ => rfl)
set_option maxRecDepth 20000 in
theorem sL_law_1178 {d : Nat} {Q : mb_O → mb_S → Prop} {σ : mb_S} {st : List Value} {l0 l1 l2 l3 l4 l6 l7 l8 l9 l10 l11 l12 l13 l14 l15 l16 l17 l18 l19 : Option Value} {a : Nat} : mb_Rn d 90 1178 [l0, l1, l2, l3, l4, some (.ref a), l6, l7, l8, l9, l10, l11, l12, l13, l14, l15, l16, l17, l18, l19] st σ Q = mb_Rn d 90 1180 [l0, l1, l2, l3, l4, some (.ref a), l6, l7, l8, l9, l10, l11, l12, l13, l14, l15, l16, l17, l18, l19] (.ref a :: st) σ Q := rn_step rfl (fun _ _ => rfl)
set_option maxRecDepth 20000 in
theorem sL_law_1178n {d : Nat} {Q : mb_O → mb_S → Prop} {σ : mb_S} {st : List Value} {l0 l1 l2 l3 l4 l6 l7 l8 l9 l10 l11 l12 l13 l14 l15 l16 l17 l18 l19 : Option Value} : mb_Rn d 90 1178 [l0, l1, l2, l3, l4, some (.null), l6, l7, l8, l9, l10, l11, l12, l13, l14, l15, l16, l17, l18, l19] st σ Q = mb_Rn d 90 1180 [l0, l1, l2, l3, l4, some (.null), l6, l7, l8, l9, l10, l11, l12, l13, l14, l15, l16, l17, l18, l19] (.null :: st) σ Q := rn_step rfl (fun _ _ => rfl)
set_option maxRecDepth 20000 in
theorem sL_law_1180 {d : Nat} {Q : mb_O → mb_S → Prop} {σ : mb_S} {st : List Value} {l0 l1 l2 l3 l4 l5 l6 l7 l8 l9 l10 l11 l12 l13 l15 l16 l17 l18 l19 : Option Value} {x : Int32} : mb_Rn d 90 1180 [l0, l1, l2, l3, l4, l5, l6, l7, l8, l9, l10, l11, l12, l13, some (.int x), l15, l16, l17, l18, l19] st σ Q = mb_Rn d 90 1182 [l0, l1, l2, l3, l4, l5, l6, l7, l8, l9, l10, l11, l12, l13, some (.int x), l15, l16, l17, l18, l19] (.int x :: st) σ Q := rn_step rfl (fun _ _ => rfl)
set_option maxRecDepth 20000 in
theorem sL_law_1182 {d : Nat} {Q : mb_O → mb_S → Prop} {σ : mb_S} {st : List Value} {ls : mb_L} {a : Nat} {j : Int32} : mb_Rn d 90 1182 ls (.int j :: .ref a :: st) σ Q = mb_gi σ a j False (fun kd _ f => if kd = 0 ∨ kd = 9 then mb_Rn d 90 1183 ls (.int (f j.toNatClampNeg) :: st) σ Q else False) := rn_iald rfl
set_option maxRecDepth 20000 in
theorem sL_law_1183 {d : Nat} {Q : mb_O → mb_S → Prop} {σ : mb_S} {st : List Value} {ls : mb_L} {x z : Int32} : mb_Rn d 90 1183 ls (.int z :: .int x :: st) σ Q = if z = 0 then False else mb_Rn d 90 1184 ls (.int (x % z) :: st) σ Q := rn_ite (f := fun _ => none) rfl (fun _ _ => rfl) ok_none rfl
set_option maxRecDepth 20000 in
theorem sL_law_1184 {d : Nat} {Q : mb_O → mb_S → Prop} {σ : mb_S} {st : List Value} {l0 l1 l2 l3 l4 l5 l6 l7 l8 l9 l10 l11 l12 l13 l14 l15 l16 l17 l18 l19 : Option Value} {x : Int32} : mb_Rn d 90 1184 [l0, l1, l2, l3, l4, l5, l6, l7, l8, l9, l10, l11, l12, l13, l14, l15, l16, l17, l18, l19] (.int x :: st) σ Q = mb_Rn d 90 1186 [l0, l1, l2, l3, l4, l5, l6, l7, l8, l9, l10, l11, l12, l13, l14, l15, some (.int x), l17, l18, l19] st σ Q := rn_step rfl (fun _ _ => rfl)
set_option maxRecDepth 20000 in
theorem sL_law_1186 {d : Nat} {Q : mb_O → mb_S → Prop} {σ : mb_S} {st : List Value} {l0 l1 l2 l3 l4 l5 l6 l7 l8 l10 l11 l12 l13 l14 l15 l16 l17 l18 l19 : Option Value} {x : Int32} : mb_Rn d 90 1186 [l0, l1, l2, l3, l4, l5, l6, l7, l8, some (.int x), l10, l11, l12, l13, l14, l15, l16, l17, l18, l19] st σ Q = mb_Rn d 90 1188 [l0, l1, l2, l3, l4, l5, l6, l7, l8, some (.int x), l10, l11, l12, l13, l14, l15, l16, l17, l18, l19] (.int x :: st) σ Q := rn_step rfl (fun _ _ => rfl)
set_option maxRecDepth 20000 in
theorem sL_law_1188 {d : Nat} {Q : mb_O → mb_S → Prop} {σ : mb_S} {st : List Value} {ls : mb_L} {x : Int32} : mb_Rn d 90 1188 ls (.int x :: st) σ Q = if x = 0 then mb_Rn d 90 1265 ls st σ Q else mb_Rn d 90 1191 ls st σ Q := rn_ifb rfl (fun _ _ => rfl) beq_iff_eq
set_option maxRecDepth 20000 in
theorem sL_law_1191 {d : Nat} {Q : mb_O → mb_S → Prop} {σ : mb_S} {st : List Value} {l0 l1 l2 l3 l4 l5 l6 l7 l8 l9 l10 l11 l12 l13 l14 l15 l17 l18 l19 : Option Value} {x : Int32} : mb_Rn d 90 1191 [l0, l1, l2, l3, l4, l5, l6, l7, l8, l9, l10, l11, l12, l13, l14, l15, some (.int x), l17, l18, l19] st σ Q = mb_Rn d 90 1193 [l0, l1, l2, l3, l4, l5, l6, l7, l8, l9, l10, l11, l12, l13, l14, l15, some (.int x), l17, l18, l19] (.int x :: st) σ Q := rn_step rfl (fun _ _ => rfl)
set_option maxRecDepth 20000 in
theorem sL_law_1193 {d : Nat} {Q : mb_O → mb_S → Prop} {σ : mb_S} {st : List Value} {ls : mb_L} {x : Int32} : mb_Rn d 90 1193 ls (.int x :: st) σ Q = if x < 0 then mb_Rn d 90 1227 ls st σ Q else mb_Rn d 90 1196 ls st σ Q := rn_ifb rfl (fun _ _ => rfl) decide_eq_true_iff
set_option maxRecDepth 20000 in
theorem sL_law_1196 {d : Nat} {Q : mb_O → mb_S → Prop} {σ : mb_S} {st : List Value} {l0 l2 l3 l4 l5 l6 l7 l8 l9 l10 l11 l12 l13 l14 l15 l16 l17 l18 l19 : Option Value} {a : Nat} : mb_Rn d 90 1196 [l0, some (.ref a), l2, l3, l4, l5, l6, l7, l8, l9, l10, l11, l12, l13, l14, l15, l16, l17, l18, l19] st σ Q = mb_Rn d 90 1197 [l0, some (.ref a), l2, l3, l4, l5, l6, l7, l8, l9, l10, l11, l12, l13, l14, l15, l16, l17, l18, l19] (.ref a :: st) σ Q := rn_step rfl (fun _ _ => rfl)
set_option maxRecDepth 20000 in
theorem sL_law_1196n {d : Nat} {Q : mb_O → mb_S → Prop} {σ : mb_S} {st : List Value} {l0 l2 l3 l4 l5 l6 l7 l8 l9 l10 l11 l12 l13 l14 l15 l16 l17 l18 l19 : Option Value} : mb_Rn d 90 1196 [l0, some (.null), l2, l3, l4, l5, l6, l7, l8, l9, l10, l11, l12, l13, l14, l15, l16, l17, l18, l19] st σ Q = mb_Rn d 90 1197 [l0, some (.null), l2, l3, l4, l5, l6, l7, l8, l9, l10, l11, l12, l13, l14, l15, l16, l17, l18, l19] (.null :: st) σ Q := rn_step rfl (fun _ _ => rfl)
set_option maxRecDepth 20000 in
theorem sL_law_1197 {d : Nat} {Q : mb_O → mb_S → Prop} {σ : mb_S} {st : List Value} {l0 l1 l2 l3 l4 l5 l6 l7 l8 l9 l10 l11 l12 l13 l15 l16 l17 l18 l19 : Option Value} {x : Int32} : mb_Rn d 90 1197 [l0, l1, l2, l3, l4, l5, l6, l7, l8, l9, l10, l11, l12, l13, some (.int x), l15, l16, l17, l18, l19] st σ Q = mb_Rn d 90 1199 [l0, l1, l2, l3, l4, l5, l6, l7, l8, l9, l10, l11, l12, l13, some (.int x), l15, l16, l17, l18, l19] (.int x :: st) σ Q := rn_step rfl (fun _ _ => rfl)
set_option maxRecDepth 20000 in
theorem sL_law_1199 {d : Nat} {Q : mb_O → mb_S → Prop} {σ : mb_S} {st : List Value} {l0 l1 l2 l3 l4 l5 l6 l7 l8 l9 l10 l11 l12 l13 l14 l15 l17 l18 l19 : Option Value} {x : Int32} : mb_Rn d 90 1199 [l0, l1, l2, l3, l4, l5, l6, l7, l8, l9, l10, l11, l12, l13, l14, l15, some (.int x), l17, l18, l19] st σ Q = mb_Rn d 90 1201 [l0, l1, l2, l3, l4, l5, l6, l7, l8, l9, l10, l11, l12, l13, l14, l15, some (.int x), l17, l18, l19] (.int x :: st) σ Q := rn_step rfl (fun _ _ => rfl)
set_option maxRecDepth 20000 in
theorem sL_law_1201 {d : Nat} {Q : mb_O → mb_S → Prop} {σ : mb_S} {st : List Value} {l0 l1 l2 l4 l5 l6 l7 l8 l9 l10 l11 l12 l13 l14 l15 l16 l17 l18 l19 : Option Value} {a : Nat} : mb_Rn d 90 1201 [l0, l1, l2, some (.ref a), l4, l5, l6, l7, l8, l9, l10, l11, l12, l13, l14, l15, l16, l17, l18, l19] st σ Q = mb_Rn d 90 1202 [l0, l1, l2, some (.ref a), l4, l5, l6, l7, l8, l9, l10, l11, l12, l13, l14, l15, l16, l17, l18, l19] (.ref a :: st) σ Q := rn_step rfl (fun _ _ => rfl)
set_option maxRecDepth 20000 in
theorem sL_law_1201n {d : Nat} {Q : mb_O → mb_S → Prop} {σ : mb_S} {st : List Value} {l0 l1 l2 l4 l5 l6 l7 l8 l9 l10 l11 l12 l13 l14 l15 l16 l17 l18 l19 : Option Value} : mb_Rn d 90 1201 [l0, l1, l2, some (.null), l4, l5, l6, l7, l8, l9, l10, l11, l12, l13, l14, l15, l16, l17, l18, l19] st σ Q = mb_Rn d 90 1202 [l0, l1, l2, some (.null), l4, l5, l6, l7, l8, l9, l10, l11, l12, l13, l14, l15, l16, l17, l18, l19] (.null :: st) σ Q := rn_step rfl (fun _ _ => rfl)
set_option maxRecDepth 20000 in
theorem sL_law_1202 {d : Nat} {Q : mb_O → mb_S → Prop} {σ : mb_S} {st : List Value} {ls : mb_L} : mb_Rn d 90 1202 ls st σ Q = mb_Rn d 90 1204 ls (.int 12 :: st) σ Q := rn_step rfl (fun _ _ => rfl)
set_option maxRecDepth 20000 in
theorem sL_law_1204 {d : Nat} {Q : mb_O → mb_S → Prop} {σ : mb_S} {st : List Value} {l0 l1 l2 l3 l4 l5 l6 l7 l8 l9 l10 l11 l12 l13 l15 l16 l17 l18 l19 : Option Value} {x : Int32} : mb_Rn d 90 1204 [l0, l1, l2, l3, l4, l5, l6, l7, l8, l9, l10, l11, l12, l13, some (.int x), l15, l16, l17, l18, l19] st σ Q = mb_Rn d 90 1206 [l0, l1, l2, l3, l4, l5, l6, l7, l8, l9, l10, l11, l12, l13, some (.int x), l15, l16, l17, l18, l19] (.int x :: st) σ Q := rn_step rfl (fun _ _ => rfl)
set_option maxRecDepth 20000 in
theorem sL_law_1206 {d : Nat} {Q : mb_O → mb_S → Prop} {σ : mb_S} {st : List Value} {ls : mb_L} {x z : Int32} : mb_Rn d 90 1206 ls (.int z :: .int x :: st) σ Q = mb_Rn d 90 1207 ls (.int (x * z) :: st) σ Q := rn_step rfl (fun _ _ => rfl)
set_option maxRecDepth 20000 in
theorem sL_law_1207 {d : Nat} {Q : mb_O → mb_S → Prop} {σ : mb_S} {st : List Value} {l0 l1 l2 l3 l4 l5 l6 l7 l8 l9 l10 l11 l12 l13 l14 l15 l17 l18 l19 : Option Value} {x : Int32} : mb_Rn d 90 1207 [l0, l1, l2, l3, l4, l5, l6, l7, l8, l9, l10, l11, l12, l13, l14, l15, some (.int x), l17, l18, l19] st σ Q = mb_Rn d 90 1209 [l0, l1, l2, l3, l4, l5, l6, l7, l8, l9, l10, l11, l12, l13, l14, l15, some (.int x), l17, l18, l19] (.int x :: st) σ Q := rn_step rfl (fun _ _ => rfl)
set_option maxRecDepth 20000 in
theorem sL_law_1209 {d : Nat} {Q : mb_O → mb_S → Prop} {σ : mb_S} {st : List Value} {ls : mb_L} {x z : Int32} : mb_Rn d 90 1209 ls (.int z :: .int x :: st) σ Q = mb_Rn d 90 1210 ls (.int (x + z) :: st) σ Q := rn_step rfl (fun _ _ => rfl)
set_option maxRecDepth 20000 in
theorem sL_law_1210 {d : Nat} {Q : mb_O → mb_S → Prop} {σ : mb_S} {st : List Value} {ls : mb_L} {a : Nat} {j : Int32} : mb_Rn d 90 1210 ls (.int j :: .ref a :: st) σ Q = mb_gi σ a j False (fun kd _ f => if kd = 0 ∨ kd = 9 then mb_Rn d 90 1211 ls (.int (f j.toNatClampNeg) :: st) σ Q else False) := rn_iald rfl
set_option maxRecDepth 20000 in
theorem sL_law_1211 {d : Nat} {Q : mb_O → mb_S → Prop} {σ : mb_S} {st : List Value} {ls : mb_L} {p0 : Nat} {p1 : Int32} {p2 : Int32} {p3 : Int32} (hd : 1 ≤ d) (h4 : st.length ≤ 4) : mb_Rn d 90 1211 ls (.int p3 :: .int p2 :: .int p1 :: .ref p0 :: st) σ Q = mb_Ex (d - 1) 88 [.ref p0, .int p1, .int p2, .int p3] σ (mb_qk d 90 1214 ls st Q) := rn_calls mb_good rfl hd rfl rfl ⟨rfl, rfl⟩ h4 ⟨Nat.le_of_ble_eq_true rfl, rfl⟩
set_option maxRecDepth 20000 in
theorem sL_law_1214 {d : Nat} {Q : mb_O → mb_S → Prop} {σ : mb_S} {st : List Value} {l0 l1 l3 l4 l5 l6 l7 l8 l9 l10 l11 l12 l13 l14 l15 l16 l17 l18 l19 : Option Value} {a : Nat} : mb_Rn d 90 1214 [l0, l1, some (.ref a), l3, l4, l5, l6, l7, l8, l9, l10, l11, l12, l13, l14, l15, l16, l17, l18, l19] st σ Q = mb_Rn d 90 1215 [l0, l1, some (.ref a), l3, l4, l5, l6, l7, l8, l9, l10, l11, l12, l13, l14, l15, l16, l17, l18, l19] (.ref a :: st) σ Q := rn_step rfl (fun _ _ => rfl)
set_option maxRecDepth 20000 in
theorem sL_law_1214n {d : Nat} {Q : mb_O → mb_S → Prop} {σ : mb_S} {st : List Value} {l0 l1 l3 l4 l5 l6 l7 l8 l9 l10 l11 l12 l13 l14 l15 l16 l17 l18 l19 : Option Value} : mb_Rn d 90 1214 [l0, l1, some (.null), l3, l4, l5, l6, l7, l8, l9, l10, l11, l12, l13, l14, l15, l16, l17, l18, l19] st σ Q = mb_Rn d 90 1215 [l0, l1, some (.null), l3, l4, l5, l6, l7, l8, l9, l10, l11, l12, l13, l14, l15, l16, l17, l18, l19] (.null :: st) σ Q := rn_step rfl (fun _ _ => rfl)
set_option maxRecDepth 20000 in
theorem sL_law_1215 {d : Nat} {Q : mb_O → mb_S → Prop} {σ : mb_S} {st : List Value} {ls : mb_L} : mb_Rn d 90 1215 ls st σ Q = mb_Rn d 90 1217 ls (.int 12 :: st) σ Q := rn_step rfl (fun _ _ => rfl)
set_option maxRecDepth 20000 in
theorem sL_law_1217 {d : Nat} {Q : mb_O → mb_S → Prop} {σ : mb_S} {st : List Value} {l0 l1 l2 l3 l4 l5 l6 l7 l8 l9 l10 l11 l12 l13 l15 l16 l17 l18 l19 : Option Value} {x : Int32} : mb_Rn d 90 1217 [l0, l1, l2, l3, l4, l5, l6, l7, l8, l9, l10, l11, l12, l13, some (.int x), l15, l16, l17, l18, l19] st σ Q = mb_Rn d 90 1219 [l0, l1, l2, l3, l4, l5, l6, l7, l8, l9, l10, l11, l12, l13, some (.int x), l15, l16, l17, l18, l19] (.int x :: st) σ Q := rn_step rfl (fun _ _ => rfl)
set_option maxRecDepth 20000 in
theorem sL_law_1219 {d : Nat} {Q : mb_O → mb_S → Prop} {σ : mb_S} {st : List Value} {ls : mb_L} {x z : Int32} : mb_Rn d 90 1219 ls (.int z :: .int x :: st) σ Q = mb_Rn d 90 1220 ls (.int (x * z) :: st) σ Q := rn_step rfl (fun _ _ => rfl)
set_option maxRecDepth 20000 in
theorem sL_law_1220 {d : Nat} {Q : mb_O → mb_S → Prop} {σ : mb_S} {st : List Value} {l0 l1 l2 l3 l4 l5 l6 l7 l8 l9 l10 l11 l12 l13 l14 l15 l17 l18 l19 : Option Value} {x : Int32} : mb_Rn d 90 1220 [l0, l1, l2, l3, l4, l5, l6, l7, l8, l9, l10, l11, l12, l13, l14, l15, some (.int x), l17, l18, l19] st σ Q = mb_Rn d 90 1222 [l0, l1, l2, l3, l4, l5, l6, l7, l8, l9, l10, l11, l12, l13, l14, l15, some (.int x), l17, l18, l19] (.int x :: st) σ Q := rn_step rfl (fun _ _ => rfl)
set_option maxRecDepth 20000 in
theorem sL_law_1222 {d : Nat} {Q : mb_O → mb_S → Prop} {σ : mb_S} {st : List Value} {ls : mb_L} {x z : Int32} : mb_Rn d 90 1222 ls (.int z :: .int x :: st) σ Q = mb_Rn d 90 1223 ls (.int (x + z) :: st) σ Q := rn_step rfl (fun _ _ => rfl)
set_option maxRecDepth 20000 in
theorem sL_law_1223 {d : Nat} {Q : mb_O → mb_S → Prop} {σ : mb_S} {st : List Value} {ls : mb_L} {a : Nat} {j : Int32} : mb_Rn d 90 1223 ls (.int j :: .ref a :: st) σ Q = mb_gi σ a j False (fun kd _ f => if kd = 0 ∨ kd = 9 then mb_Rn d 90 1224 ls (.int (f j.toNatClampNeg) :: st) σ Q else False) := rn_iald rfl
set_option maxRecDepth 20000 in
theorem sL_law_1224 {d : Nat} {Q : mb_O → mb_S → Prop} {σ : mb_S} {st : List Value} {ls : mb_L} {x z : Int32} : mb_Rn d 90 1224 ls (.int z :: .int x :: st) σ Q = if x = z then mb_Rn d 90 1227 ls st σ Q else mb_Rn d 90 1265 ls st σ Q := rn_ifn rfl (fun _ _ => rfl) bne_iff_ne
set_option maxRecDepth 20000 in
theorem sL_law_1227 {d : Nat} {Q : mb_O → mb_S → Prop} {σ : mb_S} {st : List Value} {l0 l2 l3 l4 l5 l6 l7 l8 l9 l10 l11 l12 l13 l14 l15 l16 l17 l18 l19 : Option Value} {a : Nat} : mb_Rn d 90 1227 [l0, some (.ref a), l2, l3, l4, l5, l6, l7, l8, l9, l10, l11, l12, l13, l14, l15, l16, l17, l18, l19] st σ Q = mb_Rn d 90 1228 [l0, some (.ref a), l2, l3, l4, l5, l6, l7, l8, l9, l10, l11, l12, l13, l14, l15, l16, l17, l18, l19] (.ref a :: st) σ Q := rn_step rfl (fun _ _ => rfl)
set_option maxRecDepth 20000 in
theorem sL_law_1227n {d : Nat} {Q : mb_O → mb_S → Prop} {σ : mb_S} {st : List Value} {l0 l2 l3 l4 l5 l6 l7 l8 l9 l10 l11 l12 l13 l14 l15 l16 l17 l18 l19 : Option Value} : mb_Rn d 90 1227 [l0, some (.null), l2, l3, l4, l5, l6, l7, l8, l9, l10, l11, l12, l13, l14, l15, l16, l17, l18, l19] st σ Q = mb_Rn d 90 1228 [l0, some (.null), l2, l3, l4, l5, l6, l7, l8, l9, l10, l11, l12, l13, l14, l15, l16, l17, l18, l19] (.null :: st) σ Q := rn_step rfl (fun _ _ => rfl)
set_option maxRecDepth 20000 in
theorem sL_law_1228 {d : Nat} {Q : mb_O → mb_S → Prop} {σ : mb_S} {st : List Value} {ls : mb_L} : mb_Rn d 90 1228 ls st σ Q = mb_Rn d 90 1229 ls (.int 1 :: st) σ Q := rn_step rfl (fun _ _ => rfl)
set_option maxRecDepth 20000 in
theorem sL_law_1229 {d : Nat} {Q : mb_O → mb_S → Prop} {σ : mb_S} {st : List Value} {ls : mb_L} {p0 : Int32} {b : Nat} (hd : 1 ≤ d) (h4 : st.length ≤ 4) : mb_Rn d 90 1229 ls (.int p0 :: .ref b :: st) σ Q = mb_gf σ b 7 False (fun _ => mb_Ex (d - 1) 61 [.ref b, .int p0] σ (mb_qx [] d 90 1232 ls st Q)) := rn_callv mb_good rfl hd rfl rfl ⟨rfl, rfl⟩ h4 ⟨Nat.le_of_ble_eq_true rfl, rfl⟩
set_option maxRecDepth 20000 in
theorem sL_law_1232 {d : Nat} {Q : mb_O → mb_S → Prop} {σ : mb_S} {st : List Value} {l0 l1 l2 l3 l4 l6 l7 l8 l9 l10 l11 l12 l13 l14 l15 l16 l17 l18 l19 : Option Value} {a : Nat} : mb_Rn d 90 1232 [l0, l1, l2, l3, l4, some (.ref a), l6, l7, l8, l9, l10, l11, l12, l13, l14, l15, l16, l17, l18, l19] st σ Q = mb_Rn d 90 1234 [l0, l1, l2, l3, l4, some (.ref a), l6, l7, l8, l9, l10, l11, l12, l13, l14, l15, l16, l17, l18, l19] (.ref a :: st) σ Q := rn_step rfl (fun _ _ => rfl)
set_option maxRecDepth 20000 in
theorem sL_law_1232n {d : Nat} {Q : mb_O → mb_S → Prop} {σ : mb_S} {st : List Value} {l0 l1 l2 l3 l4 l6 l7 l8 l9 l10 l11 l12 l13 l14 l15 l16 l17 l18 l19 : Option Value} : mb_Rn d 90 1232 [l0, l1, l2, l3, l4, some (.null), l6, l7, l8, l9, l10, l11, l12, l13, l14, l15, l16, l17, l18, l19] st σ Q = mb_Rn d 90 1234 [l0, l1, l2, l3, l4, some (.null), l6, l7, l8, l9, l10, l11, l12, l13, l14, l15, l16, l17, l18, l19] (.null :: st) σ Q := rn_step rfl (fun _ _ => rfl)
set_option maxRecDepth 20000 in
theorem sL_law_1234 {d : Nat} {Q : mb_O → mb_S → Prop} {σ : mb_S} {st : List Value} {ls : mb_L} : mb_Rn d 90 1234 ls st σ Q = mb_Rn d 90 1235 ls (.int 0 :: st) σ Q := rn_step rfl (fun _ _ => rfl)
set_option maxRecDepth 20000 in
theorem sL_law_1235 {d : Nat} {Q : mb_O → mb_S → Prop} {σ : mb_S} {st : List Value} {ls : mb_L} {a : Nat} {j : Int32} : mb_Rn d 90 1235 ls (.int j :: .ref a :: st) σ Q = mb_gi σ a j False (fun kd _ f => if kd = 0 ∨ kd = 9 then mb_Rn d 90 1236 ls (.int (f j.toNatClampNeg) :: st) σ Q else False) := rn_iald rfl
set_option maxRecDepth 20000 in
theorem sL_law_1236 {d : Nat} {Q : mb_O → mb_S → Prop} {σ : mb_S} {st : List Value} {l0 l1 l2 l3 l4 l6 l7 l8 l9 l10 l11 l12 l13 l14 l15 l16 l17 l18 l19 : Option Value} {a : Nat} : mb_Rn d 90 1236 [l0, l1, l2, l3, l4, some (.ref a), l6, l7, l8, l9, l10, l11, l12, l13, l14, l15, l16, l17, l18, l19] st σ Q = mb_Rn d 90 1238 [l0, l1, l2, l3, l4, some (.ref a), l6, l7, l8, l9, l10, l11, l12, l13, l14, l15, l16, l17, l18, l19] (.ref a :: st) σ Q := rn_step rfl (fun _ _ => rfl)
set_option maxRecDepth 20000 in
theorem sL_law_1236n {d : Nat} {Q : mb_O → mb_S → Prop} {σ : mb_S} {st : List Value} {l0 l1 l2 l3 l4 l6 l7 l8 l9 l10 l11 l12 l13 l14 l15 l16 l17 l18 l19 : Option Value} : mb_Rn d 90 1236 [l0, l1, l2, l3, l4, some (.null), l6, l7, l8, l9, l10, l11, l12, l13, l14, l15, l16, l17, l18, l19] st σ Q = mb_Rn d 90 1238 [l0, l1, l2, l3, l4, some (.null), l6, l7, l8, l9, l10, l11, l12, l13, l14, l15, l16, l17, l18, l19] (.null :: st) σ Q := rn_step rfl (fun _ _ => rfl)
set_option maxRecDepth 20000 in
theorem sL_law_1238 {d : Nat} {Q : mb_O → mb_S → Prop} {σ : mb_S} {st : List Value} {ls : mb_L} : mb_Rn d 90 1238 ls st σ Q = mb_Rn d 90 1239 ls (.int 1 :: st) σ Q := rn_step rfl (fun _ _ => rfl)
set_option maxRecDepth 20000 in
theorem sL_law_1239 {d : Nat} {Q : mb_O → mb_S → Prop} {σ : mb_S} {st : List Value} {ls : mb_L} {a : Nat} {j : Int32} : mb_Rn d 90 1239 ls (.int j :: .ref a :: st) σ Q = mb_gi σ a j False (fun kd _ f => if kd = 0 ∨ kd = 9 then mb_Rn d 90 1240 ls (.int (f j.toNatClampNeg) :: st) σ Q else False) := rn_iald rfl
set_option maxRecDepth 20000 in
theorem sL_law_1240 {d : Nat} {Q : mb_O → mb_S → Prop} {σ : mb_S} {st : List Value} {ls : mb_L} {x z : Int32} : mb_Rn d 90 1240 ls (.int z :: .int x :: st) σ Q = mb_Rn d 90 1241 ls (.int (x + z) :: st) σ Q := rn_step rfl (fun _ _ => rfl)
set_option maxRecDepth 20000 in
theorem sL_law_1241 {d : Nat} {Q : mb_O → mb_S → Prop} {σ : mb_S} {st : List Value} {ls : mb_L} {x z : Int32} : mb_Rn d 90 1241 ls (.int z :: .int x :: st) σ Q = if x = z then mb_Rn d 90 1244 ls st σ Q else mb_Rn d 90 1265 ls st σ Q := rn_ifn rfl (fun _ _ => rfl) bne_iff_ne
set_option maxRecDepth 20000 in
theorem sL_law_1244 {d : Nat} {Q : mb_O → mb_S → Prop} {σ : mb_S} {st : List Value} {l0 l2 l3 l4 l5 l6 l7 l8 l9 l10 l11 l12 l13 l14 l15 l16 l17 l18 l19 : Option Value} {a : Nat} : mb_Rn d 90 1244 [l0, some (.ref a), l2, l3, l4, l5, l6, l7, l8, l9, l10, l11, l12, l13, l14, l15, l16, l17, l18, l19] st σ Q = mb_Rn d 90 1245 [l0, some (.ref a), l2, l3, l4, l5, l6, l7, l8, l9, l10, l11, l12, l13, l14, l15, l16, l17, l18, l19] (.ref a :: st) σ Q := rn_step rfl (fun _ _ => rfl)
set_option maxRecDepth 20000 in
theorem sL_law_1244n {d : Nat} {Q : mb_O → mb_S → Prop} {σ : mb_S} {st : List Value} {l0 l2 l3 l4 l5 l6 l7 l8 l9 l10 l11 l12 l13 l14 l15 l16 l17 l18 l19 : Option Value} : mb_Rn d 90 1244 [l0, some (.null), l2, l3, l4, l5, l6, l7, l8, l9, l10, l11, l12, l13, l14, l15, l16, l17, l18, l19] st σ Q = mb_Rn d 90 1245 [l0, some (.null), l2, l3, l4, l5, l6, l7, l8, l9, l10, l11, l12, l13, l14, l15, l16, l17, l18, l19] (.null :: st) σ Q := rn_step rfl (fun _ _ => rfl)
set_option maxRecDepth 20000 in
theorem sL_law_1245 {d : Nat} {Q : mb_O → mb_S → Prop} {σ : mb_S} {st : List Value} {ls : mb_L} : mb_Rn d 90 1245 ls st σ Q = mb_Rn d 90 1246 ls (.int 3 :: st) σ Q := rn_step rfl (fun _ _ => rfl)
set_option maxRecDepth 20000 in
theorem sL_law_1246 {d : Nat} {Q : mb_O → mb_S → Prop} {σ : mb_S} {st : List Value} {ls : mb_L} {p0 : Int32} {b : Nat} (hd : 1 ≤ d) (h4 : st.length ≤ 4) : mb_Rn d 90 1246 ls (.int p0 :: .ref b :: st) σ Q = mb_gf σ b 7 False (fun _ => mb_Ex (d - 1) 61 [.ref b, .int p0] σ (mb_qx [] d 90 1249 ls st Q)) := rn_callv mb_good rfl hd rfl rfl ⟨rfl, rfl⟩ h4 ⟨Nat.le_of_ble_eq_true rfl, rfl⟩
set_option maxRecDepth 20000 in
theorem sL_law_1249 {d : Nat} {Q : mb_O → mb_S → Prop} {σ : mb_S} {st : List Value} {l0 l1 l2 l3 l5 l6 l7 l8 l9 l10 l11 l12 l13 l14 l15 l16 l17 l18 l19 : Option Value} {a : Nat} : mb_Rn d 90 1249 [l0, l1, l2, l3, some (.ref a), l5, l6, l7, l8, l9, l10, l11, l12, l13, l14, l15, l16, l17, l18, l19] st σ Q = mb_Rn d 90 1251 [l0, l1, l2, l3, some (.ref a), l5, l6, l7, l8, l9, l10, l11, l12, l13, l14, l15, l16, l17, l18, l19] (.ref a :: st) σ Q := rn_step rfl (fun _ _ => rfl)
set_option maxRecDepth 20000 in
theorem sL_law_1249n {d : Nat} {Q : mb_O → mb_S → Prop} {σ : mb_S} {st : List Value} {l0 l1 l2 l3 l5 l6 l7 l8 l9 l10 l11 l12 l13 l14 l15 l16 l17 l18 l19 : Option Value} : mb_Rn d 90 1249 [l0, l1, l2, l3, some (.null), l5, l6, l7, l8, l9, l10, l11, l12, l13, l14, l15, l16, l17, l18, l19] st σ Q = mb_Rn d 90 1251 [l0, l1, l2, l3, some (.null), l5, l6, l7, l8, l9, l10, l11, l12, l13, l14, l15, l16, l17, l18, l19] (.null :: st) σ Q := rn_step rfl (fun _ _ => rfl)
set_option maxRecDepth 20000 in
theorem sL_law_1251 {d : Nat} {Q : mb_O → mb_S → Prop} {σ : mb_S} {st : List Value} {ls : mb_L} : mb_Rn d 90 1251 ls st σ Q = mb_Rn d 90 1252 ls (.int 0 :: st) σ Q := rn_step rfl (fun _ _ => rfl)
set_option maxRecDepth 20000 in
theorem sL_law_1252 {d : Nat} {Q : mb_O → mb_S → Prop} {σ : mb_S} {st : List Value} {ls : mb_L} {a : Nat} {j : Int32} : mb_Rn d 90 1252 ls (.int j :: .ref a :: st) σ Q = mb_gi σ a j False (fun kd _ f => if kd = 0 ∨ kd = 9 then mb_Rn d 90 1253 ls (.int (f j.toNatClampNeg) :: st) σ Q else False) := rn_iald rfl
set_option maxRecDepth 20000 in
theorem sL_law_1253 {d : Nat} {Q : mb_O → mb_S → Prop} {σ : mb_S} {st : List Value} {l0 l1 l2 l3 l5 l6 l7 l8 l9 l10 l11 l12 l13 l14 l15 l16 l17 l18 l19 : Option Value} {a : Nat} : mb_Rn d 90 1253 [l0, l1, l2, l3, some (.ref a), l5, l6, l7, l8, l9, l10, l11, l12, l13, l14, l15, l16, l17, l18, l19] st σ Q = mb_Rn d 90 1255 [l0, l1, l2, l3, some (.ref a), l5, l6, l7, l8, l9, l10, l11, l12, l13, l14, l15, l16, l17, l18, l19] (.ref a :: st) σ Q := rn_step rfl (fun _ _ => rfl)
set_option maxRecDepth 20000 in
theorem sL_law_1253n {d : Nat} {Q : mb_O → mb_S → Prop} {σ : mb_S} {st : List Value} {l0 l1 l2 l3 l5 l6 l7 l8 l9 l10 l11 l12 l13 l14 l15 l16 l17 l18 l19 : Option Value} : mb_Rn d 90 1253 [l0, l1, l2, l3, some (.null), l5, l6, l7, l8, l9, l10, l11, l12, l13, l14, l15, l16, l17, l18, l19] st σ Q = mb_Rn d 90 1255 [l0, l1, l2, l3, some (.null), l5, l6, l7, l8, l9, l10, l11, l12, l13, l14, l15, l16, l17, l18, l19] (.null :: st) σ Q := rn_step rfl (fun _ _ => rfl)
set_option maxRecDepth 20000 in
theorem sL_law_1255 {d : Nat} {Q : mb_O → mb_S → Prop} {σ : mb_S} {st : List Value} {ls : mb_L} : mb_Rn d 90 1255 ls st σ Q = mb_Rn d 90 1256 ls (.int 1 :: st) σ Q := rn_step rfl (fun _ _ => rfl)
set_option maxRecDepth 20000 in
theorem sL_law_1256 {d : Nat} {Q : mb_O → mb_S → Prop} {σ : mb_S} {st : List Value} {ls : mb_L} {a : Nat} {j : Int32} : mb_Rn d 90 1256 ls (.int j :: .ref a :: st) σ Q = mb_gi σ a j False (fun kd _ f => if kd = 0 ∨ kd = 9 then mb_Rn d 90 1257 ls (.int (f j.toNatClampNeg) :: st) σ Q else False) := rn_iald rfl
set_option maxRecDepth 20000 in
theorem sL_law_1257 {d : Nat} {Q : mb_O → mb_S → Prop} {σ : mb_S} {st : List Value} {ls : mb_L} {x z : Int32} : mb_Rn d 90 1257 ls (.int z :: .int x :: st) σ Q = mb_Rn d 90 1258 ls (.int (x + z) :: st) σ Q := rn_step rfl (fun _ _ => rfl)
set_option maxRecDepth 20000 in
theorem sL_law_1258 {d : Nat} {Q : mb_O → mb_S → Prop} {σ : mb_S} {st : List Value} {ls : mb_L} {x z : Int32} : mb_Rn d 90 1258 ls (.int z :: .int x :: st) σ Q = if x = z then mb_Rn d 90 1261 ls st σ Q else mb_Rn d 90 1265 ls st σ Q := rn_ifn rfl (fun _ _ => rfl) bne_iff_ne
set_option maxRecDepth 20000 in
theorem sL_law_1261 {d : Nat} {Q : mb_O → mb_S → Prop} {σ : mb_S} {st : List Value} {ls : mb_L} : mb_Rn d 90 1261 ls st σ Q = mb_Rn d 90 1262 ls (.int 1 :: st) σ Q := rn_step rfl (fun _ _ => rfl)
set_option maxRecDepth 20000 in
theorem sL_law_1262 {d : Nat} {Q : mb_O → mb_S → Prop} {σ : mb_S} {st : List Value} {ls : mb_L} : mb_Rn d 90 1262 ls st σ Q = mb_Rn d 90 1266 ls st σ Q := rn_step rfl (fun _ _ => rfl)
set_option maxRecDepth 20000 in
theorem sL_law_1265 {d : Nat} {Q : mb_O → mb_S → Prop} {σ : mb_S} {st : List Value} {ls : mb_L} : mb_Rn d 90 1265 ls st σ Q = mb_Rn d 90 1266 ls (.int 0 :: st) σ Q := rn_step rfl (fun _ _ => rfl)
set_option maxRecDepth 20000 in
theorem sL_law_1266 {d : Nat} {Q : mb_O → mb_S → Prop} {σ : mb_S} {st : List Value} {l0 l1 l2 l3 l4 l5 l6 l7 l8 l9 l10 l11 l12 l13 l14 l15 l16 l17 l18 l19 : Option Value} {x : Int32} : mb_Rn d 90 1266 [l0, l1, l2, l3, l4, l5, l6, l7, l8, l9, l10, l11, l12, l13, l14, l15, l16, l17, l18, l19] (.int x :: st) σ Q = mb_Rn d 90 1268 [l0, l1, l2, l3, l4, l5, l6, l7, l8, some (.int x), l10, l11, l12, l13, l14, l15, l16, l17, l18, l19] st σ Q := rn_step rfl (fun _ _ => rfl)
set_option maxRecDepth 20000 in
theorem sL_law_1268 {d : Nat} {Q : mb_O → mb_S → Prop} {σ : mb_S} {st : List Value} {l0 l1 l2 l3 l4 l5 l6 l7 l8 l9 l10 l12 l13 l14 l15 l16 l17 l18 l19 : Option Value} {x : Int32} : mb_Rn d 90 1268 [l0, l1, l2, l3, l4, l5, l6, l7, l8, l9, l10, some (.int x), l12, l13, l14, l15, l16, l17, l18, l19] st σ Q = mb_Rn d 90 1271 [l0, l1, l2, l3, l4, l5, l6, l7, l8, l9, l10, some (.int (x + 1)), l12, l13, l14, l15, l16, l17, l18, l19] st σ Q := rn_step rfl (fun _ _ => rfl)
set_option maxRecDepth 20000 in
theorem sL_law_1271 {d : Nat} {Q : mb_O → mb_S → Prop} {σ : mb_S} {st : List Value} {ls : mb_L} : mb_Rn d 90 1271 ls st σ Q = mb_Rn d 90 127 ls st σ Q := rn_step rfl (fun _ _ => rfl)
set_option maxRecDepth 20000 in
theorem sL_law_1274 {d : Nat} {Q : mb_O → mb_S → Prop} {σ : mb_S} {st : List Value} {l0 l1 l2 l3 l4 l5 l6 l7 l8 l10 l11 l12 l13 l14 l15 l16 l17 l18 l19 : Option Value} {x : Int32} : mb_Rn d 90 1274 [l0, l1, l2, l3, l4, l5, l6, l7, l8, some (.int x), l10, l11, l12, l13, l14, l15, l16, l17, l18, l19] st σ Q = mb_Rn d 90 1276 [l0, l1, l2, l3, l4, l5, l6, l7, l8, some (.int x), l10, l11, l12, l13, l14, l15, l16, l17, l18, l19] (.int x :: st) σ Q := rn_step rfl (fun _ _ => rfl)
set_option maxRecDepth 20000 in
theorem sL_law_1276 {d : Nat} {Q : mb_O → mb_S → Prop} {σ : mb_S}  {ls : mb_L} {x : Int32} : mb_Rn d 90 1276 ls [.int x] σ Q = if x = 0 ∨ x = 1 then Q (.inl (some (.int x))) σ else False := rn_zret rfl
