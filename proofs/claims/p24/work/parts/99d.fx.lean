/-! what is fixed for the whole run holds at the law's entry -/
section MBS
variable {s : State} {args : Array Value}
theorem mb_sAO {C : String} (h : (Cond.arrayOver (.object C)).before args s = true) : ∃ cA : ClassId, ArrOfT s cA (.object C) ∧ va_RA s cA (.object C) := by
  obtain ⟨comp, cA, kA, h1, h2, h3, h4, h5⟩ := Cond.arrayOver_spec h
  exact ⟨cA, fun n z => ⟨fun k h => (by cases h), kA, h3, comp, h4⟩, kA, comp, h3, h4, h1, h5⟩
theorem mb_sAI (h : (Cond.arrayClass .int).before args s = true) : ∃ cA : ClassId, ArrOfT s cA .int ∧ va_RA s cA .int := by
  obtain ⟨cA, kA, comp, h1, h2, h3⟩ := Cond.arrayClass_spec h
  exact ⟨cA, fun n z => ⟨fun k h => (by cases h), kA, h2, comp, h3⟩, h1⟩
theorem mb_sT (hts : ∀ w ∈ lw_tbl, w.before args s = true) : ∃ cT : Nat → ClassId, ∀ (k : Nat) (ty : FieldType), mb_ty k = some ty → ArrOfT s (cT k) ty ∧ va_RA s (cT k) ty := by
  have h : ∀ k : Nat, ∃ cA : ClassId, ∀ ty : FieldType, mb_ty k = some ty → ArrOfT s cA ty ∧ va_RA s cA ty := by
    intro k
    obtain ⟨c0, q0⟩ := mb_sAI (hts _ mw_172)
    unfold mb_ty
    split
    · exact ⟨c0, fun ty e => by cases e; exact q0⟩
    · exact ⟨c0, fun ty e => by cases e⟩
    · exact ⟨c0, fun ty e => by cases e⟩
    · obtain ⟨c, q⟩ := mb_sAO (hts _ mw_46); exact ⟨c, fun ty e => by cases e; exact q⟩
    · obtain ⟨c, q⟩ := mb_sAO (hts _ mw_295); exact ⟨c, fun ty e => by cases e; exact q⟩
    · obtain ⟨c, q⟩ := mb_sAO (hts _ mw_157); exact ⟨c, fun ty e => by cases e; exact q⟩
    · obtain ⟨c, q⟩ := mb_sAO (hts _ mw_293); exact ⟨c, fun ty e => by cases e; exact q⟩
    · obtain ⟨c, q⟩ := mb_sAO (hts _ mw_50); exact ⟨c, fun ty e => by cases e; exact q⟩
    · obtain ⟨c, q⟩ := mb_sAO (hts _ mw_173); exact ⟨c, fun ty e => by cases e; exact q⟩
    · obtain ⟨c, q⟩ := mb_sAO (hts _ mw_48); exact ⟨c, fun ty e => by cases e; exact q⟩
    · obtain ⟨c, q⟩ := mb_sAO (hts _ mw_46); exact ⟨c, fun ty e => by cases e; exact q⟩
    · obtain ⟨c, q⟩ := mb_sAO (hts _ mw_46); exact ⟨c, fun ty e => by cases e; exact q⟩
    · exact ⟨c0, fun ty e => by cases e⟩
  exact ⟨fun k => (h k).choose, fun k => (h k).choose_spec⟩
theorem mb_sK (hts : ∀ w ∈ lw_tbl, w.before args s = true) : ∃ D : va_G, va_K D vwCl [] s := by
  have h : ∀ c : Nat, ∃ (cC : ClassId) (iS : Nat → Nat), ∀ q : vw_C, vwCl[c]? = some q → u_Kn s q.1 q.2.1 q.2.2 cC iS := by
    intro c
    obtain ⟨a0, b0, q0⟩ := u_known hts (fun w h => (mu_X0 w h).1) (hts _ mw_145)
    match c with
    | 0 => exact ⟨a0, b0, fun x e => by cases e; exact q0⟩
    | 1 => obtain ⟨a, b, q⟩ := u_known hts (fun w h => (mu_X1 w h).1) (hts _ mw_566); exact ⟨a, b, fun x e => by cases e; exact q⟩
    | 2 => obtain ⟨a, b, q⟩ := u_known hts (fun w h => (mu_X2 w h).1) (hts _ mw_469); exact ⟨a, b, fun x e => by cases e; exact q⟩
    | 3 => obtain ⟨a, b, q⟩ := u_known hts (fun w h => (mu_X3 w h).1) (hts _ mw_296); exact ⟨a, b, fun x e => by cases e; exact q⟩
    | 4 => obtain ⟨a, b, q⟩ := u_known hts (fun w h => (mu_X4 w h).1) (hts _ mw_608); exact ⟨a, b, fun x e => by cases e; exact q⟩
    | 5 => obtain ⟨a, b, q⟩ := u_known hts (fun w h => (mu_X5 w h).1) (hts _ mw_151); exact ⟨a, b, fun x e => by cases e; exact q⟩
    | 6 => obtain ⟨a, b, q⟩ := u_known hts (fun w h => (mu_X6 w h).1) (hts _ mw_287); exact ⟨a, b, fun x e => by cases e; exact q⟩
    | 7 => obtain ⟨a, b, q⟩ := u_known hts (fun w h => (mu_X7 w h).1) (hts _ mw_38); exact ⟨a, b, fun x e => by cases e; exact q⟩
    | c + 8 => exact ⟨a0, b0, fun x e => by simp [vwCl] at e⟩
  exact ⟨(fun k => (h k).choose, fun k => (h k).choose_spec.choose), fun c q hq => (h c).choose_spec.choose_spec q hq, fun k q h => by simp at h⟩
theorem mb_sStr {own tx : String} {k : Nat} (h : (Cond.stringRef own k tx).before args s = true) : ∃ a : Nat, vk_R own k tx a s := by
  cases hc : s.vm.findClass own with
  | none => simp [Cond.before, Cond.holds, Cond.value, hc] at h
  | some cur =>
    obtain ⟨-, -, -, a, -, -, -, -, -, hev⟩ := Cond.stringRef_spec hc h
    exact ⟨a, vk_R.of h hev⟩
end MBS
theorem mb_sExn (E : Nat) : mb_exn E = "java/lang/IllegalStateException" ∨ mb_exn E = "java/lang/IllegalArgumentException" ∨ mb_exn E = "java/lang/IndexOutOfBoundsException" := by
  unfold mb_exn
  split
  · exact Or.inl rfl
  · exact Or.inr (Or.inl rfl)
  · exact Or.inr (Or.inr rfl)
theorem mb_sNc {s : State} {b : Nat} (hgv : (Jvm.Cond.and given_1 narrow_1).before #[Value.ref b] s = true) (E F : Nat) (hne : mb_exn E ≠ mb_exn F) : va_Nc (mb_exn E) (mb_exn F) s := by
  have hs := flat_of_before _ hgv
  rcases mb_sExn E with e | e | e <;> rcases mb_sExn F with f | f | f <;> rw [e, f] at hne <;> rw [e, f]
  · exact absurd rfl hne
  · exact va_Nc.of (hs (Cond.not (.castable "java/lang/IllegalStateException" "java/lang/IllegalArgumentException")) (by decide +kernel))
  · exact va_Nc.of (hs (Cond.not (.castable "java/lang/IllegalStateException" "java/lang/IndexOutOfBoundsException")) (by decide +kernel))
  · exact va_Nc.of (hs (Cond.not (.castable "java/lang/IllegalArgumentException" "java/lang/IllegalStateException")) (by decide +kernel))
  · exact absurd rfl hne
  · exact va_Nc.of (hs (Cond.not (.castable "java/lang/IllegalArgumentException" "java/lang/IndexOutOfBoundsException")) (by decide +kernel))
  · exact va_Nc.of (hs (Cond.not (.castable "java/lang/IndexOutOfBoundsException" "java/lang/IllegalStateException")) (by decide +kernel))
  · exact va_Nc.of (hs (Cond.not (.castable "java/lang/IndexOutOfBoundsException" "java/lang/IllegalArgumentException")) (by decide +kernel))
  · exact absurd rfl hne
theorem mb_sFx {s : State} {b : Nat} (l : Launch) (hflags : l.flags = flags0) (hts : ∀ w ∈ lw_tbl, w.before #[Value.ref b] s = true) (hgv : (Jvm.Cond.and given_1 narrow_1).before #[Value.ref b] s = true) : ∃ (D : va_G) (cT : Nat → ClassId), mb_Fx l D cT s #[Value.ref b] := by
  obtain ⟨D, hK⟩ := mb_sK hts
  obtain ⟨cT, hT⟩ := mb_sT hts
  have hs := flat_of_before _ hgv
  have hi : (Cond.initialized Bundle.tN).before #[Value.ref b] s = true := hts _ (by decide +kernel)
  refine ⟨D, cT, hts, ?_, hK, hT, ?_, ?_, fun own k tx h => mb_sStr (hts _ h), mb_sNc hgv⟩
  · unfold Launch.stackTraces
    rw [hflags]
    decide
  · exact vx_Zqof (hts _ (by decide +kernel)) hi (hs (Cond.isRef (.static Bundle.tN "UNASSIGNED_STACK" Bundle.steD)) (by decide +kernel)) (fun a h => Nat.not_le.mpr h)
  · exact vx_Zqof (hts _ (by decide +kernel)) hi (hs (Cond.isRef (.static Bundle.tN "SUPPRESSED_SENTINEL" Bundle.listD)) (by decide +kernel)) (fun a h => Nat.not_le.mpr h)
