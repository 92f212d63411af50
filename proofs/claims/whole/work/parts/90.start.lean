/-! the law's entry: all of it -/
section START
variable {s : State} {b : Nat}
theorem arrK {args : Array Value} {ty : FieldType} (hp : ∀ C, ty ≠ .object C) (h : (Cond.arrayClass ty).before args s = true) : ∃ cA, ArrOfT s cA ty ∧ va_RA s cA ty := by
  obtain ⟨cA, kA, comp, h1, h2, h3⟩ := Cond.arrayClass_spec h
  refine ⟨cA, fun n z => ⟨fun k h => (by cases h), kA, h2, comp, h3⟩, ?_⟩
  cases ty with
  | object C => exact absurd rfl (hp C)
  | _ => exact h1
theorem arrO {args : Array Value} {C : String} (h : (Cond.arrayOver (.object C)).before args s = true) : ∃ cA, ArrOfT s cA (.object C) ∧ va_RA s cA (.object C) := by
  obtain ⟨comp, cA, kA, h1, -, h3, h4, h5⟩ := Cond.arrayOver_spec h
  exact ⟨cA, fun n z => ⟨fun k h => (by cases h), kA, h3, comp, h4⟩, kA, comp, h3, h4, h1, h5⟩
theorem kn_ex (hts : ∀ w ∈ lw_tbl, w.before #[Value.ref b] s = true) : ∃ D : va_G, ∀ (k : Nat) (q : vw_C), vwCl[k]? = some q → u_Kn s q.1 q.2.1 q.2.2 (D.1 k) (D.2 k) := by
  have ht : ∀ w ∈ wtbl, w.before #[Value.ref b] s = true := fun w hw => hts w (List.mem_filter.mp hw).1
  have h : ∀ k : Nat, ∃ q : ClassId × (Nat → Nat), ∀ r : vw_C, vwCl[k]? = some r → u_Kn s r.1 r.2.1 r.2.2 q.1 q.2 := by
    intro k
    match k with
    | 0 => obtain ⟨c, i, h⟩ := u_known ht iX0 (hts _ (show Cond.instantiable RX0 6 ∈ lw_tbl by decide +kernel)); exact ⟨(c, i), fun r hr => by cases hr; exact h⟩
    | 1 => obtain ⟨c, i, h⟩ := u_known ht iX1 (hts _ (show Cond.instantiable RX1 3 ∈ lw_tbl by decide +kernel)); exact ⟨(c, i), fun r hr => by cases hr; exact h⟩
    | 2 => obtain ⟨c, i, h⟩ := u_known ht iX2 (hts _ (show Cond.instantiable RX2 4 ∈ lw_tbl by decide +kernel)); exact ⟨(c, i), fun r hr => by cases hr; exact h⟩
    | 3 => obtain ⟨c, i, h⟩ := u_known ht iX3 (hts _ (show Cond.instantiable RX3 4 ∈ lw_tbl by decide +kernel)); exact ⟨(c, i), fun r hr => by cases hr; exact h⟩
    | 4 => obtain ⟨c, i, h⟩ := u_known ht iX4 (hts _ (show Cond.instantiable RX4 6 ∈ lw_tbl by decide +kernel)); exact ⟨(c, i), fun r hr => by cases hr; exact h⟩
    | 5 => obtain ⟨c, i, h⟩ := u_known ht iX5 (hts _ (show Cond.instantiable RX5 3 ∈ lw_tbl by decide +kernel)); exact ⟨(c, i), fun r hr => by cases hr; exact h⟩
    | 6 => obtain ⟨c, i, h⟩ := u_known ht iX6 (hts _ (show Cond.instantiable RX6 14 ∈ lw_tbl by decide +kernel)); exact ⟨(c, i), fun r hr => by cases hr; exact h⟩
    | 7 => obtain ⟨c, i, h⟩ := u_known ht iX7 (hts _ (show Cond.instantiable RX7 3 ∈ lw_tbl by decide +kernel)); exact ⟨(c, i), fun r hr => by cases hr; exact h⟩
    | 8 => obtain ⟨c, i, h⟩ := u_known ht iX8 (hts _ (show Cond.instantiable RX8 2 ∈ lw_tbl by decide +kernel)); exact ⟨(c, i), fun r hr => by cases hr; exact h⟩
    | 9 => obtain ⟨c, i, h⟩ := u_known ht iX9 (hts _ (show Cond.instantiable RX9 16 ∈ lw_tbl by decide +kernel)); exact ⟨(c, i), fun r hr => by cases hr; exact h⟩
    | 10 => obtain ⟨c, i, h⟩ := u_known ht iX10 (hts _ (show Cond.instantiable RX10 3 ∈ lw_tbl by decide +kernel)); exact ⟨(c, i), fun r hr => by cases hr; exact h⟩
    | 11 => obtain ⟨c, i, h⟩ := u_known ht iX11 (hts _ (show Cond.instantiable RX11 12 ∈ lw_tbl by decide +kernel)); exact ⟨(c, i), fun r hr => by cases hr; exact h⟩
    | 12 => obtain ⟨c, i, h⟩ := u_known ht iX12 (hts _ (show Cond.instantiable RX12 29 ∈ lw_tbl by decide +kernel)); exact ⟨(c, i), fun r hr => by cases hr; exact h⟩
    | 13 => obtain ⟨c, i, h⟩ := u_known ht iX13 (hts _ (show Cond.instantiable RX13 32 ∈ lw_tbl by decide +kernel)); exact ⟨(c, i), fun r hr => by cases hr; exact h⟩
    | n + 14 => exact ⟨(0, fun _ => 0), fun r hr => by simp [vwCl] at hr⟩
  exact ⟨(fun k => (Classical.choose (h k)).1, fun k => (Classical.choose (h k)).2), fun k q hq => Classical.choose_spec (h k) q hq⟩
theorem ty_ex (hts : ∀ w ∈ lw_tbl, w.before #[Value.ref b] s = true) : ∃ ty : Nat → ClassId, ∀ (k : Nat) (q : ClassId × FieldType), ([(ty 14, .byte), (ty 15, .int), (ty 16, .long), (ty 17, .object RX1), (ty 18, .object RX3), (ty 19, .object RX5), (ty 20, .object RX10)] : List (ClassId × FieldType))[k]? = some q → ArrOfT s q.1 q.2 ∧ va_RA s q.1 q.2 := by
  obtain ⟨c0, h0⟩ := arrK (fun _ h => by cases h) (hts _ (show Cond.arrayClass .byte ∈ lw_tbl by decide +kernel))
  obtain ⟨c1, h1⟩ := arrK (fun _ h => by cases h) (hts _ (show Cond.arrayClass .int ∈ lw_tbl by decide +kernel))
  obtain ⟨c2, h2⟩ := arrK (fun _ h => by cases h) (hts _ (show Cond.arrayClass .long ∈ lw_tbl by decide +kernel))
  obtain ⟨c3, h3⟩ := arrO (hts _ (show Cond.arrayOver (.object RX1) ∈ lw_tbl by decide +kernel))
  obtain ⟨c4, h4⟩ := arrO (hts _ (show Cond.arrayOver (.object RX3) ∈ lw_tbl by decide +kernel))
  obtain ⟨c5, h5⟩ := arrO (hts _ (show Cond.arrayOver (.object RX5) ∈ lw_tbl by decide +kernel))
  obtain ⟨c6, h6⟩ := arrO (hts _ (show Cond.arrayOver (.object RX10) ∈ lw_tbl by decide +kernel))
  refine ⟨fun n => [c0, c1, c2, c3, c4, c5, c6].getD (n - 14) c0, fun k q hq => ?_⟩
  match k, hq with
  | 0, hq => cases hq; exact h0
  | 1, hq => cases hq; exact h1
  | 2, hq => cases hq; exact h2
  | 3, hq => cases hq; exact h3
  | 4, hq => cases hq; exact h4
  | 5, hq => cases hq; exact h5
  | 6, hq => cases hq; exact h6
  | n + 7, hq => simp at hq
theorem pr_ex (hts : ∀ w ∈ lw_tbl, w.before #[Value.ref b] s = true) (hgv : (Jvm.Cond.and given_1 narrow_1).before #[Value.ref b] s = true) : ∃ AD : Nat → Nat, AD 598 = b ∧ PRz s.heap AD s := by
  have hfl := flat_of_before _ hgv
  have hA : ∀ a : Nat, a < s.heap.size → ¬ (fun q : Nat => s.heap.size ≤ q) a := fun a h q => Nat.not_le.mpr h q
  have hst : ∀ i : Nat, ∃ q : Nat × Nat, i < 24 → (tmS i).eval #[Value.ref b] s none [] s = some (.ref q.1) ∧ va_O "java/lang/String" q.1 (fun q => s.heap.size ≤ q) s s.heap ∧ va_OF "java/lang/String" "coder" "B" (.int 0) q.1 (fun q => s.heap.size ≤ q) s s.heap ∧ va_OF "java/lang/String" "value" "[B" (.ref q.2) q.1 (fun q => s.heap.size ≤ q) s s.heap ∧ va_T .byte q.2 (strL.getD i 0) (fun j => .int ((strB.getD i []).getD j 0)) (fun q => s.heap.size ≤ q) s s.heap := by
    intro i
    by_cases hi : i < 24
    · obtain ⟨k, v, h1, h2, h3, h4, h5⟩ := str1 (args := #[Value.ref b]) hA (strL_b i hi) (fun w hw => hfl w (strW_in i hi w hw))
      exact ⟨(k, v), fun _ => ⟨h1, h2, h3, h4, h5⟩⟩
    · exact ⟨(0, 0), fun h => absurd h hi⟩
  have hfm := va_Zqof (A := fun q => s.heap.size ≤ q) (hts _ (show Cond.laysStatic "jdk/internal/util/Preconditions" "SIOOBE_FORMATTER" "Ljava/util/function/BiFunction;" ∈ lw_tbl by decide +kernel)) (hts _ (show Cond.initialized "jdk/internal/util/Preconditions" ∈ lw_tbl by decide +kernel)) (hfl _ (show Cond.isRef (Term.static "jdk/internal/util/Preconditions" "SIOOBE_FORMATTER" "Ljava/util/function/BiFunction;") ∈ _ by decide +kernel)) hA
  obtain ⟨fz, hfz⟩ : ∃ fz : Nat, va_Z "jdk/internal/util/Preconditions" "SIOOBE_FORMATTER" "Ljava/util/function/BiFunction;" .null (fun q => s.heap.size ≤ q) s s.heap ∨ va_Z "jdk/internal/util/Preconditions" "SIOOBE_FORMATTER" "Ljava/util/function/BiFunction;" (.ref fz) (fun q => s.heap.size ≤ q) s s.heap := by
    rcases hfm with h | ⟨t, h⟩
    · exact ⟨0, Or.inl h⟩
    · exact ⟨t, Or.inr h⟩
  obtain ⟨F, hF⟩ : ∃ F : Nat → Nat × Nat, ∀ i, i < 24 → (tmS i).eval #[Value.ref b] s none [] s = some (.ref (F i).1) ∧ va_O "java/lang/String" (F i).1 (fun q => s.heap.size ≤ q) s s.heap ∧ va_OF "java/lang/String" "coder" "B" (.int 0) (F i).1 (fun q => s.heap.size ≤ q) s s.heap ∧ va_OF "java/lang/String" "value" "[B" (.ref (F i).2) (F i).1 (fun q => s.heap.size ≤ q) s s.heap ∧ va_T .byte (F i).2 (strL.getD i 0) (fun j => .int ((strB.getD i []).getD j 0)) (fun q => s.heap.size ≤ q) s s.heap := ⟨fun i => Classical.choose (hst i), fun i hi => Classical.choose_spec (hst i) hi⟩
  have e5 : ∀ i, i < 24 → (if 500 + i = 598 then b else if 500 + i = 599 then fz else if 500 + i < 550 then (F (500 + i - 500)).1 else (F (500 + i - 550)).2) = (F i).1 := fun i hi => by rw [if_neg (by omega), if_neg (by omega), if_pos (by omega), Nat.add_sub_cancel_left]
  have e6 : ∀ i, i < 24 → (if 550 + i = 598 then b else if 550 + i = 599 then fz else if 550 + i < 550 then (F (550 + i - 500)).1 else (F (550 + i - 550)).2) = (F i).2 := fun i hi => by rw [if_neg (by omega), if_neg (by omega), if_neg (by omega), Nat.add_sub_cancel_left]
  refine ⟨fun n => if n = 598 then b else if n = 599 then fz else if n < 550 then (F (n - 500)).1 else (F (n - 550)).2, rfl, fun w hw => va_Nw.of (nestW_on w hw) (hts w (nestW_in w hw)), fun q hq => ?_, fun i hi => ?_, ?_, hfz, ⟨?_, ?_⟩, fun w hw => va_Nw.of (Bx_on w hw) (hts w (Bx_in w hw)), hts _ (show Cond.arrayOver (.object RX1) ∈ lw_tbl by decide +kernel), hts _ (show Cond.arrayOver (.object RX3) ∈ lw_tbl by decide +kernel), hts _ (show Cond.arrayOver (.object RX5) ∈ lw_tbl by decide +kernel), hts _ (show Cond.arrayOver (.object RX10) ∈ lw_tbl by decide +kernel)⟩
  · obtain ⟨h24, he⟩ := strT_eq q hq
    show vk_R _ _ _ (if 500 + q.2.2.2 = 598 then b else if 500 + q.2.2.2 = 599 then fz else if 500 + q.2.2.2 < 550 then (F (500 + q.2.2.2 - 500)).1 else (F (500 + q.2.2.2 - 550)).2) s
    rw [e5 _ h24]
    refine vk_R.of (A := #[Value.ref b]) (hts _ (strT_in q hq)) ?_
    have h1 := (hF _ h24).1
    rcases he with he | he
    · rw [he]; exact h1
    · obtain ⟨y, y1, y2⟩ := Cond.eq_one (hfl _ he)
      rw [h1] at y1
      rw [y2, ← y1]
  · show va_O _ (if 500 + i = 598 then b else if 500 + i = 599 then fz else if 500 + i < 550 then (F (500 + i - 500)).1 else (F (500 + i - 550)).2) _ _ _ ∧ va_OF _ _ _ _ (if 500 + i = 598 then b else if 500 + i = 599 then fz else if 500 + i < 550 then (F (500 + i - 500)).1 else (F (500 + i - 550)).2) _ _ _ ∧ va_OF _ _ _ (.ref (if 550 + i = 598 then b else if 550 + i = 599 then fz else if 550 + i < 550 then (F (550 + i - 500)).1 else (F (550 + i - 550)).2)) (if 500 + i = 598 then b else if 500 + i = 599 then fz else if 500 + i < 550 then (F (500 + i - 500)).1 else (F (500 + i - 550)).2) _ _ _ ∧ va_T _ (if 550 + i = 598 then b else if 550 + i = 599 then fz else if 550 + i < 550 then (F (550 + i - 500)).1 else (F (550 + i - 550)).2) _ _ _ _ _
    rw [e5 i hi, e6 i hi]
    exact (hF i hi).2
  · exact va_Zof (hts _ (show Cond.laysStatic "java/lang/String" "COMPACT_STRINGS" "Z" ∈ lw_tbl by decide +kernel)) (hts _ (show Cond.initialized "java/lang/String" ∈ lw_tbl by decide +kernel)) (Cond.eq_int (hfl _ (show Cond.eq (Term.static "java/lang/String" "COMPACT_STRINGS" "Z") (Term.int 1) ∈ _ by decide +kernel)) rfl) hA
  · exact vx_Zqof (hts _ (show Cond.laysStatic Bundle.tN "UNASSIGNED_STACK" Bundle.steD ∈ lw_tbl by decide +kernel)) (hts _ (show Cond.initialized Bundle.tN ∈ lw_tbl by decide +kernel)) (hfl _ (show Cond.isRef (Term.static Bundle.tN "UNASSIGNED_STACK" Bundle.steD) ∈ _ by decide +kernel)) hA
  · exact vx_Zqof (hts _ (show Cond.laysStatic Bundle.tN "SUPPRESSED_SENTINEL" Bundle.listD ∈ lw_tbl by decide +kernel)) (hts _ (show Cond.initialized Bundle.tN ∈ lw_tbl by decide +kernel)) (hfl _ (show Cond.isRef (Term.static Bundle.tN "SUPPRESSED_SENTINEL" Bundle.listD) ∈ _ by decide +kernel)) hA
theorem GN_z {D : va_G} {ty : Nat → ClassId} {H0 : Heap} {AD : Nat → Nat} : GN (D, ty, H0, AD, PRz H0 AD) := fun U h => ⟨h.1, h.2.1, h.2.2.1, h.2.2.2.1, h.2.2.2.2.1, h.2.2.2.2.2.1.1, h.2.2.2.2.2.1.2⟩
theorem GW_z {D : va_G} {ty : Nat → ClassId} {H0 : Heap} {AD : Nat → Nat} : GW (D, ty, H0, AD, PRz H0 AD) := fun U h => h.2.2.2.2.2.2.1
theorem GA_z {D : va_G} {ty : Nat → ClassId} {H0 : Heap} {AD : Nat → Nat} : GA (D, ty, H0, AD, PRz H0 AD) := fun U h => h.2.2.2.2.2.2.2
end START
