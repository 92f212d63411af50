/-! the law's entry: the texts, what is kept -/
theorem str1 {s : State} {args : Array Value} {A : Nat → Prop} (hA : ∀ a : Nat, a < s.heap.size → ¬ A a) {t : Term} {l : Nat} {bs : List Int32} (hl : l < 2 ^ 31) (h : ∀ w ∈ strW t l bs, w.before args s = true) : ∃ k v : Nat, t.eval args s none [] s = some (.ref k) ∧ va_O "java/lang/String" k A s s.heap ∧ va_OF "java/lang/String" "coder" "B" (.int 0) k A s s.heap ∧ va_OF "java/lang/String" "value" "[B" (.ref v) k A s s.heap ∧ va_T .byte v l (fun j => .int (bs.getD j 0)) A s s.heap := by
  obtain ⟨adK, adV, hS, hE⟩ := vk_Sof (args := args) (s := s) (N := 1) (tm := fun _ => t) (len := [l]) (byt := [bs]) (A := A)
    (fun i hi => by
      obtain rfl : i = 0 := by omega
      exact hl)
    (fun i hi => h _ (List.mem_cons_self)) (fun i hi => h _ (List.mem_cons_of_mem _ List.mem_cons_self)) (fun i hi => h _ (List.mem_cons_of_mem _ (List.mem_cons_of_mem _ List.mem_cons_self)))
    (fun i hi => by
      obtain rfl : i = 0 := by omega
      exact h _ (List.mem_cons_of_mem _ (List.mem_cons_of_mem _ (List.mem_cons_of_mem _ List.mem_cons_self))))
    (fun i hi j hj => by
      obtain rfl : i = 0 := by omega
      exact h _ (List.mem_cons_of_mem _ (List.mem_cons_of_mem _ (List.mem_cons_of_mem _ (List.mem_cons_of_mem _ (List.mem_map.mpr ⟨j, List.mem_range.mpr hj, rfl⟩))))))
    (fun i j hi hj hij => absurd (show i = j by omega) hij) hA
  obtain ⟨h1, h2, h3, h4⟩ := hS.1 0 (by decide)
  exact ⟨adK 0, adV 0, hE 0 (by decide), h1, h2, h3, h4⟩
/-- what is kept of the entry -/
def PRz (H0 : Heap) (AD : Nat → Nat) (U : State) : Prop := (∀ w ∈ nestW, va_Nw w U) ∧ (∀ q ∈ strT, vk_R q.1 q.2.1 q.2.2.1 (AD (500 + q.2.2.2)) U) ∧ (∀ i, i < 24 → va_O "java/lang/String" (AD (500 + i)) (fun q => H0.size ≤ q) U H0 ∧ va_OF "java/lang/String" "coder" "B" (.int 0) (AD (500 + i)) (fun q => H0.size ≤ q) U H0 ∧ va_OF "java/lang/String" "value" "[B" (.ref (AD (550 + i))) (AD (500 + i)) (fun q => H0.size ≤ q) U H0 ∧ va_T .byte (AD (550 + i)) (strL.getD i 0) (fun j => .int ((strB.getD i []).getD j 0)) (fun q => H0.size ≤ q) U H0) ∧ va_Z "java/lang/String" "COMPACT_STRINGS" "Z" (.int 1) (fun q => H0.size ≤ q) U H0 ∧ (va_Z "jdk/internal/util/Preconditions" "SIOOBE_FORMATTER" "Ljava/util/function/BiFunction;" .null (fun q => H0.size ≤ q) U H0 ∨ va_Z "jdk/internal/util/Preconditions" "SIOOBE_FORMATTER" "Ljava/util/function/BiFunction;" (.ref (AD 599)) (fun q => H0.size ≤ q) U H0) ∧ (vx_Zq Bundle.tN "UNASSIGNED_STACK" Bundle.steD (fun q => H0.size ≤ q) U H0 ∧ vx_Zq Bundle.tN "SUPPRESSED_SENTINEL" Bundle.listD (fun q => H0.size ≤ q) U H0) ∧ (∀ w ∈ Bx, va_Nw w U) ∧ (va_AO RX1 U ∧ va_AO RX3 U ∧ va_AO RX5 U ∧ va_AO RX10 U)
theorem nk_warm {s U : State} (hW : s.WarmedH U.vm) : ∀ w : Cond, nkind w = true → va_Nw w s → va_Nw w U := by
  intro w hk h
  cases w <;> first | exact va_Nw.warmF hW h | exact va_Nw.warmM hW h | exact va_Nw.warmD hW h | exact va_Nw.warmC hW h | cases hk
theorem PRz.warm {H0 : Heap} {AD : Nat → Nat} : ∀ s U : State, s.WarmedH U.vm → PRz H0 AD s → PRz H0 AD U := by
  intro s U hW h
  obtain ⟨h1, h2, h3, h4, h5, ⟨h6, h7⟩, h8, h9⟩ := h
  have ha := hW.alike
  exact ⟨fun w hw => nk_warm hW w (nestW_k w hw) (h1 w hw), fun q hq => vk_R.warm hW (h2 q hq), fun i hi => ⟨va_O.moved ha (h3 i hi).1, va_OF.moved ha (h3 i hi).2.1, va_OF.moved ha (h3 i hi).2.2.1, va_T.moved ha (h3 i hi).2.2.2⟩, va_Z.moved ha h4, h5.imp (va_Z.moved ha) (va_Z.moved ha), ⟨vx_Zq.moved ha h6, vx_Zq.moved ha h7⟩, fun w hw => nk_warm hW w (Bx_k w hw) (h8 w hw), va_AO.moved ha h9.1, va_AO.moved ha h9.2.1, va_AO.moved ha h9.2.2.1, va_AO.moved ha h9.2.2.2⟩
