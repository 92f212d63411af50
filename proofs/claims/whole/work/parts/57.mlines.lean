/-! the reference: lines -/
/-- the token's cells and one town may have changed -/
def FM (M : Nat) (mi : MI) (ml : ML) (mi' : MI) (ml' : ML) : Prop := (∀ a, a ≠ 1000 → (a < M ∨ M + 20 ≤ a) → mi' a = mi a) ∧ (∀ a, a ≠ 1000 → a ≠ M + 17 → ml' a = ml a) ∧ ∀ j, j < 8 ∨ 14 < j → mi' 1000 j = mi 1000 j
section M13l
variable {G : GG} {post : PT} {mi m : MI} {ml l : ML} {mr : MR} {dom : List Nat} {M : Nat} {t : TW} {B : Nat → Nat} {n p : Nat} {N : NS}
theorem FG.fm (M : Nat) (h : FG mi ml m l) : FM M mi ml m l := ⟨fun a x _ => h.1 a x, fun a x _ => h.2.1 a x, h.2.2⟩
theorem FM.pu (h : FM M mi ml m l) (hM : MM M) {a j : Nat} (ha : M ≤ a ∧ a < M + 20) (x : Int32) : FM M mi ml (up m a j x) l := by
  have hge := hM.ge
  exact ⟨fun b y z => by rw [up_off _ _ (by omega)]; exact h.1 b y z, h.2.1, fun i hi => by rw [up_off _ _ (by omega)]; exact h.2.2 i hi⟩
theorem FM.pl (h : FM M mi ml m l) (j : Nat) (x : Int64) : FM M mi ml m (upl l (M + 17) j x) := ⟨h.1, fun a y z => by rw [upl_off _ _ z]; exact h.2.1 a y z, h.2.2⟩
theorem MZ.pu {x : ER Nat} (h : MZ m l B n x) {a j : Nat} (ha : a ≠ 1000) (y : Int32) : MZ (up m a j y) l B n x := by
  have e : up m a j y 1000 = m 1000 := up_off _ _ (fun q => ha q.symm)
  cases x with
  | inl e0 => unfold MZ; rw [e]; exact h
  | inr p => unfold MZ TK; rw [e]; exact h
theorem MZ.pl {x : ER Nat} (h : MZ m l B n x) {a j : Nat} (ha : a ≠ 1000) (y : Int64) : MZ m (upl l a j y) B n x := by
  have e : upl l a j y 1000 = l 1000 := upl_off _ _ (fun q => ha q.symm)
  cases x with
  | inl e0 => exact h
  | inr p => unfold MZ TK; rw [e]; exact h
theorem RM.put (h : RM m M t) {r i x : Nat} (h1 : 1 ≤ r) (h2 : r ≤ 16) : RM (up m (M + r) i (nI x)) M (ut t r i x) := by
  refine ⟨fun j hj => ?_, fun r' a b j hj => ?_⟩
  · rw [up_off _ _ (by omega), ut_ne _ _ (by omega)]; exact h.1 j hj
  · by_cases q : r' = r
    · subst q
      by_cases q2 : j = i
      · subst q2; rw [up_at, ut_at]
      · rw [up_ne _ _ q2, ut_ne _ _ (fun z => q2 z.2)]; exact h.2 r' a b j hj
    · rw [up_off _ _ (by omega), ut_ne _ _ (fun z => q z.1)]; exact h.2 r' a b j hj
theorem RM.put0 (h : RM m M t) {i x : Nat} : RM (up m M i (nI x)) M (ut t 0 i x) := by
  refine ⟨fun j hj => ?_, fun r' a b j hj => ?_⟩
  · by_cases q2 : j = i
    · subst q2; rw [up_at, ut_at]
    · rw [up_ne _ _ q2, ut_ne _ _ (fun z => q2 z.2)]; exact h.1 j hj
  · rw [up_off _ _ (by omega), ut_ne _ _ (by omega)]; exact h.2 r' a b j hj
theorem RM.o (h : RM m M t) {a j : Nat} {x : Int32} (ha : a ≠ M → ∀ r, 1 ≤ r → r ≤ 16 → a ≠ M + r) (h9 : a = M → 9 ≤ j) : RM (up m a j x) M t := by
  refine ⟨fun i hi => ?_, fun r h1 h2 i hi => ?_⟩
  · by_cases q : M = a
    · subst q; have := h9 rfl; rw [up_ne _ _ (by omega)]; exact h.1 i hi
    · rw [up_off _ _ q]; exact h.1 i hi
  · by_cases q : a = M
    · rw [up_off _ _ (by omega)]; exact h.2 r h1 h2 i hi
    · rw [up_off _ _ (fun z => ha q r h1 h2 z.symm)]; exact h.2 r h1 h2 i hi
theorem RNM.pu (h : RNM m l M N) {r i : Nat} (hr : r ≤ 16) (h9 : r = 0 → i < 9) (x : Int32) : RNM (up m (M + r) i x) l M N := by
  unfold RNM
  rw [up_off _ _ (show M + 18 ≠ M + r by omega), up_off _ _ (show M + 19 ≠ M + r by omega)]
  refine ⟨h.1, ?_, h.2.2⟩
  by_cases q : r = 0
  · subst q; have := h9 rfl; rw [Nat.add_zero, up_ne _ _ (by omega)]; exact h.2.1
  · rw [up_off _ _ (by omega)]; exact h.2.1
theorem RM.f (h : RM mi M t) (hM : MM M) (f : FG mi ml m l) : RM m M t := RM_lo hM (fun n hn => f.1 n (by omega)) h
theorem frN_nN {s k : Nat} (h17 : N.1 < 17) : frN B n N p = es Prod.fst (nN B n N s k p) := by
  unfold frN nN
  by_cases hc : tS B n p = 1 ∧ lsN B n p = 7
  · have hcc : ¬ ¬ (tS B n p = 1 ∧ lsN B n p = 7) := fun q => q hc
    rw [if_neg hcc, if_neg hcc]
    by_cases h2 : ixN N (tH B n p) < N.1
    · rw [if_pos h2, if_pos (Or.inl h2)]; rfl
    · rw [if_neg h2, if_neg (by omega)]; rfl
  · rw [if_pos hc, if_pos hc]; rfl
theorem ix_ad {h w : Int64} {s k : Nat} (hf : ixN N w < N.1) : ixN (adN N h s k) w = ixN N w := by
  have h1 := rq_stop (fun k => !decide (N.2.1 k = w)) N.1 0 hf
  unfold ixN
  refine Nat.le_antisymm ?_ ?_
  · by_cases q : rq (fun j => !decide ((adN N h s k).2.1 j = w)) (adN N h s k).1 0 ≤ rq (fun k => !decide (N.2.1 k = w)) N.1 0
    · exact q
    · have h2 := (rq_in (fun j => !decide ((adN N h s k).2.1 j = w)) (adN N h s k).1 0 _ (Nat.zero_le _) (Nat.lt_of_not_le q)).1
      have e : (adN N h s k).2.1 (rq (fun k => !decide (N.2.1 k = w)) N.1 0) = N.2.1 (rq (fun k => !decide (N.2.1 k = w)) N.1 0) := if_neg (Nat.ne_of_lt hf)
      rw [e] at h2
      exact absurd (h2.symm.trans h1) (by decide)
  · by_cases q : rq (fun k => !decide (N.2.1 k = w)) N.1 0 ≤ rq (fun j => !decide ((adN N h s k).2.1 j = w)) (adN N h s k).1 0
    · exact q
    · have q := Nat.lt_of_not_le q
      have h2 := (rq_in (fun k => !decide (N.2.1 k = w)) N.1 0 _ (Nat.zero_le _) q)
      have h3 := rq_stop (fun j => !decide ((adN N h s k).2.1 j = w)) (adN N h s k).1 0 (show _ < N.1 + 1 from Nat.lt_succ_of_lt h2.2)
      have e : (adN N h s k).2.1 (rq (fun j => !decide ((adN N h s k).2.1 j = w)) (adN N h s k).1 0) = N.2.1 (rq (fun j => !decide ((adN N h s k).2.1 j = w)) (adN N h s k).1 0) := if_neg (Nat.ne_of_lt h2.2)
      rw [e] at h3
      exact absurd (h2.1.symm.trans h3) (by decide)
theorem fN_ad {h : Int64} {s k : Nat} (hs : s ≠ 1) : fN B n (adN N h s k) 1 p = fN B n N 1 p := by
  unfold fN
  by_cases hc : tS B n p = 1 ∧ lsN B n p = 7
  · have hcc : ¬ ¬ (tS B n p = 1 ∧ lsN B n p = 7) := fun q => q hc
    rw [if_neg hcc, if_neg hcc]
    have hle : ixN N (tH B n p) ≤ N.1 := rq_le _ _ _ (by omega)
    by_cases hf : ixN N (tH B n p) < N.1
    · rw [ix_ad hf]
      have e1 : (adN N h s k).2.2.1 (ixN N (tH B n p)) = N.2.2.1 (ixN N (tH B n p)) := if_neg (Nat.ne_of_lt hf)
      have e2 : (adN N h s k).2.2.2 (ixN N (tH B n p)) = N.2.2.2 (ixN N (tH B n p)) := if_neg (Nat.ne_of_lt hf)
      have e3 : (adN N h s k).1 = N.1 + 1 := rfl
      rw [e1, e2, e3]
      by_cases h2 : N.2.2.1 (ixN N (tH B n p)) = 1
      · rw [if_neg (by omega), if_neg (by omega)]
      · rw [if_pos (Or.inr h2), if_pos (Or.inr h2)]
    · have hr : ixN N (tH B n p) = N.1 ∨ ¬ N.2.2.1 (ixN N (tH B n p)) = 1 := Or.inl (by omega)
      rw [if_pos hr]
      refine if_pos ?_
      have hle2 : ixN (adN N h s k) (tH B n p) ≤ N.1 + 1 := rq_le _ _ _ (Nat.zero_le _)
      by_cases h3 : ixN (adN N h s k) (tH B n p) = N.1 + 1
      · exact Or.inl h3
      · right
        by_cases h4 : ixN (adN N h s k) (tH B n p) = N.1
        · rw [h4]; show ¬ (if N.1 = N.1 then s else _) = 1; rw [if_pos rfl]; exact hs
        · exfalso
          have h5 : ixN (adN N h s k) (tH B n p) < N.1 := by omega
          have h6 := rq_stop (fun j => !decide ((adN N h s k).2.1 j = tH B n p)) (adN N h s k).1 0 (show _ < N.1 + 1 by exact Nat.lt_succ_of_lt h5)
          have e : (adN N h s k).2.1 (ixN (adN N h s k) (tH B n p)) = N.2.1 (ixN (adN N h s k) (tH B n p)) := if_neg (Nat.ne_of_lt h5)
          have h6 : (!decide ((adN N h s k).2.1 (ixN (adN N h s k) (tH B n p)) = tH B n p)) = false := h6
          rw [e] at h6
          have h7 := (rq_in (fun k => !decide (N.2.1 k = tH B n p)) N.1 0 (ixN (adN N h s k) (tH B n p)) (Nat.zero_le _) (show _ < ixN N (tH B n p) by omega)).1
          exact absurd (h7.symm.trans h6) (by decide)
  · rw [if_pos hc, if_pos hc]
end M13l
